section
-- ===== PART A: goes FIRST, ahead of the names: the tables' words, and 'selects' of the private methods out of them =====
/-- a private method of a class that the tables say can be made, by its rows of tables_1 -/
def lw_okq (q : MethodName × Nat) : Prop := (q.1.cls ≠ "java/lang/invoke/MethodHandle" ∧ q.1.cls ≠ "java/lang/invoke/VarHandle") ∧ Cond.instantiable q.1.cls q.2 ∈ tables_1 ∧ Cond.privateMethod q.1 ∈ tables_1 ∧ Cond.instanceMethod q.1 ∈ tables_1
theorem lw_p0 : lw_okq (⟨"BumpStreets", "tell", "(I)I"⟩, 7) := ⟨⟨by decide +kernel, by decide +kernel⟩, List.mem_of_getElem? (i := 14) (by decide +kernel), List.mem_of_getElem? (i := 151) (by decide +kernel), List.mem_of_getElem? (i := 152) (by decide +kernel)⟩
theorem lw_p1 : lw_okq (⟨"BumpStreets$Town", "nextPace", "(IIII)I"⟩, 8) := ⟨⟨by decide +kernel, by decide +kernel⟩, List.mem_of_getElem? (i := 22) (by decide +kernel), List.mem_of_getElem? (i := 195) (by decide +kernel), List.mem_of_getElem? (i := 196) (by decide +kernel)⟩
theorem lw_p2 : lw_okq (⟨"BumpStreets$Town", "agePaint", "()Z"⟩, 8) := ⟨⟨by decide +kernel, by decide +kernel⟩, List.mem_of_getElem? (i := 22) (by decide +kernel), List.mem_of_getElem? (i := 306) (by decide +kernel), List.mem_of_getElem? (i := 307) (by decide +kernel)⟩
theorem lw_p3 : lw_okq (⟨"BumpStreets$Town", "chooseStreet", "(I)V"⟩, 8) := ⟨⟨by decide +kernel, by decide +kernel⟩, List.mem_of_getElem? (i := 22) (by decide +kernel), List.mem_of_getElem? (i := 310) (by decide +kernel), List.mem_of_getElem? (i := 311) (by decide +kernel)⟩
theorem lw_p4 : lw_okq (⟨"BumpStreets$Tape", "nextToken", "()V"⟩, 6) := ⟨⟨by decide +kernel, by decide +kernel⟩, List.mem_of_getElem? (i := 66) (by decide +kernel), List.mem_of_getElem? (i := 399) (by decide +kernel), List.mem_of_getElem? (i := 400) (by decide +kernel)⟩
theorem lw_p5 : lw_okq (⟨"BumpStreets$Tape", "readNumber", "()V"⟩, 6) := ⟨⟨by decide +kernel, by decide +kernel⟩, List.mem_of_getElem? (i := 66) (by decide +kernel), List.mem_of_getElem? (i := 409) (by decide +kernel), List.mem_of_getElem? (i := 410) (by decide +kernel)⟩
theorem lw_p6 : lw_okq (⟨"BumpStreets$Tape", "takeItem", "(LBumpStreets$Town;)Z"⟩, 6) := ⟨⟨by decide +kernel, by decide +kernel⟩, List.mem_of_getElem? (i := 66) (by decide +kernel), List.mem_of_getElem? (i := 414) (by decide +kernel), List.mem_of_getElem? (i := 415) (by decide +kernel)⟩
theorem lw_p7 : lw_okq (⟨"BumpStreets$Tape", "kindNamed", "()I"⟩, 6) := ⟨⟨by decide +kernel, by decide +kernel⟩, List.mem_of_getElem? (i := 66) (by decide +kernel), List.mem_of_getElem? (i := 418) (by decide +kernel), List.mem_of_getElem? (i := 419) (by decide +kernel)⟩
theorem lw_p8 : lw_okq (⟨"BumpStreets$Tape", "isWord", "(Ljava/lang/String;)Z"⟩, 6) := ⟨⟨by decide +kernel, by decide +kernel⟩, List.mem_of_getElem? (i := 66) (by decide +kernel), List.mem_of_getElem? (i := 423) (by decide +kernel), List.mem_of_getElem? (i := 424) (by decide +kernel)⟩
theorem lw_p9 : lw_okq (⟨"BumpStreets$Tape", "takeDriver", "(LBumpStreets$Town;I)Z"⟩, 6) := ⟨⟨by decide +kernel, by decide +kernel⟩, List.mem_of_getElem? (i := 66) (by decide +kernel), List.mem_of_getElem? (i := 480) (by decide +kernel), List.mem_of_getElem? (i := 481) (by decide +kernel)⟩
theorem lw_p10 : lw_okq (⟨"BumpStreets$Tape", "isNumber", "(II)Z"⟩, 6) := ⟨⟨by decide +kernel, by decide +kernel⟩, List.mem_of_getElem? (i := 66) (by decide +kernel), List.mem_of_getElem? (i := 486) (by decide +kernel), List.mem_of_getElem? (i := 487) (by decide +kernel)⟩
theorem lw_p11 : lw_okq (⟨"BumpStreets$Tape", "thingNamed", "()I"⟩, 6) := ⟨⟨by decide +kernel, by decide +kernel⟩, List.mem_of_getElem? (i := 66) (by decide +kernel), List.mem_of_getElem? (i := 491) (by decide +kernel), List.mem_of_getElem? (i := 492) (by decide +kernel)⟩
theorem lw_p12 : lw_okq (⟨"BumpStreets$Tape", "takeThing", "(LBumpStreets$Town;I)Z"⟩, 6) := ⟨⟨by decide +kernel, by decide +kernel⟩, List.mem_of_getElem? (i := 66) (by decide +kernel), List.mem_of_getElem? (i := 500) (by decide +kernel), List.mem_of_getElem? (i := 501) (by decide +kernel)⟩
theorem lw_p13 : lw_okq (⟨"BumpStreets", "sheetFault", "(I)I"⟩, 7) := ⟨⟨by decide +kernel, by decide +kernel⟩, List.mem_of_getElem? (i := 14) (by decide +kernel), List.mem_of_getElem? (i := 520) (by decide +kernel), List.mem_of_getElem? (i := 521) (by decide +kernel)⟩
theorem lw_p14 : lw_okq (⟨"BumpStreetsModel", "no", "(I)I"⟩, 21) := ⟨⟨by decide +kernel, by decide +kernel⟩, List.mem_of_getElem? (i := 586) (by decide +kernel), List.mem_of_getElem? (i := 670) (by decide +kernel), List.mem_of_getElem? (i := 671) (by decide +kernel)⟩
theorem lw_p15 : lw_okq (⟨"BumpStreetsModel", "lies", "(III)V"⟩, 21) := ⟨⟨by decide +kernel, by decide +kernel⟩, List.mem_of_getElem? (i := 586) (by decide +kernel), List.mem_of_getElem? (i := 675) (by decide +kernel), List.mem_of_getElem? (i := 676) (by decide +kernel)⟩
def lw_privs_1 : List (MethodName × Nat) := [(⟨"BumpStreets", "tell", "(I)I"⟩, 7), (⟨"BumpStreets$Town", "nextPace", "(IIII)I"⟩, 8), (⟨"BumpStreets$Town", "agePaint", "()Z"⟩, 8), (⟨"BumpStreets$Town", "chooseStreet", "(I)V"⟩, 8), (⟨"BumpStreets$Tape", "nextToken", "()V"⟩, 6), (⟨"BumpStreets$Tape", "readNumber", "()V"⟩, 6), (⟨"BumpStreets$Tape", "takeItem", "(LBumpStreets$Town;)Z"⟩, 6), (⟨"BumpStreets$Tape", "kindNamed", "()I"⟩, 6), (⟨"BumpStreets$Tape", "isWord", "(Ljava/lang/String;)Z"⟩, 6), (⟨"BumpStreets$Tape", "takeDriver", "(LBumpStreets$Town;I)Z"⟩, 6), (⟨"BumpStreets$Tape", "isNumber", "(II)Z"⟩, 6), (⟨"BumpStreets$Tape", "thingNamed", "()I"⟩, 6), (⟨"BumpStreets$Tape", "takeThing", "(LBumpStreets$Town;I)Z"⟩, 6), (⟨"BumpStreets", "sheetFault", "(I)I"⟩, 7), (⟨"BumpStreetsModel", "no", "(I)I"⟩, 21), (⟨"BumpStreetsModel", "lies", "(III)V"⟩, 21)]
theorem lw_r1 : ∀ q ∈ lw_privs_1, lw_okq q := List.forall_mem_cons.mpr ⟨lw_p0, List.forall_mem_cons.mpr ⟨lw_p1, List.forall_mem_cons.mpr ⟨lw_p2, List.forall_mem_cons.mpr ⟨lw_p3, List.forall_mem_cons.mpr ⟨lw_p4, List.forall_mem_cons.mpr ⟨lw_p5, List.forall_mem_cons.mpr ⟨lw_p6, List.forall_mem_cons.mpr ⟨lw_p7, List.forall_mem_cons.mpr ⟨lw_p8, List.forall_mem_cons.mpr ⟨lw_p9, List.forall_mem_cons.mpr ⟨lw_p10, List.forall_mem_cons.mpr ⟨lw_p11, List.forall_mem_cons.mpr ⟨lw_p12, List.forall_mem_cons.mpr ⟨lw_p13, List.forall_mem_cons.mpr ⟨lw_p14, List.forall_mem_cons.mpr ⟨lw_p15, fun _ h => absurd h List.not_mem_nil⟩⟩⟩⟩⟩⟩⟩⟩⟩⟩⟩⟩⟩⟩⟩⟩
theorem lw_p16 : lw_okq (⟨"BumpStreetsModel", "get", "(II)I"⟩, 21) := ⟨⟨by decide +kernel, by decide +kernel⟩, List.mem_of_getElem? (i := 586) (by decide +kernel), List.mem_of_getElem? (i := 691) (by decide +kernel), List.mem_of_getElem? (i := 692) (by decide +kernel)⟩
theorem lw_p17 : lw_okq (⟨"BumpStreetsModel", "shookBy", "(II)I"⟩, 21) := ⟨⟨by decide +kernel, by decide +kernel⟩, List.mem_of_getElem? (i := 586) (by decide +kernel), List.mem_of_getElem? (i := 695) (by decide +kernel), List.mem_of_getElem? (i := 696) (by decide +kernel)⟩
theorem lw_p18 : lw_okq (⟨"BumpStreetsModel", "goesThrough", "(III)V"⟩, 21) := ⟨⟨by decide +kernel, by decide +kernel⟩, List.mem_of_getElem? (i := 586) (by decide +kernel), List.mem_of_getElem? (i := 699) (by decide +kernel), List.mem_of_getElem? (i := 700) (by decide +kernel)⟩
theorem lw_p19 : lw_okq (⟨"BumpStreetsModel", "thingsIn", "(I)I"⟩, 21) := ⟨⟨by decide +kernel, by decide +kernel⟩, List.mem_of_getElem? (i := 586) (by decide +kernel), List.mem_of_getElem? (i := 727) (by decide +kernel), List.mem_of_getElem? (i := 728) (by decide +kernel)⟩
theorem lw_p20 : lw_okq (⟨"BumpStreetsModel", "bumpsIn", "(I)I"⟩, 21) := ⟨⟨by decide +kernel, by decide +kernel⟩, List.mem_of_getElem? (i := 586) (by decide +kernel), List.mem_of_getElem? (i := 731) (by decide +kernel), List.mem_of_getElem? (i := 732) (by decide +kernel)⟩
theorem lw_p21 : lw_okq (⟨"BumpStreetsModel", "allShook", "()I"⟩, 21) := ⟨⟨by decide +kernel, by decide +kernel⟩, List.mem_of_getElem? (i := 586) (by decide +kernel), List.mem_of_getElem? (i := 739) (by decide +kernel), List.mem_of_getElem? (i := 740) (by decide +kernel)⟩
theorem lw_p22 : lw_okq (⟨"BumpStreetsModel", "allTook", "()I"⟩, 21) := ⟨⟨by decide +kernel, by decide +kernel⟩, List.mem_of_getElem? (i := 586) (by decide +kernel), List.mem_of_getElem? (i := 743) (by decide +kernel), List.mem_of_getElem? (i := 744) (by decide +kernel)⟩
theorem lw_p23 : lw_okq (⟨"BumpStreetsModel", "tookBy", "(II)I"⟩, 21) := ⟨⟨by decide +kernel, by decide +kernel⟩, List.mem_of_getElem? (i := 586) (by decide +kernel), List.mem_of_getElem? (i := 747) (by decide +kernel), List.mem_of_getElem? (i := 748) (by decide +kernel)⟩
theorem lw_p24 : lw_okq (⟨"BumpStreetsModel", "addsDriver", "(I)V"⟩, 21) := ⟨⟨by decide +kernel, by decide +kernel⟩, List.mem_of_getElem? (i := 586) (by decide +kernel), List.mem_of_getElem? (i := 755) (by decide +kernel), List.mem_of_getElem? (i := 756) (by decide +kernel)⟩
theorem lw_p25 : lw_okq (⟨"BumpStreetsModel", "puts", "(III)V"⟩, 21) := ⟨⟨by decide +kernel, by decide +kernel⟩, List.mem_of_getElem? (i := 586) (by decide +kernel), List.mem_of_getElem? (i := 759) (by decide +kernel), List.mem_of_getElem? (i := 760) (by decide +kernel)⟩
theorem lw_p26 : lw_okq (⟨"BumpStreetsModel", "isDriver", "(I)Z"⟩, 21) := ⟨⟨by decide +kernel, by decide +kernel⟩, List.mem_of_getElem? (i := 586) (by decide +kernel), List.mem_of_getElem? (i := 767) (by decide +kernel), List.mem_of_getElem? (i := 768) (by decide +kernel)⟩
theorem lw_p27 : lw_okq (⟨"BumpStreetsModel", "areBoth", "(II)Z"⟩, 21) := ⟨⟨by decide +kernel, by decide +kernel⟩, List.mem_of_getElem? (i := 586) (by decide +kernel), List.mem_of_getElem? (i := 794) (by decide +kernel), List.mem_of_getElem? (i := 795) (by decide +kernel)⟩
theorem lw_p28 : lw_okq (⟨"BumpStreetsModel", "goes", "(I)V"⟩, 21) := ⟨⟨by decide +kernel, by decide +kernel⟩, List.mem_of_getElem? (i := 586) (by decide +kernel), List.mem_of_getElem? (i := 810) (by decide +kernel), List.mem_of_getElem? (i := 811) (by decide +kernel)⟩
theorem lw_p29 : lw_okq (⟨"BumpStreetsModel", "chooses", "(I)V"⟩, 21) := ⟨⟨by decide +kernel, by decide +kernel⟩, List.mem_of_getElem? (i := 586) (by decide +kernel), List.mem_of_getElem? (i := 814) (by decide +kernel), List.mem_of_getElem? (i := 815) (by decide +kernel)⟩
theorem lw_p30 : lw_okq (⟨"BumpStreetsModel", "setsAside", "()V"⟩, 21) := ⟨⟨by decide +kernel, by decide +kernel⟩, List.mem_of_getElem? (i := 586) (by decide +kernel), List.mem_of_getElem? (i := 822) (by decide +kernel), List.mem_of_getElem? (i := 823) (by decide +kernel)⟩
theorem lw_p31 : lw_okq (⟨"BumpStreetsModel", "laysBack", "()V"⟩, 21) := ⟨⟨by decide +kernel, by decide +kernel⟩, List.mem_of_getElem? (i := 586) (by decide +kernel), List.mem_of_getElem? (i := 826) (by decide +kernel), List.mem_of_getElem? (i := 827) (by decide +kernel)⟩
def lw_privs_2 : List (MethodName × Nat) := [(⟨"BumpStreetsModel", "get", "(II)I"⟩, 21), (⟨"BumpStreetsModel", "shookBy", "(II)I"⟩, 21), (⟨"BumpStreetsModel", "goesThrough", "(III)V"⟩, 21), (⟨"BumpStreetsModel", "thingsIn", "(I)I"⟩, 21), (⟨"BumpStreetsModel", "bumpsIn", "(I)I"⟩, 21), (⟨"BumpStreetsModel", "allShook", "()I"⟩, 21), (⟨"BumpStreetsModel", "allTook", "()I"⟩, 21), (⟨"BumpStreetsModel", "tookBy", "(II)I"⟩, 21), (⟨"BumpStreetsModel", "addsDriver", "(I)V"⟩, 21), (⟨"BumpStreetsModel", "puts", "(III)V"⟩, 21), (⟨"BumpStreetsModel", "isDriver", "(I)Z"⟩, 21), (⟨"BumpStreetsModel", "areBoth", "(II)Z"⟩, 21), (⟨"BumpStreetsModel", "goes", "(I)V"⟩, 21), (⟨"BumpStreetsModel", "chooses", "(I)V"⟩, 21), (⟨"BumpStreetsModel", "setsAside", "()V"⟩, 21), (⟨"BumpStreetsModel", "laysBack", "()V"⟩, 21)]
theorem lw_r2 : ∀ q ∈ lw_privs_2, lw_okq q := List.forall_mem_cons.mpr ⟨lw_p16, List.forall_mem_cons.mpr ⟨lw_p17, List.forall_mem_cons.mpr ⟨lw_p18, List.forall_mem_cons.mpr ⟨lw_p19, List.forall_mem_cons.mpr ⟨lw_p20, List.forall_mem_cons.mpr ⟨lw_p21, List.forall_mem_cons.mpr ⟨lw_p22, List.forall_mem_cons.mpr ⟨lw_p23, List.forall_mem_cons.mpr ⟨lw_p24, List.forall_mem_cons.mpr ⟨lw_p25, List.forall_mem_cons.mpr ⟨lw_p26, List.forall_mem_cons.mpr ⟨lw_p27, List.forall_mem_cons.mpr ⟨lw_p28, List.forall_mem_cons.mpr ⟨lw_p29, List.forall_mem_cons.mpr ⟨lw_p30, List.forall_mem_cons.mpr ⟨lw_p31, fun _ h => absurd h List.not_mem_nil⟩⟩⟩⟩⟩⟩⟩⟩⟩⟩⟩⟩⟩⟩⟩⟩
theorem lw_p32 : lw_okq (⟨"BumpStreetsModel", "onBy", "(II)I"⟩, 21) := ⟨⟨by decide +kernel, by decide +kernel⟩, List.mem_of_getElem? (i := 586) (by decide +kernel), List.mem_of_getElem? (i := 834) (by decide +kernel), List.mem_of_getElem? (i := 835) (by decide +kernel)⟩
theorem lw_p33 : lw_okq (⟨"BumpStreetsModel", "quickest", "()I"⟩, 21) := ⟨⟨by decide +kernel, by decide +kernel⟩, List.mem_of_getElem? (i := 586) (by decide +kernel), List.mem_of_getElem? (i := 846) (by decide +kernel), List.mem_of_getElem? (i := 847) (by decide +kernel)⟩
theorem lw_p34 : lw_okq (⟨"BumpStreetsModel", "nextToken", "()V"⟩, 21) := ⟨⟨by decide +kernel, by decide +kernel⟩, List.mem_of_getElem? (i := 586) (by decide +kernel), List.mem_of_getElem? (i := 887) (by decide +kernel), List.mem_of_getElem? (i := 888) (by decide +kernel)⟩
theorem lw_p35 : lw_okq (⟨"BumpStreetsModel", "readsItem", "()Z"⟩, 21) := ⟨⟨by decide +kernel, by decide +kernel⟩, List.mem_of_getElem? (i := 586) (by decide +kernel), List.mem_of_getElem? (i := 903) (by decide +kernel), List.mem_of_getElem? (i := 904) (by decide +kernel)⟩
theorem lw_p36 : lw_okq (⟨"BumpStreetsModel", "wordOf", "([C)I"⟩, 21) := ⟨⟨by decide +kernel, by decide +kernel⟩, List.mem_of_getElem? (i := 586) (by decide +kernel), List.mem_of_getElem? (i := 907) (by decide +kernel), List.mem_of_getElem? (i := 908) (by decide +kernel)⟩
theorem lw_p37 : lw_okq (⟨"BumpStreetsModel", "readsDriver", "(I)Z"⟩, 21) := ⟨⟨by decide +kernel, by decide +kernel⟩, List.mem_of_getElem? (i := 586) (by decide +kernel), List.mem_of_getElem? (i := 911) (by decide +kernel), List.mem_of_getElem? (i := 912) (by decide +kernel)⟩
theorem lw_p38 : lw_okq (⟨"BumpStreetsModel", "takesNumber", "(II)I"⟩, 21) := ⟨⟨by decide +kernel, by decide +kernel⟩, List.mem_of_getElem? (i := 586) (by decide +kernel), List.mem_of_getElem? (i := 915) (by decide +kernel), List.mem_of_getElem? (i := 916) (by decide +kernel)⟩
theorem lw_p39 : lw_okq (⟨"BumpStreetsModel", "readsThing", "(I)Z"⟩, 21) := ⟨⟨by decide +kernel, by decide +kernel⟩, List.mem_of_getElem? (i := 586) (by decide +kernel), List.mem_of_getElem? (i := 919) (by decide +kernel), List.mem_of_getElem? (i := 920) (by decide +kernel)⟩
theorem lw_p40 : lw_okq (⟨"BumpStreetsModel", "wrongSheet", "(I)I"⟩, 21) := ⟨⟨by decide +kernel, by decide +kernel⟩, List.mem_of_getElem? (i := 586) (by decide +kernel), List.mem_of_getElem? (i := 934) (by decide +kernel), List.mem_of_getElem? (i := 935) (by decide +kernel)⟩
theorem lw_p41 : lw_okq (⟨"BumpStreetsModel", "told", "(II)J"⟩, 21) := ⟨⟨by decide +kernel, by decide +kernel⟩, List.mem_of_getElem? (i := 586) (by decide +kernel), List.mem_of_getElem? (i := 938) (by decide +kernel), List.mem_of_getElem? (i := 939) (by decide +kernel)⟩
theorem lw_p42 : lw_okq (⟨"BumpStreetsModel", "tells", "(IIJ)V"⟩, 21) := ⟨⟨by decide +kernel, by decide +kernel⟩, List.mem_of_getElem? (i := 586) (by decide +kernel), List.mem_of_getElem? (i := 942) (by decide +kernel), List.mem_of_getElem? (i := 943) (by decide +kernel)⟩
theorem lw_p43 : lw_okq (⟨"BumpStreetsModel", "wrongWith", "(IZ)I"⟩, 21) := ⟨⟨by decide +kernel, by decide +kernel⟩, List.mem_of_getElem? (i := 586) (by decide +kernel), List.mem_of_getElem? (i := 954) (by decide +kernel), List.mem_of_getElem? (i := 955) (by decide +kernel)⟩
theorem lw_p44 : lw_okq (⟨"BumpStreetsModel", "isSo", "(I)Z"⟩, 21) := ⟨⟨by decide +kernel, by decide +kernel⟩, List.mem_of_getElem? (i := 586) (by decide +kernel), List.mem_of_getElem? (i := 967) (by decide +kernel), List.mem_of_getElem? (i := 968) (by decide +kernel)⟩
def lw_privs_3 : List (MethodName × Nat) := [(⟨"BumpStreetsModel", "onBy", "(II)I"⟩, 21), (⟨"BumpStreetsModel", "quickest", "()I"⟩, 21), (⟨"BumpStreetsModel", "nextToken", "()V"⟩, 21), (⟨"BumpStreetsModel", "readsItem", "()Z"⟩, 21), (⟨"BumpStreetsModel", "wordOf", "([C)I"⟩, 21), (⟨"BumpStreetsModel", "readsDriver", "(I)Z"⟩, 21), (⟨"BumpStreetsModel", "takesNumber", "(II)I"⟩, 21), (⟨"BumpStreetsModel", "readsThing", "(I)Z"⟩, 21), (⟨"BumpStreetsModel", "wrongSheet", "(I)I"⟩, 21), (⟨"BumpStreetsModel", "told", "(II)J"⟩, 21), (⟨"BumpStreetsModel", "tells", "(IIJ)V"⟩, 21), (⟨"BumpStreetsModel", "wrongWith", "(IZ)I"⟩, 21), (⟨"BumpStreetsModel", "isSo", "(I)Z"⟩, 21)]
theorem lw_r3 : ∀ q ∈ lw_privs_3, lw_okq q := List.forall_mem_cons.mpr ⟨lw_p32, List.forall_mem_cons.mpr ⟨lw_p33, List.forall_mem_cons.mpr ⟨lw_p34, List.forall_mem_cons.mpr ⟨lw_p35, List.forall_mem_cons.mpr ⟨lw_p36, List.forall_mem_cons.mpr ⟨lw_p37, List.forall_mem_cons.mpr ⟨lw_p38, List.forall_mem_cons.mpr ⟨lw_p39, List.forall_mem_cons.mpr ⟨lw_p40, List.forall_mem_cons.mpr ⟨lw_p41, List.forall_mem_cons.mpr ⟨lw_p42, List.forall_mem_cons.mpr ⟨lw_p43, List.forall_mem_cons.mpr ⟨lw_p44, fun _ h => absurd h List.not_mem_nil⟩⟩⟩⟩⟩⟩⟩⟩⟩⟩⟩⟩⟩
def lw_privs : List (MethodName × Nat) := lw_privs_1 ++ (lw_privs_2 ++ (lw_privs_3))
def lw_tbl : List Cond := k2_sels lw_privs ++ tables_1
theorem lw_privs_ok : ∀ q ∈ lw_privs, lw_okq q := by
  show ∀ q ∈ lw_privs_1 ++ (lw_privs_2 ++ (lw_privs_3)), lw_okq q
  exact List.forall_mem_append.mpr ⟨lw_r1, List.forall_mem_append.mpr ⟨lw_r2, lw_r3⟩⟩
end
section
def RX0 : String := "BumpStreets$Kinds"
def TX0 : u_T := fun k => match k with
  | _ => ("", "", "", false)
def tyX0 : Nat → FieldType := fun k => match k with
  | _ => .int
abbrev wsX00 : List Cond := u_ws RX0 TX0 0
theorem nmX0 : ∀ a, a < 0 → ∀ b, b < 0 → a ≠ b → (TX0 a).2.1 ≠ (TX0 b).2.1 := by decide +kernel
theorem tyX0_ok : ∀ k, k < 0 → parseFieldDescriptor (TX0 k).2.2.1 = some (tyX0 k) := by decide +kernel
abbrev cX0_above : ByteArray := prog_2_method_2_code
def yX0_above : MethodName := ⟨RX0, "above", "(I)I"⟩
abbrev cX0_isOf : ByteArray := prog_2_method_3_code
def yX0_isOf : MethodName := ⟨RX0, "isOf", "(II)Z"⟩
abbrev cX0_slowsTo : ByteArray := prog_2_method_4_code
def yX0_slowsTo : MethodName := ⟨RX0, "slowsTo", "(IIIII)I"⟩
abbrev cX0_overBump : ByteArray := prog_2_method_5_code
def yX0_overBump : MethodName := ⟨RX0, "overBump", "(III)I"⟩
abbrev cX0_hurries : ByteArray := prog_2_method_6_code
def yX0_hurries : MethodName := ⟨RX0, "hurries", "(I)I"⟩
abbrev cX0_shakes : ByteArray := prog_2_method_7_code
def yX0_shakes : MethodName := ⟨RX0, "shakes", "(III)I"⟩
def RX1 : String := "BumpStreets$Sheet"
def TX1 : u_T := fun k => match k with
  | 0 => ("BumpStreets$Sheet", "bits", "I", false)
  | 1 => ("BumpStreets$Sheet", "size", "I", false)
  | _ => ("BumpStreets$Sheet", "numbers", "[J", true)
def tyX1 : Nat → FieldType := fun k => match k with
  | 0 => .int
  | 1 => .int
  | _ => .array .long
abbrev wsX10 : List Cond := u_ws RX1 TX1 3
theorem nmX1 : ∀ a, a < 3 → ∀ b, b < 3 → a ≠ b → (TX1 a).2.1 ≠ (TX1 b).2.1 := by decide +kernel
theorem tyX1_ok : ∀ k, k < 3 → parseFieldDescriptor (TX1 k).2.2.1 = some (tyX1 k) := by decide +kernel
abbrev cX1_init : ByteArray := prog_3_method_1_code
def yX1_init : MethodName := ⟨RX1, "<init>", "()V"⟩
abbrev cX1_become : ByteArray := prog_3_method_2_code
def yX1_become : MethodName := ⟨RX1, "become", "(II)V"⟩
abbrev cX1_put : ByteArray := prog_3_method_3_code
def yX1_put : MethodName := ⟨RX1, "put", "(IJ)V"⟩
abbrev cX1_hasPart : ByteArray := prog_3_method_4_code
def yX1_hasPart : MethodName := ⟨RX1, "hasPart", "(II)Z"⟩
def RX2 : String := "BumpStreets$Tape"
def TX2 : u_T := fun k => match k with
  | 0 => ("BumpStreets$Tape", "bytes", "[I", true)
  | 1 => ("BumpStreets$Tape", "length", "I", false)
  | 2 => ("BumpStreets$Tape", "token", "I", false)
  | 3 => ("BumpStreets$Tape", "start", "I", false)
  | 4 => ("BumpStreets$Tape", "end", "I", false)
  | _ => ("BumpStreets$Tape", "value", "I", false)
def tyX2 : Nat → FieldType := fun k => match k with
  | 0 => .array .int
  | 1 => .int
  | 2 => .int
  | 3 => .int
  | 4 => .int
  | _ => .int
abbrev wsX20 : List Cond := u_ws RX2 TX2 6
theorem nmX2 : ∀ a, a < 6 → ∀ b, b < 6 → a ≠ b → (TX2 a).2.1 ≠ (TX2 b).2.1 := by decide +kernel
theorem tyX2_ok : ∀ k, k < 6 → parseFieldDescriptor (TX2 k).2.2.1 = some (tyX2 k) := by decide +kernel
abbrev cX2_init : ByteArray := prog_4_method_1_code
def yX2_init : MethodName := ⟨RX2, "<init>", "()V"⟩
abbrev cX2_append : ByteArray := prog_4_method_2_code
def yX2_append : MethodName := ⟨RX2, "append", "(II)V"⟩
abbrev cX2_tellInto : ByteArray := prog_4_method_3_code
def yX2_tellInto : MethodName := ⟨RX2, "tellInto", "(LBumpStreets$Town;)I"⟩
abbrev cX2_takeItem : ByteArray := prog_4_method_4_code
def yX2_takeItem : MethodName := ⟨RX2, "takeItem", "(LBumpStreets$Town;)Z"⟩
abbrev cX2_takeDriver : ByteArray := prog_4_method_5_code
def yX2_takeDriver : MethodName := ⟨RX2, "takeDriver", "(LBumpStreets$Town;I)Z"⟩
abbrev cX2_takeThing : ByteArray := prog_4_method_6_code
def yX2_takeThing : MethodName := ⟨RX2, "takeThing", "(LBumpStreets$Town;I)Z"⟩
abbrev cX2_isNumber : ByteArray := prog_4_method_7_code
def yX2_isNumber : MethodName := ⟨RX2, "isNumber", "(II)Z"⟩
abbrev cX2_kindNamed : ByteArray := prog_4_method_8_code
def yX2_kindNamed : MethodName := ⟨RX2, "kindNamed", "()I"⟩
abbrev cX2_thingNamed : ByteArray := prog_4_method_9_code
def yX2_thingNamed : MethodName := ⟨RX2, "thingNamed", "()I"⟩
abbrev cX2_isWord : ByteArray := prog_4_method_10_code
def yX2_isWord : MethodName := ⟨RX2, "isWord", "(Ljava/lang/String;)Z"⟩
abbrev cX2_nextToken : ByteArray := prog_4_method_11_code
def yX2_nextToken : MethodName := ⟨RX2, "nextToken", "()V"⟩
abbrev cX2_readNumber : ByteArray := prog_4_method_12_code
def yX2_readNumber : MethodName := ⟨RX2, "readNumber", "()V"⟩
abbrev cX2_isLetter : ByteArray := prog_4_method_13_code
def yX2_isLetter : MethodName := ⟨RX2, "isLetter", "(I)Z"⟩
abbrev cX2_isDigit : ByteArray := prog_4_method_14_code
def yX2_isDigit : MethodName := ⟨RX2, "isDigit", "(I)Z"⟩
def RX3 : String := "BumpStreets$Town"
def TX3 : u_T := fun k => match k with
  | 0 => ("BumpStreets$Town", "day", "I", false)
  | 1 => ("BumpStreets$Town", "inches", "I", false)
  | 2 => ("BumpStreets$Town", "drivers", "I", false)
  | 3 => ("BumpStreets$Town", "things", "[I", true)
  | 4 => ("BumpStreets$Town", "ages", "[I", true)
  | 5 => ("BumpStreets$Town", "kinds", "[I", true)
  | 6 => ("BumpStreets$Town", "wishes", "[I", true)
  | _ => ("BumpStreets$Town", "goesIn", "[I", true)
def tyX3 : Nat → FieldType := fun k => match k with
  | 0 => .int
  | 1 => .int
  | 2 => .int
  | 3 => .array .int
  | 4 => .array .int
  | 5 => .array .int
  | 6 => .array .int
  | _ => .array .int
abbrev wsX30 : List Cond := u_ws RX3 TX3 8
theorem nmX3 : ∀ a, a < 8 → ∀ b, b < 8 → a ≠ b → (TX3 a).2.1 ≠ (TX3 b).2.1 := by decide +kernel
theorem tyX3_ok : ∀ k, k < 8 → parseFieldDescriptor (TX3 k).2.2.1 = some (tyX3 k) := by decide +kernel
abbrev cX3_init : ByteArray := prog_5_method_1_code
def yX3_init : MethodName := ⟨RX3, "<init>", "()V"⟩
abbrev cX3_becomeLike : ByteArray := prog_5_method_2_code
def yX3_becomeLike : MethodName := ⟨RX3, "becomeLike", "(LBumpStreets$Town;)V"⟩
abbrev cX3_hasDriver : ByteArray := prog_5_method_3_code
def yX3_hasDriver : MethodName := ⟨RX3, "hasDriver", "(I)Z"⟩
abbrev cX3_addDriver : ByteArray := prog_5_method_4_code
def yX3_addDriver : MethodName := ⟨RX3, "addDriver", "(I)I"⟩
abbrev cX3_lay : ByteArray := prog_5_method_5_code
def yX3_lay : MethodName := ⟨RX3, "lay", "(III)V"⟩
abbrev cX3_stretchesWithThing : ByteArray := prog_5_method_6_code
def yX3_stretchesWithThing : MethodName := ⟨RX3, "stretchesWithThing", "(I)I"⟩
abbrev cX3_bumpsIn : ByteArray := prog_5_method_7_code
def yX3_bumpsIn : MethodName := ⟨RX3, "bumpsIn", "(I)I"⟩
abbrev cX3_bumpsInAll : ByteArray := prog_5_method_8_code
def yX3_bumpsInAll : MethodName := ⟨RX3, "bumpsInAll", "()I"⟩
abbrev cX3_whoGoesIn : ByteArray := prog_5_method_9_code
def yX3_whoGoesIn : MethodName := ⟨RX3, "whoGoesIn", "(I)I"⟩
abbrev cX3_wishesOfAll : ByteArray := prog_5_method_10_code
def yX3_wishesOfAll : MethodName := ⟨RX3, "wishesOfAll", "()I"⟩
abbrev cX3_nextPace : ByteArray := prog_5_method_11_code
def yX3_nextPace : MethodName := ⟨RX3, "nextPace", "(IIII)I"⟩
abbrev cX3_paceOn : ByteArray := prog_5_method_12_code
def yX3_paceOn : MethodName := ⟨RX3, "paceOn", "(IIII)I"⟩
abbrev cX3_topPace : ByteArray := prog_5_method_13_code
def yX3_topPace : MethodName := ⟨RX3, "topPace", "(III)I"⟩
abbrev cX3_timeFor : ByteArray := prog_5_method_14_code
def yX3_timeFor : MethodName := ⟨RX3, "timeFor", "(III)I"⟩
abbrev cX3_shakingBy : ByteArray := prog_5_method_15_code
def yX3_shakingBy : MethodName := ⟨RX3, "shakingBy", "(III)I"⟩
abbrev cX3_goesJustAs : ByteArray := prog_5_method_16_code
def yX3_goesJustAs : MethodName := ⟨RX3, "goesJustAs", "(LBumpStreets$Sheet;III)Z"⟩
abbrev cX3_shakingIn : ByteArray := prog_5_method_17_code
def yX3_shakingIn : MethodName := ⟨RX3, "shakingIn", "(I)I"⟩
abbrev cX3_shakingOfAll : ByteArray := prog_5_method_18_code
def yX3_shakingOfAll : MethodName := ⟨RX3, "shakingOfAll", "()I"⟩
abbrev cX3_timeOfAll : ByteArray := prog_5_method_19_code
def yX3_timeOfAll : MethodName := ⟨RX3, "timeOfAll", "()I"⟩
abbrev cX3_timeInAllStreets : ByteArray := prog_5_method_20_code
def yX3_timeInAllStreets : MethodName := ⟨RX3, "timeInAllStreets", "(I)I"⟩
abbrev cX3_howManyGoElsewhere : ByteArray := prog_5_method_21_code
def yX3_howManyGoElsewhere : MethodName := ⟨RX3, "howManyGoElsewhere", "(LBumpStreets$Town;)I"⟩
abbrev cX3_letDaysGo : ByteArray := prog_5_method_22_code
def yX3_letDaysGo : MethodName := ⟨RX3, "letDaysGo", "(I)V"⟩
abbrev cX3_letDayGo : ByteArray := prog_5_method_23_code
def yX3_letDayGo : MethodName := ⟨RX3, "letDayGo", "(Z)V"⟩
abbrev cX3_agePaint : ByteArray := prog_5_method_24_code
def yX3_agePaint : MethodName := ⟨RX3, "agePaint", "()Z"⟩
abbrev cX3_chooseStreet : ByteArray := prog_5_method_25_code
def yX3_chooseStreet : MethodName := ⟨RX3, "chooseStreet", "(I)V"⟩
def RX4 : String := "BumpStreets"
def TX4 : u_T := fun k => match k with
  | 0 => ("BumpStreets", "present", "LBumpStreets$Town;", true)
  | 1 => ("BumpStreets", "kept", "LBumpStreets$Town;", true)
  | 2 => ("BumpStreets", "trial", "LBumpStreets$Town;", true)
  | 3 => ("BumpStreets", "tape", "LBumpStreets$Tape;", true)
  | 4 => ("BumpStreets", "sheets", "[LBumpStreets$Sheet;", true)
  | 5 => ("BumpStreets", "told", "[I", true)
  | _ => ("BumpStreets", "isKept", "Z", false)
def tyX4 : Nat → FieldType := fun k => match k with
  | 0 => .object "BumpStreets$Town"
  | 1 => .object "BumpStreets$Town"
  | 2 => .object "BumpStreets$Town"
  | 3 => .object "BumpStreets$Tape"
  | 4 => .array (.object "BumpStreets$Sheet")
  | 5 => .array .int
  | _ => .boolean
abbrev wsX40 : List Cond := u_ws RX4 TX4 7
theorem nmX4 : ∀ a, a < 7 → ∀ b, b < 7 → a ≠ b → (TX4 a).2.1 ≠ (TX4 b).2.1 := by decide +kernel
theorem tyX4_ok : ∀ k, k < 7 → parseFieldDescriptor (TX4 k).2.2.1 = some (tyX4 k) := by decide +kernel
abbrev cX4_init : ByteArray := prog_1_method_1_code
def yX4_init : MethodName := ⟨RX4, "<init>", "()V"⟩
abbrev cX4_thing : ByteArray := prog_1_method_2_code
def yX4_thing : MethodName := ⟨RX4, "thing", "(III)I"⟩
abbrev cX4_stretch : ByteArray := prog_1_method_3_code
def yX4_stretch : MethodName := ⟨RX4, "stretch", "(III)I"⟩
abbrev cX4_high : ByteArray := prog_1_method_4_code
def yX4_high : MethodName := ⟨RX4, "high", "(I)I"⟩
abbrev cX4_street : ByteArray := prog_1_method_5_code
def yX4_street : MethodName := ⟨RX4, "street", "(II)I"⟩
abbrev cX4_now : ByteArray := prog_1_method_6_code
def yX4_now : MethodName := ⟨RX4, "now", "(I)I"⟩
abbrev cX4_driver : ByteArray := prog_1_method_7_code
def yX4_driver : MethodName := ⟨RX4, "driver", "(I)I"⟩
abbrev cX4_of : ByteArray := prog_1_method_8_code
def yX4_of : MethodName := ⟨RX4, "of", "(II)I"⟩
abbrev cX4_set : ByteArray := prog_1_method_9_code
def yX4_set : MethodName := ⟨RX4, "set", "(III)I"⟩
abbrev cX4_turn : ByteArray := prog_1_method_10_code
def yX4_turn : MethodName := ⟨RX4, "turn", "(II)I"⟩
abbrev cX4_as : ByteArray := prog_1_method_11_code
def yX4_as : MethodName := ⟨RX4, "as", "(II)I"⟩
abbrev cX4_slows : ByteArray := prog_1_method_12_code
def yX4_slows : MethodName := ⟨RX4, "slows", "(III)I"⟩
abbrev cX4_quick : ByteArray := prog_1_method_13_code
def yX4_quick : MethodName := ⟨RX4, "quick", "(III)I"⟩
abbrev cX4_takes : ByteArray := prog_1_method_14_code
def yX4_takes : MethodName := ⟨RX4, "takes", "(II)I"⟩
abbrev cX4_shaken : ByteArray := prog_1_method_15_code
def yX4_shaken : MethodName := ⟨RX4, "shaken", "(II)I"⟩
abbrev cX4_days : ByteArray := prog_1_method_16_code
def yX4_days : MethodName := ⟨RX4, "days", "(I)I"⟩
abbrev cX4_on : ByteArray := prog_1_method_17_code
def yX4_on : MethodName := ⟨RX4, "on", "(II)I"⟩
abbrev cX4_then : ByteArray := prog_1_method_18_code
def yX4_then : MethodName := ⟨RX4, "then", "(II)I"⟩
abbrev cX4_leaves : ByteArray := prog_1_method_19_code
def yX4_leaves : MethodName := ⟨RX4, "leaves", "(I)I"⟩
abbrev cX4_tame : ByteArray := prog_1_method_20_code
def yX4_tame : MethodName := ⟨RX4, "tame", "(II)I"⟩
abbrev cX4_clear : ByteArray := prog_1_method_21_code
def yX4_clear : MethodName := ⟨RX4, "clear", "(II)I"⟩
abbrev cX4_lower : ByteArray := prog_1_method_22_code
def yX4_lower : MethodName := ⟨RX4, "lower", "(II)I"⟩
abbrev cX4_kind : ByteArray := prog_1_method_23_code
def yX4_kind : MethodName := ⟨RX4, "kind", "(II)I"⟩
abbrev cX4_wish : ByteArray := prog_1_method_24_code
def yX4_wish : MethodName := ⟨RX4, "wish", "(III)I"⟩
abbrev cX4_drives : ByteArray := prog_1_method_25_code
def yX4_drives : MethodName := ⟨RX4, "drives", "(I)I"⟩
abbrev cX4_slowest : ByteArray := prog_1_method_26_code
def yX4_slowest : MethodName := ⟨RX4, "slowest", "()I"⟩
abbrev cX4_feed : ByteArray := prog_1_method_27_code
def yX4_feed : MethodName := ⟨RX4, "feed", "(II)I"⟩
abbrev cX4_wipe : ByteArray := prog_1_method_28_code
def yX4_wipe : MethodName := ⟨RX4, "wipe", "()I"⟩
abbrev cX4_town : ByteArray := prog_1_method_29_code
def yX4_town : MethodName := ⟨RX4, "town", "()I"⟩
abbrev cX4_sheet : ByteArray := prog_1_method_30_code
def yX4_sheet : MethodName := ⟨RX4, "sheet", "(III)I"⟩
abbrev cX4_write : ByteArray := prog_1_method_31_code
def yX4_write : MethodName := ⟨RX4, "write", "(IIJ)J"⟩
abbrev cX4_copy : ByteArray := prog_1_method_32_code
def yX4_copy : MethodName := ⟨RX4, "copy", "(IIIII)I"⟩
abbrev cX4_lays : ByteArray := prog_1_method_33_code
def yX4_lays : MethodName := ⟨RX4, "lays", "(II)I"⟩
abbrev cX4_book : ByteArray := prog_1_method_34_code
def yX4_book : MethodName := ⟨RX4, "book", "(III)I"⟩
abbrev cX4_read : ByteArray := prog_1_method_35_code
def yX4_read : MethodName := ⟨RX4, "read", "(III)I"⟩
abbrev cX4_image : ByteArray := prog_1_method_36_code
def yX4_image : MethodName := ⟨RX4, "image", "()I"⟩
abbrev cX4_undo : ByteArray := prog_1_method_37_code
def yX4_undo : MethodName := ⟨RX4, "undo", "()I"⟩
abbrev cX4_tear : ByteArray := prog_1_method_38_code
def yX4_tear : MethodName := ⟨RX4, "tear", "()I"⟩
abbrev cX4_count : ByteArray := prog_1_method_39_code
def yX4_count : MethodName := ⟨RX4, "count", "(I)I"⟩
abbrev cX4_status : ByteArray := prog_1_method_40_code
def yX4_status : MethodName := ⟨RX4, "status", "(I)I"⟩
abbrev cX4_tell : ByteArray := prog_1_method_41_code
def yX4_tell : MethodName := ⟨RX4, "tell", "(I)I"⟩
abbrev cX4_sheetFault : ByteArray := prog_1_method_42_code
def yX4_sheetFault : MethodName := ⟨RX4, "sheetFault", "(I)I"⟩
abbrev cX4_isWithin : ByteArray := prog_1_method_43_code
def yX4_isWithin : MethodName := ⟨RX4, "isWithin", "(III)Z"⟩
abbrev cX4_isStreet : ByteArray := prog_1_method_44_code
def yX4_isStreet : MethodName := ⟨RX4, "isStreet", "(I)Z"⟩
abbrev cX4_isStretch : ByteArray := prog_1_method_45_code
def yX4_isStretch : MethodName := ⟨RX4, "isStretch", "(II)Z"⟩
abbrev cX4_isKind : ByteArray := prog_1_method_46_code
def yX4_isKind : MethodName := ⟨RX4, "isKind", "(I)Z"⟩
abbrev cX4_placeOf : ByteArray := prog_1_method_47_code
def yX4_placeOf : MethodName := ⟨RX4, "placeOf", "(II)I"⟩
def RX5 : String := "BumpStreetsModel"
def TX5 : u_T := fun k => match k with
  | 0 => ("BumpStreetsModel", "s", "[I", true)
  | 1 => ("BumpStreetsModel", "kept", "[I", true)
  | 2 => ("BumpStreetsModel", "aside", "[I", true)
  | 3 => ("BumpStreetsModel", "isKept", "Z", false)
  | 4 => ("BumpStreetsModel", "found", "[I", true)
  | 5 => ("BumpStreetsModel", "quick", "[I", true)
  | 6 => ("BumpStreetsModel", "took", "I", false)
  | 7 => ("BumpStreetsModel", "shook", "I", false)
  | 8 => ("BumpStreetsModel", "tape", "[I", true)
  | 9 => ("BumpStreetsModel", "taped", "I", false)
  | 10 => ("BumpStreetsModel", "token", "I", false)
  | 11 => ("BumpStreetsModel", "begun", "I", false)
  | 12 => ("BumpStreetsModel", "ended", "I", false)
  | 13 => ("BumpStreetsModel", "value", "J", false)
  | 14 => ("BumpStreetsModel", "letters", "[C", true)
  | 15 => ("BumpStreetsModel", "more", "[C", true)
  | 16 => ("BumpStreetsModel", "others", "[C", true)
  | 17 => ("BumpStreetsModel", "widths", "[I", true)
  | 18 => ("BumpStreetsModel", "sizes", "[I", true)
  | 19 => ("BumpStreetsModel", "cells", "[J", true)
  | _ => ("BumpStreetsModel", "carried", "[J", true)
def tyX5 : Nat → FieldType := fun k => match k with
  | 0 => .array .int
  | 1 => .array .int
  | 2 => .array .int
  | 3 => .boolean
  | 4 => .array .int
  | 5 => .array .int
  | 6 => .int
  | 7 => .int
  | 8 => .array .int
  | 9 => .int
  | 10 => .int
  | 11 => .int
  | 12 => .int
  | 13 => .long
  | 14 => .array .char
  | 15 => .array .char
  | 16 => .array .char
  | 17 => .array .int
  | 18 => .array .int
  | 19 => .array .long
  | _ => .array .long
abbrev wsX50 : List Cond := u_ws RX5 TX5 21
theorem nmX5 : ∀ a, a < 21 → ∀ b, b < 21 → a ≠ b → (TX5 a).2.1 ≠ (TX5 b).2.1 := by decide +kernel
theorem tyX5_ok : ∀ k, k < 21 → parseFieldDescriptor (TX5 k).2.2.1 = some (tyX5 k) := by decide +kernel
abbrev cX5_init : ByteArray := prog_7_method_1_code
def yX5_init : MethodName := ⟨RX5, "<init>", "()V"⟩
abbrev cX5_no : ByteArray := prog_7_method_2_code
def yX5_no : MethodName := ⟨RX5, "no", "(I)I"⟩
abbrev cX5_in1 : ByteArray := prog_7_method_3_code
def yX5_in1 : MethodName := ⟨RX5, "in1", "(III)Z"⟩
abbrev cX5_less : ByteArray := prog_7_method_4_code
def yX5_less : MethodName := ⟨RX5, "less", "(II)I"⟩
abbrev cX5_isDriver : ByteArray := prog_7_method_6_code
def yX5_isDriver : MethodName := ⟨RX5, "isDriver", "(I)Z"⟩
abbrev cX5_isStreet : ByteArray := prog_7_method_7_code
def yX5_isStreet : MethodName := ⟨RX5, "isStreet", "(I)Z"⟩
abbrev cX5_isStretch : ByteArray := prog_7_method_8_code
def yX5_isStretch : MethodName := ⟨RX5, "isStretch", "(I)Z"⟩
abbrev cX5_get : ByteArray := prog_7_method_9_code
def yX5_get : MethodName := ⟨RX5, "get", "(II)I"⟩
abbrev cX5_puts : ByteArray := prog_7_method_10_code
def yX5_puts : MethodName := ⟨RX5, "puts", "(III)V"⟩
abbrev cX5_setsAside : ByteArray := prog_7_method_11_code
def yX5_setsAside : MethodName := ⟨RX5, "setsAside", "()V"⟩
abbrev cX5_laysBack : ByteArray := prog_7_method_12_code
def yX5_laysBack : MethodName := ⟨RX5, "laysBack", "()V"⟩
abbrev cX5_isBus : ByteArray := prog_7_method_13_code
def yX5_isBus : MethodName := ⟨RX5, "isBus", "(I)Z"⟩
abbrev cX5_isLocal : ByteArray := prog_7_method_14_code
def yX5_isLocal : MethodName := ⟨RX5, "isLocal", "(I)Z"⟩
abbrev cX5_atBump : ByteArray := prog_7_method_15_code
def yX5_atBump : MethodName := ⟨RX5, "atBump", "(III)I"⟩
abbrev cX5_plainSlow : ByteArray := prog_7_method_16_code
def yX5_plainSlow : MethodName := ⟨RX5, "plainSlow", "(IIIII)I"⟩
abbrev cX5_slowsTo : ByteArray := prog_7_method_17_code
def yX5_slowsTo : MethodName := ⟨RX5, "slowsTo", "(IIIII)I"⟩
abbrev cX5_hurriesOf : ByteArray := prog_7_method_18_code
def yX5_hurriesOf : MethodName := ⟨RX5, "hurriesOf", "(I)I"⟩
abbrev cX5_shakesAt : ByteArray := prog_7_method_19_code
def yX5_shakesAt : MethodName := ⟨RX5, "shakesAt", "(III)I"⟩
abbrev cX5_goesThrough : ByteArray := prog_7_method_20_code
def yX5_goesThrough : MethodName := ⟨RX5, "goesThrough", "(III)V"⟩
abbrev cX5_tookBy : ByteArray := prog_7_method_21_code
def yX5_tookBy : MethodName := ⟨RX5, "tookBy", "(II)I"⟩
abbrev cX5_shookBy : ByteArray := prog_7_method_22_code
def yX5_shookBy : MethodName := ⟨RX5, "shookBy", "(II)I"⟩
abbrev cX5_allShook : ByteArray := prog_7_method_23_code
def yX5_allShook : MethodName := ⟨RX5, "allShook", "()I"⟩
abbrev cX5_allTook : ByteArray := prog_7_method_24_code
def yX5_allTook : MethodName := ⟨RX5, "allTook", "()I"⟩
abbrev cX5_chooses : ByteArray := prog_7_method_25_code
def yX5_chooses : MethodName := ⟨RX5, "chooses", "(I)V"⟩
abbrev cX5_goes : ByteArray := prog_7_method_26_code
def yX5_goes : MethodName := ⟨RX5, "goes", "(I)V"⟩
abbrev cX5_lies : ByteArray := prog_7_method_27_code
def yX5_lies : MethodName := ⟨RX5, "lies", "(III)V"⟩
abbrev cX5_thing : ByteArray := prog_7_method_28_code
def yX5_thing : MethodName := ⟨RX5, "thing", "(III)I"⟩
abbrev cX5_stretch : ByteArray := prog_7_method_29_code
def yX5_stretch : MethodName := ⟨RX5, "stretch", "(III)I"⟩
abbrev cX5_high : ByteArray := prog_7_method_30_code
def yX5_high : MethodName := ⟨RX5, "high", "(I)I"⟩
abbrev cX5_bumpsIn : ByteArray := prog_7_method_31_code
def yX5_bumpsIn : MethodName := ⟨RX5, "bumpsIn", "(I)I"⟩
abbrev cX5_thingsIn : ByteArray := prog_7_method_32_code
def yX5_thingsIn : MethodName := ⟨RX5, "thingsIn", "(I)I"⟩
abbrev cX5_street : ByteArray := prog_7_method_33_code
def yX5_street : MethodName := ⟨RX5, "street", "(II)I"⟩
abbrev cX5_now : ByteArray := prog_7_method_34_code
def yX5_now : MethodName := ⟨RX5, "now", "(I)I"⟩
abbrev cX5_addsDriver : ByteArray := prog_7_method_35_code
def yX5_addsDriver : MethodName := ⟨RX5, "addsDriver", "(I)V"⟩
abbrev cX5_driver : ByteArray := prog_7_method_36_code
def yX5_driver : MethodName := ⟨RX5, "driver", "(I)I"⟩
abbrev cX5_of : ByteArray := prog_7_method_37_code
def yX5_of : MethodName := ⟨RX5, "of", "(II)I"⟩
abbrev cX5_isWish : ByteArray := prog_7_method_38_code
def yX5_isWish : MethodName := ⟨RX5, "isWish", "(I)Z"⟩
abbrev cX5_set : ByteArray := prog_7_method_39_code
def yX5_set : MethodName := ⟨RX5, "set", "(III)I"⟩
abbrev cX5_turn : ByteArray := prog_7_method_40_code
def yX5_turn : MethodName := ⟨RX5, "turn", "(II)I"⟩
abbrev cX5_as : ByteArray := prog_7_method_41_code
def yX5_as : MethodName := ⟨RX5, "as", "(II)I"⟩
abbrev cX5_slows : ByteArray := prog_7_method_42_code
def yX5_slows : MethodName := ⟨RX5, "slows", "(III)I"⟩
abbrev cX5_areBoth : ByteArray := prog_7_method_43_code
def yX5_areBoth : MethodName := ⟨RX5, "areBoth", "(II)Z"⟩
abbrev cX5_quick : ByteArray := prog_7_method_44_code
def yX5_quick : MethodName := ⟨RX5, "quick", "(III)I"⟩
abbrev cX5_takes : ByteArray := prog_7_method_45_code
def yX5_takes : MethodName := ⟨RX5, "takes", "(II)I"⟩
abbrev cX5_shaken : ByteArray := prog_7_method_46_code
def yX5_shaken : MethodName := ⟨RX5, "shaken", "(II)I"⟩
abbrev cX5_days : ByteArray := prog_7_method_47_code
def yX5_days : MethodName := ⟨RX5, "days", "(I)I"⟩
abbrev cX5_on : ByteArray := prog_7_method_48_code
def yX5_on : MethodName := ⟨RX5, "on", "(II)I"⟩
abbrev cX5_onBy : ByteArray := prog_7_method_49_code
def yX5_onBy : MethodName := ⟨RX5, "onBy", "(II)I"⟩
abbrev cX5_then : ByteArray := prog_7_method_50_code
def yX5_then : MethodName := ⟨RX5, "then", "(II)I"⟩
abbrev cX5_leaves : ByteArray := prog_7_method_51_code
def yX5_leaves : MethodName := ⟨RX5, "leaves", "(I)I"⟩
abbrev cX5_quickest : ByteArray := prog_7_method_52_code
def yX5_quickest : MethodName := ⟨RX5, "quickest", "()I"⟩
abbrev cX5_tame : ByteArray := prog_7_method_53_code
def yX5_tame : MethodName := ⟨RX5, "tame", "(II)I"⟩
abbrev cX5_clear : ByteArray := prog_7_method_54_code
def yX5_clear : MethodName := ⟨RX5, "clear", "(II)I"⟩
abbrev cX5_lower : ByteArray := prog_7_method_55_code
def yX5_lower : MethodName := ⟨RX5, "lower", "(II)I"⟩
abbrev cX5_kind : ByteArray := prog_7_method_56_code
def yX5_kind : MethodName := ⟨RX5, "kind", "(II)I"⟩
abbrev cX5_wish : ByteArray := prog_7_method_57_code
def yX5_wish : MethodName := ⟨RX5, "wish", "(III)I"⟩
abbrev cX5_drives : ByteArray := prog_7_method_58_code
def yX5_drives : MethodName := ⟨RX5, "drives", "(I)I"⟩
abbrev cX5_slowest : ByteArray := prog_7_method_59_code
def yX5_slowest : MethodName := ⟨RX5, "slowest", "()I"⟩
abbrev cX5_feed : ByteArray := prog_7_method_60_code
def yX5_feed : MethodName := ⟨RX5, "feed", "(II)I"⟩
abbrev cX5_wipe : ByteArray := prog_7_method_61_code
def yX5_wipe : MethodName := ⟨RX5, "wipe", "()I"⟩
abbrev cX5_isLetter : ByteArray := prog_7_method_62_code
def yX5_isLetter : MethodName := ⟨RX5, "isLetter", "(I)Z"⟩
abbrev cX5_isDigit : ByteArray := prog_7_method_63_code
def yX5_isDigit : MethodName := ⟨RX5, "isDigit", "(I)Z"⟩
abbrev cX5_nextToken : ByteArray := prog_7_method_64_code
def yX5_nextToken : MethodName := ⟨RX5, "nextToken", "()V"⟩
abbrev cX5_wordOf : ByteArray := prog_7_method_65_code
def yX5_wordOf : MethodName := ⟨RX5, "wordOf", "([C)I"⟩
abbrev cX5_takesNumber : ByteArray := prog_7_method_66_code
def yX5_takesNumber : MethodName := ⟨RX5, "takesNumber", "(II)I"⟩
abbrev cX5_readsDriver : ByteArray := prog_7_method_67_code
def yX5_readsDriver : MethodName := ⟨RX5, "readsDriver", "(I)Z"⟩
abbrev cX5_readsThing : ByteArray := prog_7_method_68_code
def yX5_readsThing : MethodName := ⟨RX5, "readsThing", "(I)Z"⟩
abbrev cX5_readsItem : ByteArray := prog_7_method_69_code
def yX5_readsItem : MethodName := ⟨RX5, "readsItem", "()Z"⟩
abbrev cX5_town : ByteArray := prog_7_method_70_code
def yX5_town : MethodName := ⟨RX5, "town", "()I"⟩
abbrev cX5_isSheet : ByteArray := prog_7_method_71_code
def yX5_isSheet : MethodName := ⟨RX5, "isSheet", "(I)Z"⟩
abbrev cX5_wrongSheet : ByteArray := prog_7_method_72_code
def yX5_wrongSheet : MethodName := ⟨RX5, "wrongSheet", "(I)I"⟩
abbrev cX5_told : ByteArray := prog_7_method_73_code
def yX5_told : MethodName := ⟨RX5, "told", "(II)J"⟩
abbrev cX5_tells : ByteArray := prog_7_method_74_code
def yX5_tells : MethodName := ⟨RX5, "tells", "(IIJ)V"⟩
abbrev cX5_sheet : ByteArray := prog_7_method_75_code
def yX5_sheet : MethodName := ⟨RX5, "sheet", "(III)I"⟩
abbrev cX5_write : ByteArray := prog_7_method_76_code
def yX5_write : MethodName := ⟨RX5, "write", "(IIJ)J"⟩
abbrev cX5_copy : ByteArray := prog_7_method_77_code
def yX5_copy : MethodName := ⟨RX5, "copy", "(IIIII)I"⟩
abbrev cX5_wrongWith : ByteArray := prog_7_method_78_code
def yX5_wrongWith : MethodName := ⟨RX5, "wrongWith", "(IZ)I"⟩
abbrev cX5_lays : ByteArray := prog_7_method_79_code
def yX5_lays : MethodName := ⟨RX5, "lays", "(II)I"⟩
abbrev cX5_book : ByteArray := prog_7_method_80_code
def yX5_book : MethodName := ⟨RX5, "book", "(III)I"⟩
abbrev cX5_isSo : ByteArray := prog_7_method_81_code
def yX5_isSo : MethodName := ⟨RX5, "isSo", "(I)Z"⟩
abbrev cX5_read : ByteArray := prog_7_method_82_code
def yX5_read : MethodName := ⟨RX5, "read", "(III)I"⟩
abbrev cX5_image : ByteArray := prog_7_method_83_code
def yX5_image : MethodName := ⟨RX5, "image", "()I"⟩
abbrev cX5_undo : ByteArray := prog_7_method_84_code
def yX5_undo : MethodName := ⟨RX5, "undo", "()I"⟩
abbrev cX5_tear : ByteArray := prog_7_method_85_code
def yX5_tear : MethodName := ⟨RX5, "tear", "()I"⟩
abbrev cX5_count : ByteArray := prog_7_method_86_code
def yX5_count : MethodName := ⟨RX5, "count", "(I)I"⟩
abbrev cX5_status : ByteArray := prog_7_method_87_code
def yX5_status : MethodName := ⟨RX5, "status", "(I)I"⟩
def RJ9 : String := "java/lang/Math"
def TJ9 : u_T := fun k => match k with
  | _ => ("", "", "", false)
def tyJ9 : Nat → FieldType := fun k => match k with
  | _ => .int
abbrev wsJ90 : List Cond := u_ws RJ9 TJ9 0
theorem nmJ9 : ∀ a, a < 0 → ∀ b, b < 0 → a ≠ b → (TJ9 a).2.1 ≠ (TJ9 b).2.1 := by decide +kernel
theorem tyJ9_ok : ∀ k, k < 0 → parseFieldDescriptor (TJ9 k).2.2.1 = some (tyJ9 k) := by decide +kernel
abbrev cJ9_max_7cf53 : ByteArray := prog_8_method_65_code
def yJ9_max_7cf53 : MethodName := ⟨RJ9, "max", "(II)I"⟩
abbrev cJ9_min_7cf53 : ByteArray := prog_8_method_69_code
def yJ9_min_7cf53 : MethodName := ⟨RJ9, "min", "(II)I"⟩
def RJ0 : String := "java/lang/String"
def TJ0 : u_T := fun k => match k with
  | _ => ("", "", "", false)
def tyJ0 : Nat → FieldType := fun k => match k with
  | _ => .int
abbrev wsJ00 : List Cond := u_ws RJ0 TJ0 0
theorem nmJ0 : ∀ a, a < 0 → ∀ b, b < 0 → a ≠ b → (TJ0 a).2.1 ≠ (TJ0 b).2.1 := by decide +kernel
theorem tyJ0_ok : ∀ k, k < 0 → parseFieldDescriptor (TJ0 k).2.2.1 = some (tyJ0 k) := by decide +kernel
abbrev cJ0_length_8abf5 : ByteArray := prog_9_method_54_code
def yJ0_length_8abf5 : MethodName := ⟨RJ0, "length", "()I"⟩
abbrev cJ0_charAt_5068e : ByteArray := prog_9_method_56_code
def yJ0_charAt_5068e : MethodName := ⟨RJ0, "charAt", "(I)C"⟩
abbrev cJ0_coder_7d493 : ByteArray := prog_9_method_152_code
def yJ0_coder_7d493 : MethodName := ⟨RJ0, "coder", "()B"⟩
abbrev cJ0_isLatin1_aae02 : ByteArray := prog_9_method_154_code
def yJ0_isLatin1_aae02 : MethodName := ⟨RJ0, "isLatin1", "()Z"⟩
abbrev cJ0_checkIndex_df160 : ByteArray := prog_9_method_155_code
def yJ0_checkIndex_df160 : MethodName := ⟨RJ0, "checkIndex", "(II)V"⟩
def RJ1 : String := "java/lang/StringLatin1"
def TJ1 : u_T := fun k => match k with
  | _ => ("", "", "", false)
def tyJ1 : Nat → FieldType := fun k => match k with
  | _ => .int
abbrev wsJ10 : List Cond := u_ws RJ1 TJ1 0
theorem nmJ1 : ∀ a, a < 0 → ∀ b, b < 0 → a ≠ b → (TJ1 a).2.1 ≠ (TJ1 b).2.1 := by decide +kernel
theorem tyJ1_ok : ∀ k, k < 0 → parseFieldDescriptor (TJ1 k).2.2.1 = some (tyJ1 k) := by decide +kernel
abbrev cJ1_charAt_3b067 : ByteArray := prog_10_method_2_code
def yJ1_charAt_3b067 : MethodName := ⟨RJ1, "charAt", "([BI)C"⟩
def RJ2 : String := "java/lang/StringUTF16"
def TJ2 : u_T := fun k => match k with
  | _ => ("", "", "", false)
def tyJ2 : Nat → FieldType := fun k => match k with
  | _ => .int
abbrev wsJ20 : List Cond := u_ws RJ2 TJ2 0
theorem nmJ2 : ∀ a, a < 0 → ∀ b, b < 0 → a ≠ b → (TJ2 a).2.1 ≠ (TJ2 b).2.1 := by decide +kernel
theorem tyJ2_ok : ∀ k, k < 0 → parseFieldDescriptor (TJ2 k).2.2.1 = some (tyJ2 k) := by decide +kernel
abbrev cJ2_getChar_3b067 : ByteArray := prog_11_method_5_code
def yJ2_getChar_3b067 : MethodName := ⟨RJ2, "getChar", "([BI)C"⟩
abbrev cJ2_length_9d52b : ByteArray := prog_11_method_6_code
def yJ2_length_9d52b : MethodName := ⟨RJ2, "length", "([B)I"⟩
abbrev cJ2_charAt_3b067 : ByteArray := prog_11_method_83_code
def yJ2_charAt_3b067 : MethodName := ⟨RJ2, "charAt", "([BI)C"⟩
abbrev cJ2_checkIndex_2214a : ByteArray := prog_11_method_91_code
def yJ2_checkIndex_2214a : MethodName := ⟨RJ2, "checkIndex", "(I[B)V"⟩
def RJ10 : String := "java/lang/System"
def TJ10 : u_T := fun k => match k with
  | _ => ("", "", "", false)
def tyJ10 : Nat → FieldType := fun k => match k with
  | _ => .int
abbrev wsJ100 : List Cond := u_ws RJ10 TJ10 0
theorem nmJ10 : ∀ a, a < 0 → ∀ b, b < 0 → a ≠ b → (TJ10 a).2.1 ≠ (TJ10 b).2.1 := by decide +kernel
theorem tyJ10_ok : ∀ k, k < 0 → parseFieldDescriptor (TJ10 k).2.2.1 = some (tyJ10 k) := by decide +kernel
def RJ3 : String := "jdk/internal/util/Preconditions"
def TJ3 : u_T := fun k => match k with
  | _ => ("", "", "", false)
def tyJ3 : Nat → FieldType := fun k => match k with
  | _ => .int
abbrev wsJ30 : List Cond := u_ws RJ3 TJ3 0
theorem nmJ3 : ∀ a, a < 0 → ∀ b, b < 0 → a ≠ b → (TJ3 a).2.1 ≠ (TJ3 b).2.1 := by decide +kernel
theorem tyJ3_ok : ∀ k, k < 0 → parseFieldDescriptor (TJ3 k).2.2.1 = some (tyJ3 k) := by decide +kernel
abbrev cJ3_checkIndex_8e157 : ByteArray := prog_13_method_11_code
def yJ3_checkIndex_8e157 : MethodName := ⟨RJ3, "checkIndex", "(IILjava/util/function/BiFunction;)I"⟩
def RL : String := "BumpStreetsLaw"
abbrev cL_law : ByteArray := code
def yL_law : MethodName := ⟨RL, "law", "([I)Z"⟩
abbrev vwCl : List vw_C := [(RX1, TX1, 3), (RX2, TX2, 6), (RX3, TX3, 8), (RX4, TX4, 7), (RX5, TX5, 21)]
end
section
theorem dX0_above_0 : decode cX0_above 0 = .ok (.iload_n 0, 1) := by decide +kernel
theorem dX0_above_1 : decode cX0_above 1 = .ok (.tableswitch 41 1 5 #[35, 35, 35, 37, 39], 35) := by decide +kernel
theorem dX0_above_36 : decode cX0_above 36 = .ok (.iconst 0, 1) := by decide +kernel
theorem dX0_above_37 : decode cX0_above 37 = .ok (.ireturn, 1) := by decide +kernel
theorem dX0_above_38 : decode cX0_above 38 = .ok (.iconst 1, 1) := by decide +kernel
theorem dX0_above_39 : decode cX0_above 39 = .ok (.ireturn, 1) := by decide +kernel
theorem dX0_above_40 : decode cX0_above 40 = .ok (.iconst 3, 1) := by decide +kernel
theorem dX0_above_41 : decode cX0_above 41 = .ok (.ireturn, 1) := by decide +kernel
theorem dX0_above_42 : decode cX0_above 42 = .ok (.iconst (-1), 1) := by decide +kernel
theorem dX0_above_43 : decode cX0_above 43 = .ok (.ireturn, 1) := by decide +kernel
theorem dX0_isOf_0 : decode cX0_isOf 0 = .ok (.iload_n 0, 1) := by decide +kernel
theorem dX0_isOf_1 : decode cX0_isOf 1 = .ok (.istore_n 2, 1) := by decide +kernel
theorem dX0_isOf_2 : decode cX0_isOf 2 = .ok (.iconst 0, 1) := by decide +kernel
theorem dX0_isOf_3 : decode cX0_isOf 3 = .ok (.istore_n 3, 1) := by decide +kernel
theorem dX0_isOf_4 : decode cX0_isOf 4 = .ok (.iload_n 3, 1) := by decide +kernel
theorem dX0_isOf_5 : decode cX0_isOf 5 = .ok (.bipush 6, 2) := by decide +kernel
theorem dX0_isOf_7 : decode cX0_isOf 7 = .ok (.if_icmp .ge 25, 3) := by decide +kernel
theorem dX0_isOf_10 : decode cX0_isOf 10 = .ok (.iload_n 2, 1) := by decide +kernel
theorem dX0_isOf_11 : decode cX0_isOf 11 = .ok (.ifCond .lt 21, 3) := by decide +kernel
theorem dX0_isOf_14 : decode cX0_isOf 14 = .ok (.iload_n 2, 1) := by decide +kernel
theorem dX0_isOf_15 : decode cX0_isOf 15 = .ok (.iload_n 1, 1) := by decide +kernel
theorem dX0_isOf_16 : decode cX0_isOf 16 = .ok (.if_icmp .ne 5, 3) := by decide +kernel
theorem dX0_isOf_19 : decode cX0_isOf 19 = .ok (.iconst 1, 1) := by decide +kernel
theorem dX0_isOf_20 : decode cX0_isOf 20 = .ok (.ireturn, 1) := by decide +kernel
theorem dX0_isOf_21 : decode cX0_isOf 21 = .ok (.iload_n 2, 1) := by decide +kernel
theorem dX0_isOf_22 : decode cX0_isOf 22 = .ok (.invokestatic 9, 3) := by decide +kernel
theorem dX0_isOf_25 : decode cX0_isOf 25 = .ok (.istore_n 2, 1) := by decide +kernel
theorem dX0_isOf_26 : decode cX0_isOf 26 = .ok (.iinc 3 1, 3) := by decide +kernel
theorem dX0_isOf_29 : decode cX0_isOf 29 = .ok (.goto (-25), 3) := by decide +kernel
theorem dX0_isOf_32 : decode cX0_isOf 32 = .ok (.iconst 0, 1) := by decide +kernel
theorem dX0_isOf_33 : decode cX0_isOf 33 = .ok (.ireturn, 1) := by decide +kernel
theorem dX0_slowsTo_0 : decode cX0_slowsTo 0 = .ok (.iload_n 0, 1) := by decide +kernel
theorem dX0_slowsTo_1 : decode cX0_slowsTo 1 = .ok (.iconst 3, 1) := by decide +kernel
theorem dX0_slowsTo_2 : decode cX0_slowsTo 2 = .ok (.if_icmp .eq 8, 3) := by decide +kernel
theorem dX0_slowsTo_5 : decode cX0_slowsTo 5 = .ok (.iload_n 0, 1) := by decide +kernel
theorem dX0_slowsTo_6 : decode cX0_slowsTo 6 = .ok (.iconst 5, 1) := by decide +kernel
theorem dX0_slowsTo_7 : decode cX0_slowsTo 7 = .ok (.if_icmp .ne 7, 3) := by decide +kernel
theorem dX0_slowsTo_10 : decode cX0_slowsTo 10 = .ok (.iconst 1, 1) := by decide +kernel
theorem dX0_slowsTo_11 : decode cX0_slowsTo 11 = .ok (.goto 4, 3) := by decide +kernel
theorem dX0_slowsTo_14 : decode cX0_slowsTo 14 = .ok (.iconst 0, 1) := by decide +kernel
theorem dX0_slowsTo_15 : decode cX0_slowsTo 15 = .ok (.istore 5, 2) := by decide +kernel
theorem dX0_slowsTo_17 : decode cX0_slowsTo 17 = .ok (.iload_n 1, 1) := by decide +kernel
theorem dX0_slowsTo_18 : decode cX0_slowsTo 18 = .ok (.istore 6, 2) := by decide +kernel
theorem dX0_slowsTo_20 : decode cX0_slowsTo 20 = .ok (.iload_n 2, 1) := by decide +kernel
theorem dX0_slowsTo_21 : decode cX0_slowsTo 21 = .ok (.tableswitch 102 1 4 #[31, 42, 59, 76], 31) := by decide +kernel
theorem dX0_slowsTo_52 : decode cX0_slowsTo 52 = .ok (.iload_n 0, 1) := by decide +kernel
theorem dX0_slowsTo_53 : decode cX0_slowsTo 53 = .ok (.iload_n 1, 1) := by decide +kernel
theorem dX0_slowsTo_54 : decode cX0_slowsTo 54 = .ok (.iload_n 3, 1) := by decide +kernel
theorem dX0_slowsTo_55 : decode cX0_slowsTo 55 = .ok (.invokestatic 15, 3) := by decide +kernel
theorem dX0_slowsTo_58 : decode cX0_slowsTo 58 = .ok (.istore 6, 2) := by decide +kernel
theorem dX0_slowsTo_60 : decode cX0_slowsTo 60 = .ok (.goto 63, 3) := by decide +kernel
theorem dX0_slowsTo_63 : decode cX0_slowsTo 63 = .ok (.iload_n 0, 1) := by decide +kernel
theorem dX0_slowsTo_64 : decode cX0_slowsTo 64 = .ok (.iconst 4, 1) := by decide +kernel
theorem dX0_slowsTo_65 : decode cX0_slowsTo 65 = .ok (.if_icmp .ne 7, 3) := by decide +kernel
theorem dX0_slowsTo_68 : decode cX0_slowsTo 68 = .ok (.iload_n 1, 1) := by decide +kernel
theorem dX0_slowsTo_69 : decode cX0_slowsTo 69 = .ok (.goto 6, 3) := by decide +kernel
theorem dX0_slowsTo_72 : decode cX0_slowsTo 72 = .ok (.iload_n 1, 1) := by decide +kernel
theorem dX0_slowsTo_73 : decode cX0_slowsTo 73 = .ok (.iconst 2, 1) := by decide +kernel
theorem dX0_slowsTo_74 : decode cX0_slowsTo 74 = .ok (.idiv, 1) := by decide +kernel
theorem dX0_slowsTo_75 : decode cX0_slowsTo 75 = .ok (.istore 6, 2) := by decide +kernel
theorem dX0_slowsTo_77 : decode cX0_slowsTo 77 = .ok (.goto 46, 3) := by decide +kernel
theorem dX0_slowsTo_80 : decode cX0_slowsTo 80 = .ok (.iload 5, 2) := by decide +kernel
theorem dX0_slowsTo_82 : decode cX0_slowsTo 82 = .ok (.ifCond .eq 7, 3) := by decide +kernel
theorem dX0_slowsTo_85 : decode cX0_slowsTo 85 = .ok (.iload_n 1, 1) := by decide +kernel
theorem dX0_slowsTo_86 : decode cX0_slowsTo 86 = .ok (.goto 6, 3) := by decide +kernel
theorem dX0_slowsTo_89 : decode cX0_slowsTo 89 = .ok (.iload_n 1, 1) := by decide +kernel
theorem dX0_slowsTo_90 : decode cX0_slowsTo 90 = .ok (.iconst 5, 1) := by decide +kernel
theorem dX0_slowsTo_91 : decode cX0_slowsTo 91 = .ok (.isub, 1) := by decide +kernel
theorem dX0_slowsTo_92 : decode cX0_slowsTo 92 = .ok (.istore 6, 2) := by decide +kernel
theorem dX0_slowsTo_94 : decode cX0_slowsTo 94 = .ok (.goto 29, 3) := by decide +kernel
theorem dX0_slowsTo_97 : decode cX0_slowsTo 97 = .ok (.iload 5, 2) := by decide +kernel
theorem dX0_slowsTo_99 : decode cX0_slowsTo 99 = .ok (.ifCond .ne 10, 3) := by decide +kernel
theorem dX0_slowsTo_102 : decode cX0_slowsTo 102 = .ok (.iload 4, 2) := by decide +kernel
theorem dX0_slowsTo_104 : decode cX0_slowsTo 104 = .ok (.bipush 21, 2) := by decide +kernel
theorem dX0_slowsTo_106 : decode cX0_slowsTo 106 = .ok (.if_icmp .lt 7, 3) := by decide +kernel
theorem dX0_slowsTo_109 : decode cX0_slowsTo 109 = .ok (.iload_n 1, 1) := by decide +kernel
theorem dX0_slowsTo_110 : decode cX0_slowsTo 110 = .ok (.goto 8, 3) := by decide +kernel
theorem dX0_slowsTo_113 : decode cX0_slowsTo 113 = .ok (.iload_n 1, 1) := by decide +kernel
theorem dX0_slowsTo_114 : decode cX0_slowsTo 114 = .ok (.iconst 3, 1) := by decide +kernel
theorem dX0_slowsTo_115 : decode cX0_slowsTo 115 = .ok (.imul, 1) := by decide +kernel
theorem dX0_slowsTo_116 : decode cX0_slowsTo 116 = .ok (.iconst 4, 1) := by decide +kernel
theorem dX0_slowsTo_117 : decode cX0_slowsTo 117 = .ok (.idiv, 1) := by decide +kernel
theorem dX0_slowsTo_118 : decode cX0_slowsTo 118 = .ok (.istore 6, 2) := by decide +kernel
theorem dX0_slowsTo_120 : decode cX0_slowsTo 120 = .ok (.goto 3, 3) := by decide +kernel
theorem dX0_slowsTo_123 : decode cX0_slowsTo 123 = .ok (.iload_n 0, 1) := by decide +kernel
theorem dX0_slowsTo_124 : decode cX0_slowsTo 124 = .ok (.iconst 5, 1) := by decide +kernel
theorem dX0_slowsTo_125 : decode cX0_slowsTo 125 = .ok (.if_icmp .ne 14, 3) := by decide +kernel
theorem dX0_slowsTo_128 : decode cX0_slowsTo 128 = .ok (.iload 6, 2) := by decide +kernel
theorem dX0_slowsTo_130 : decode cX0_slowsTo 130 = .ok (.iconst 5, 1) := by decide +kernel
theorem dX0_slowsTo_131 : decode cX0_slowsTo 131 = .ok (.iadd, 1) := by decide +kernel
theorem dX0_slowsTo_132 : decode cX0_slowsTo 132 = .ok (.iload_n 1, 1) := by decide +kernel
theorem dX0_slowsTo_133 : decode cX0_slowsTo 133 = .ok (.invokestatic 19, 3) := by decide +kernel
theorem dX0_slowsTo_136 : decode cX0_slowsTo 136 = .ok (.goto 5, 3) := by decide +kernel
theorem dX0_slowsTo_139 : decode cX0_slowsTo 139 = .ok (.iload 6, 2) := by decide +kernel
theorem dX0_slowsTo_141 : decode cX0_slowsTo 141 = .ok (.ireturn, 1) := by decide +kernel
theorem dX0_overBump_0 : decode cX0_overBump 0 = .ok (.iload_n 0, 1) := by decide +kernel
theorem dX0_overBump_1 : decode cX0_overBump 1 = .ok (.iconst 2, 1) := by decide +kernel
theorem dX0_overBump_2 : decode cX0_overBump 2 = .ok (.if_icmp .ne 11, 3) := by decide +kernel
theorem dX0_overBump_5 : decode cX0_overBump 5 = .ok (.iload_n 2, 1) := by decide +kernel
theorem dX0_overBump_6 : decode cX0_overBump 6 = .ok (.iconst 4, 1) := by decide +kernel
theorem dX0_overBump_7 : decode cX0_overBump 7 = .ok (.if_icmp .lt 6, 3) := by decide +kernel
theorem dX0_overBump_10 : decode cX0_overBump 10 = .ok (.bipush 8, 2) := by decide +kernel
theorem dX0_overBump_12 : decode cX0_overBump 12 = .ok (.ireturn, 1) := by decide +kernel
theorem dX0_overBump_13 : decode cX0_overBump 13 = .ok (.iload_n 0, 1) := by decide +kernel
theorem dX0_overBump_14 : decode cX0_overBump 14 = .ok (.iconst 1, 1) := by decide +kernel
theorem dX0_overBump_15 : decode cX0_overBump 15 = .ok (.if_icmp .eq 8, 3) := by decide +kernel
theorem dX0_overBump_18 : decode cX0_overBump 18 = .ok (.iload_n 0, 1) := by decide +kernel
theorem dX0_overBump_19 : decode cX0_overBump 19 = .ok (.iconst 4, 1) := by decide +kernel
theorem dX0_overBump_20 : decode cX0_overBump 20 = .ok (.if_icmp .ne 7, 3) := by decide +kernel
theorem dX0_overBump_23 : decode cX0_overBump 23 = .ok (.iconst 1, 1) := by decide +kernel
theorem dX0_overBump_24 : decode cX0_overBump 24 = .ok (.goto 4, 3) := by decide +kernel
theorem dX0_overBump_27 : decode cX0_overBump 27 = .ok (.iconst 0, 1) := by decide +kernel
theorem dX0_overBump_28 : decode cX0_overBump 28 = .ok (.istore_n 3, 1) := by decide +kernel
theorem dX0_overBump_29 : decode cX0_overBump 29 = .ok (.iload_n 1, 1) := by decide +kernel
theorem dX0_overBump_30 : decode cX0_overBump 30 = .ok (.iload_n 3, 1) := by decide +kernel
theorem dX0_overBump_31 : decode cX0_overBump 31 = .ok (.ifCond .eq 7, 3) := by decide +kernel
theorem dX0_overBump_34 : decode cX0_overBump 34 = .ok (.iconst 4, 1) := by decide +kernel
theorem dX0_overBump_35 : decode cX0_overBump 35 = .ok (.goto 5, 3) := by decide +kernel
theorem dX0_overBump_38 : decode cX0_overBump 38 = .ok (.bipush 8, 2) := by decide +kernel
theorem dX0_overBump_40 : decode cX0_overBump 40 = .ok (.iload_n 2, 1) := by decide +kernel
theorem dX0_overBump_41 : decode cX0_overBump 41 = .ok (.imul, 1) := by decide +kernel
theorem dX0_overBump_42 : decode cX0_overBump 42 = .ok (.isub, 1) := by decide +kernel
theorem dX0_overBump_43 : decode cX0_overBump 43 = .ok (.istore 4, 2) := by decide +kernel
theorem dX0_overBump_45 : decode cX0_overBump 45 = .ok (.iload 4, 2) := by decide +kernel
theorem dX0_overBump_47 : decode cX0_overBump 47 = .ok (.iconst 5, 1) := by decide +kernel
theorem dX0_overBump_48 : decode cX0_overBump 48 = .ok (.if_icmp .ge 7, 3) := by decide +kernel
theorem dX0_overBump_51 : decode cX0_overBump 51 = .ok (.iconst 5, 1) := by decide +kernel
theorem dX0_overBump_52 : decode cX0_overBump 52 = .ok (.goto 5, 3) := by decide +kernel
theorem dX0_overBump_55 : decode cX0_overBump 55 = .ok (.iload 4, 2) := by decide +kernel
theorem dX0_overBump_57 : decode cX0_overBump 57 = .ok (.ireturn, 1) := by decide +kernel
theorem dX0_hurries_0 : decode cX0_hurries 0 = .ok (.iload_n 0, 1) := by decide +kernel
theorem dX0_hurries_1 : decode cX0_hurries 1 = .ok (.tableswitch 41 1 5 #[35, 35, 41, 41, 38], 35) := by decide +kernel
theorem dX0_hurries_36 : decode cX0_hurries 36 = .ok (.bipush 6, 2) := by decide +kernel
theorem dX0_hurries_38 : decode cX0_hurries 38 = .ok (.ireturn, 1) := by decide +kernel
theorem dX0_hurries_39 : decode cX0_hurries 39 = .ok (.bipush 22, 2) := by decide +kernel
theorem dX0_hurries_41 : decode cX0_hurries 41 = .ok (.ireturn, 1) := by decide +kernel
theorem dX0_hurries_42 : decode cX0_hurries 42 = .ok (.bipush 12, 2) := by decide +kernel
theorem dX0_hurries_44 : decode cX0_hurries 44 = .ok (.ireturn, 1) := by decide +kernel
theorem dX0_shakes_0 : decode cX0_shakes 0 = .ok (.iload_n 1, 1) := by decide +kernel
theorem dX0_shakes_1 : decode cX0_shakes 1 = .ok (.iload_n 2, 1) := by decide +kernel
theorem dX0_shakes_2 : decode cX0_shakes 2 = .ok (.imul, 1) := by decide +kernel
theorem dX0_shakes_3 : decode cX0_shakes 3 = .ok (.bipush 10, 2) := by decide +kernel
theorem dX0_shakes_5 : decode cX0_shakes 5 = .ok (.idiv, 1) := by decide +kernel
theorem dX0_shakes_6 : decode cX0_shakes 6 = .ok (.istore_n 3, 1) := by decide +kernel
theorem dX0_shakes_7 : decode cX0_shakes 7 = .ok (.iload_n 0, 1) := by decide +kernel
theorem dX0_shakes_8 : decode cX0_shakes 8 = .ok (.tableswitch 48 1 5 #[36, 40, 48, 36, 44], 36) := by decide +kernel
theorem dX0_shakes_44 : decode cX0_shakes 44 = .ok (.iload_n 3, 1) := by decide +kernel
theorem dX0_shakes_45 : decode cX0_shakes 45 = .ok (.iload_n 2, 1) := by decide +kernel
theorem dX0_shakes_46 : decode cX0_shakes 46 = .ok (.iadd, 1) := by decide +kernel
theorem dX0_shakes_47 : decode cX0_shakes 47 = .ok (.ireturn, 1) := by decide +kernel
theorem dX0_shakes_48 : decode cX0_shakes 48 = .ok (.iconst 2, 1) := by decide +kernel
theorem dX0_shakes_49 : decode cX0_shakes 49 = .ok (.iload_n 3, 1) := by decide +kernel
theorem dX0_shakes_50 : decode cX0_shakes 50 = .ok (.imul, 1) := by decide +kernel
theorem dX0_shakes_51 : decode cX0_shakes 51 = .ok (.ireturn, 1) := by decide +kernel
theorem dX0_shakes_52 : decode cX0_shakes 52 = .ok (.iload_n 3, 1) := by decide +kernel
theorem dX0_shakes_53 : decode cX0_shakes 53 = .ok (.iconst 1, 1) := by decide +kernel
theorem dX0_shakes_54 : decode cX0_shakes 54 = .ok (.iadd, 1) := by decide +kernel
theorem dX0_shakes_55 : decode cX0_shakes 55 = .ok (.ireturn, 1) := by decide +kernel
theorem dX0_shakes_56 : decode cX0_shakes 56 = .ok (.iload_n 3, 1) := by decide +kernel
theorem dX0_shakes_57 : decode cX0_shakes 57 = .ok (.ireturn, 1) := by decide +kernel
theorem dX1_init_0 : decode cX1_init 0 = .ok (.aload_n 0, 1) := by decide +kernel
theorem dX1_init_1 : decode cX1_init 1 = .ok (.invokespecial 3, 3) := by decide +kernel
theorem dX1_init_4 : decode cX1_init 4 = .ok (.aload_n 0, 1) := by decide +kernel
theorem dX1_init_5 : decode cX1_init 5 = .ok (.iconst 0, 1) := by decide +kernel
theorem dX1_init_6 : decode cX1_init 6 = .ok (.putfield 9, 3) := by decide +kernel
theorem dX1_init_9 : decode cX1_init 9 = .ok (.aload_n 0, 1) := by decide +kernel
theorem dX1_init_10 : decode cX1_init 10 = .ok (.iconst 0, 1) := by decide +kernel
theorem dX1_init_11 : decode cX1_init 11 = .ok (.putfield 15, 3) := by decide +kernel
theorem dX1_init_14 : decode cX1_init 14 = .ok (.aload_n 0, 1) := by decide +kernel
theorem dX1_init_15 : decode cX1_init 15 = .ok (.bipush 40, 2) := by decide +kernel
theorem dX1_init_17 : decode cX1_init 17 = .ok (.newarray .long, 2) := by decide +kernel
theorem dX1_init_19 : decode cX1_init 19 = .ok (.putfield 18, 3) := by decide +kernel
theorem dX1_init_22 : decode cX1_init 22 = .ok (.return_, 1) := by decide +kernel
theorem dX1_become_0 : decode cX1_become 0 = .ok (.aload_n 0, 1) := by decide +kernel
theorem dX1_become_1 : decode cX1_become 1 = .ok (.iload_n 1, 1) := by decide +kernel
theorem dX1_become_2 : decode cX1_become 2 = .ok (.putfield 9, 3) := by decide +kernel
theorem dX1_become_5 : decode cX1_become 5 = .ok (.aload_n 0, 1) := by decide +kernel
theorem dX1_become_6 : decode cX1_become 6 = .ok (.iload_n 2, 1) := by decide +kernel
theorem dX1_become_7 : decode cX1_become 7 = .ok (.putfield 15, 3) := by decide +kernel
theorem dX1_become_10 : decode cX1_become 10 = .ok (.iconst 0, 1) := by decide +kernel
theorem dX1_become_11 : decode cX1_become 11 = .ok (.istore_n 3, 1) := by decide +kernel
theorem dX1_become_12 : decode cX1_become 12 = .ok (.iload_n 3, 1) := by decide +kernel
theorem dX1_become_13 : decode cX1_become 13 = .ok (.bipush 40, 2) := by decide +kernel
theorem dX1_become_15 : decode cX1_become 15 = .ok (.if_icmp .ge 16, 3) := by decide +kernel
theorem dX1_become_18 : decode cX1_become 18 = .ok (.aload_n 0, 1) := by decide +kernel
theorem dX1_become_19 : decode cX1_become 19 = .ok (.getfield 18, 3) := by decide +kernel
theorem dX1_become_22 : decode cX1_become 22 = .ok (.iload_n 3, 1) := by decide +kernel
theorem dX1_become_23 : decode cX1_become 23 = .ok (.lconst 0, 1) := by decide +kernel
theorem dX1_become_24 : decode cX1_become 24 = .ok (.lastore, 1) := by decide +kernel
theorem dX1_become_25 : decode cX1_become 25 = .ok (.iinc 3 1, 3) := by decide +kernel
theorem dX1_become_28 : decode cX1_become 28 = .ok (.goto (-16), 3) := by decide +kernel
theorem dX1_become_31 : decode cX1_become 31 = .ok (.return_, 1) := by decide +kernel
theorem dX1_put_0 : decode cX1_put 0 = .ok (.aload_n 0, 1) := by decide +kernel
theorem dX1_put_1 : decode cX1_put 1 = .ok (.getfield 9, 3) := by decide +kernel
theorem dX1_put_4 : decode cX1_put 4 = .ok (.bipush 8, 2) := by decide +kernel
theorem dX1_put_6 : decode cX1_put 6 = .ok (.if_icmp .ne 16, 3) := by decide +kernel
theorem dX1_put_9 : decode cX1_put 9 = .ok (.aload_n 0, 1) := by decide +kernel
theorem dX1_put_10 : decode cX1_put 10 = .ok (.getfield 18, 3) := by decide +kernel
theorem dX1_put_13 : decode cX1_put 13 = .ok (.iload_n 1, 1) := by decide +kernel
theorem dX1_put_14 : decode cX1_put 14 = .ok (.lload_n 2, 1) := by decide +kernel
theorem dX1_put_15 : decode cX1_put 15 = .ok (.l2i, 1) := by decide +kernel
theorem dX1_put_16 : decode cX1_put 16 = .ok (.i2b, 1) := by decide +kernel
theorem dX1_put_17 : decode cX1_put 17 = .ok (.i2l, 1) := by decide +kernel
theorem dX1_put_18 : decode cX1_put 18 = .ok (.lastore, 1) := by decide +kernel
theorem dX1_put_19 : decode cX1_put 19 = .ok (.goto 32, 3) := by decide +kernel
theorem dX1_put_22 : decode cX1_put 22 = .ok (.aload_n 0, 1) := by decide +kernel
theorem dX1_put_23 : decode cX1_put 23 = .ok (.getfield 9, 3) := by decide +kernel
theorem dX1_put_26 : decode cX1_put 26 = .ok (.bipush 16, 2) := by decide +kernel
theorem dX1_put_28 : decode cX1_put 28 = .ok (.if_icmp .ne 16, 3) := by decide +kernel
theorem dX1_put_31 : decode cX1_put 31 = .ok (.aload_n 0, 1) := by decide +kernel
theorem dX1_put_32 : decode cX1_put 32 = .ok (.getfield 18, 3) := by decide +kernel
theorem dX1_put_35 : decode cX1_put 35 = .ok (.iload_n 1, 1) := by decide +kernel
theorem dX1_put_36 : decode cX1_put 36 = .ok (.lload_n 2, 1) := by decide +kernel
theorem dX1_put_37 : decode cX1_put 37 = .ok (.l2i, 1) := by decide +kernel
theorem dX1_put_38 : decode cX1_put 38 = .ok (.i2s, 1) := by decide +kernel
theorem dX1_put_39 : decode cX1_put 39 = .ok (.i2l, 1) := by decide +kernel
theorem dX1_put_40 : decode cX1_put 40 = .ok (.lastore, 1) := by decide +kernel
theorem dX1_put_41 : decode cX1_put 41 = .ok (.goto 10, 3) := by decide +kernel
theorem dX1_put_44 : decode cX1_put 44 = .ok (.aload_n 0, 1) := by decide +kernel
theorem dX1_put_45 : decode cX1_put 45 = .ok (.getfield 18, 3) := by decide +kernel
theorem dX1_put_48 : decode cX1_put 48 = .ok (.iload_n 1, 1) := by decide +kernel
theorem dX1_put_49 : decode cX1_put 49 = .ok (.lload_n 2, 1) := by decide +kernel
theorem dX1_put_50 : decode cX1_put 50 = .ok (.lastore, 1) := by decide +kernel
theorem dX1_put_51 : decode cX1_put 51 = .ok (.return_, 1) := by decide +kernel
theorem dX1_hasPart_0 : decode cX1_hasPart 0 = .ok (.iload_n 1, 1) := by decide +kernel
theorem dX1_hasPart_1 : decode cX1_hasPart 1 = .ok (.ifCond .lt 29, 3) := by decide +kernel
theorem dX1_hasPart_4 : decode cX1_hasPart 4 = .ok (.iload_n 2, 1) := by decide +kernel
theorem dX1_hasPart_5 : decode cX1_hasPart 5 = .ok (.ifCond .lt 25, 3) := by decide +kernel
theorem dX1_hasPart_8 : decode cX1_hasPart 8 = .ok (.iload_n 2, 1) := by decide +kernel
theorem dX1_hasPart_9 : decode cX1_hasPart 9 = .ok (.aload_n 0, 1) := by decide +kernel
theorem dX1_hasPart_10 : decode cX1_hasPart 10 = .ok (.getfield 15, 3) := by decide +kernel
theorem dX1_hasPart_13 : decode cX1_hasPart 13 = .ok (.if_icmp .gt 17, 3) := by decide +kernel
theorem dX1_hasPart_16 : decode cX1_hasPart 16 = .ok (.iload_n 1, 1) := by decide +kernel
theorem dX1_hasPart_17 : decode cX1_hasPart 17 = .ok (.aload_n 0, 1) := by decide +kernel
theorem dX1_hasPart_18 : decode cX1_hasPart 18 = .ok (.getfield 15, 3) := by decide +kernel
theorem dX1_hasPart_21 : decode cX1_hasPart 21 = .ok (.iload_n 2, 1) := by decide +kernel
theorem dX1_hasPart_22 : decode cX1_hasPart 22 = .ok (.isub, 1) := by decide +kernel
theorem dX1_hasPart_23 : decode cX1_hasPart 23 = .ok (.if_icmp .gt 7, 3) := by decide +kernel
theorem dX1_hasPart_26 : decode cX1_hasPart 26 = .ok (.iconst 1, 1) := by decide +kernel
theorem dX1_hasPart_27 : decode cX1_hasPart 27 = .ok (.goto 4, 3) := by decide +kernel
theorem dX1_hasPart_30 : decode cX1_hasPart 30 = .ok (.iconst 0, 1) := by decide +kernel
theorem dX1_hasPart_31 : decode cX1_hasPart 31 = .ok (.ireturn, 1) := by decide +kernel
theorem dX2_init_0 : decode cX2_init 0 = .ok (.aload_n 0, 1) := by decide +kernel
theorem dX2_init_1 : decode cX2_init 1 = .ok (.invokespecial 3, 3) := by decide +kernel
theorem dX2_init_4 : decode cX2_init 4 = .ok (.aload_n 0, 1) := by decide +kernel
theorem dX2_init_5 : decode cX2_init 5 = .ok (.bipush 120, 2) := by decide +kernel
theorem dX2_init_7 : decode cX2_init 7 = .ok (.newarray .int, 2) := by decide +kernel
theorem dX2_init_9 : decode cX2_init 9 = .ok (.putfield 9, 3) := by decide +kernel
theorem dX2_init_12 : decode cX2_init 12 = .ok (.aload_n 0, 1) := by decide +kernel
theorem dX2_init_13 : decode cX2_init 13 = .ok (.iconst 0, 1) := by decide +kernel
theorem dX2_init_14 : decode cX2_init 14 = .ok (.putfield 15, 3) := by decide +kernel
theorem dX2_init_17 : decode cX2_init 17 = .ok (.return_, 1) := by decide +kernel
theorem dX2_append_0 : decode cX2_append 0 = .ok (.iload_n 2, 1) := by decide +kernel
theorem dX2_append_1 : decode cX2_append 1 = .ok (.iconst 1, 1) := by decide +kernel
theorem dX2_append_2 : decode cX2_append 2 = .ok (.isub, 1) := by decide +kernel
theorem dX2_append_3 : decode cX2_append 3 = .ok (.istore_n 3, 1) := by decide +kernel
theorem dX2_append_4 : decode cX2_append 4 = .ok (.iload_n 3, 1) := by decide +kernel
theorem dX2_append_5 : decode cX2_append 5 = .ok (.ifCond .lt 47, 3) := by decide +kernel
theorem dX2_append_8 : decode cX2_append 8 = .ok (.aload_n 0, 1) := by decide +kernel
theorem dX2_append_9 : decode cX2_append 9 = .ok (.getfield 15, 3) := by decide +kernel
theorem dX2_append_12 : decode cX2_append 12 = .ok (.bipush 120, 2) := by decide +kernel
theorem dX2_append_14 : decode cX2_append 14 = .ok (.if_icmp .ge 38, 3) := by decide +kernel
theorem dX2_append_17 : decode cX2_append 17 = .ok (.aload_n 0, 1) := by decide +kernel
theorem dX2_append_18 : decode cX2_append 18 = .ok (.getfield 9, 3) := by decide +kernel
theorem dX2_append_21 : decode cX2_append 21 = .ok (.aload_n 0, 1) := by decide +kernel
theorem dX2_append_22 : decode cX2_append 22 = .ok (.getfield 15, 3) := by decide +kernel
theorem dX2_append_25 : decode cX2_append 25 = .ok (.iload_n 1, 1) := by decide +kernel
theorem dX2_append_26 : decode cX2_append 26 = .ok (.bipush 8, 2) := by decide +kernel
theorem dX2_append_28 : decode cX2_append 28 = .ok (.iload_n 3, 1) := by decide +kernel
theorem dX2_append_29 : decode cX2_append 29 = .ok (.imul, 1) := by decide +kernel
theorem dX2_append_30 : decode cX2_append 30 = .ok (.iushr, 1) := by decide +kernel
theorem dX2_append_31 : decode cX2_append 31 = .ok (.sipush 255, 3) := by decide +kernel
theorem dX2_append_34 : decode cX2_append 34 = .ok (.iand, 1) := by decide +kernel
theorem dX2_append_35 : decode cX2_append 35 = .ok (.iastore, 1) := by decide +kernel
theorem dX2_append_36 : decode cX2_append 36 = .ok (.aload_n 0, 1) := by decide +kernel
theorem dX2_append_37 : decode cX2_append 37 = .ok (.dup, 1) := by decide +kernel
theorem dX2_append_38 : decode cX2_append 38 = .ok (.getfield 15, 3) := by decide +kernel
theorem dX2_append_41 : decode cX2_append 41 = .ok (.iconst 1, 1) := by decide +kernel
theorem dX2_append_42 : decode cX2_append 42 = .ok (.iadd, 1) := by decide +kernel
theorem dX2_append_43 : decode cX2_append 43 = .ok (.putfield 15, 3) := by decide +kernel
theorem dX2_append_46 : decode cX2_append 46 = .ok (.iinc 3 (-1), 3) := by decide +kernel
theorem dX2_append_49 : decode cX2_append 49 = .ok (.goto (-45), 3) := by decide +kernel
theorem dX2_append_52 : decode cX2_append 52 = .ok (.return_, 1) := by decide +kernel
theorem dX2_tellInto_0 : decode cX2_tellInto 0 = .ok (.aload_n 0, 1) := by decide +kernel
theorem dX2_tellInto_1 : decode cX2_tellInto 1 = .ok (.iconst 0, 1) := by decide +kernel
theorem dX2_tellInto_2 : decode cX2_tellInto 2 = .ok (.putfield 19, 3) := by decide +kernel
theorem dX2_tellInto_5 : decode cX2_tellInto 5 = .ok (.aload_n 0, 1) := by decide +kernel
theorem dX2_tellInto_6 : decode cX2_tellInto 6 = .ok (.invokevirtual 22, 3) := by decide +kernel
theorem dX2_tellInto_9 : decode cX2_tellInto 9 = .ok (.iconst 1, 1) := by decide +kernel
theorem dX2_tellInto_10 : decode cX2_tellInto 10 = .ok (.istore_n 2, 1) := by decide +kernel
theorem dX2_tellInto_11 : decode cX2_tellInto 11 = .ok (.iload_n 2, 1) := by decide +kernel
theorem dX2_tellInto_12 : decode cX2_tellInto 12 = .ok (.bipush 120, 2) := by decide +kernel
theorem dX2_tellInto_14 : decode cX2_tellInto 14 = .ok (.if_icmp .gt 52, 3) := by decide +kernel
theorem dX2_tellInto_17 : decode cX2_tellInto 17 = .ok (.aload_n 0, 1) := by decide +kernel
theorem dX2_tellInto_18 : decode cX2_tellInto 18 = .ok (.aload_n 1, 1) := by decide +kernel
theorem dX2_tellInto_19 : decode cX2_tellInto 19 = .ok (.invokevirtual 25, 3) := by decide +kernel
theorem dX2_tellInto_22 : decode cX2_tellInto 22 = .ok (.ifCond .ne 10, 3) := by decide +kernel
theorem dX2_tellInto_25 : decode cX2_tellInto 25 = .ok (.iconst (-1), 1) := by decide +kernel
theorem dX2_tellInto_26 : decode cX2_tellInto 26 = .ok (.aload_n 0, 1) := by decide +kernel
theorem dX2_tellInto_27 : decode cX2_tellInto 27 = .ok (.getfield 29, 3) := by decide +kernel
theorem dX2_tellInto_30 : decode cX2_tellInto 30 = .ok (.isub, 1) := by decide +kernel
theorem dX2_tellInto_31 : decode cX2_tellInto 31 = .ok (.ireturn, 1) := by decide +kernel
theorem dX2_tellInto_32 : decode cX2_tellInto 32 = .ok (.aload_n 0, 1) := by decide +kernel
theorem dX2_tellInto_33 : decode cX2_tellInto 33 = .ok (.getfield 32, 3) := by decide +kernel
theorem dX2_tellInto_36 : decode cX2_tellInto 36 = .ok (.ifCond .ne 5, 3) := by decide +kernel
theorem dX2_tellInto_39 : decode cX2_tellInto 39 = .ok (.iload_n 2, 1) := by decide +kernel
theorem dX2_tellInto_40 : decode cX2_tellInto 40 = .ok (.ireturn, 1) := by decide +kernel
theorem dX2_tellInto_41 : decode cX2_tellInto 41 = .ok (.aload_n 0, 1) := by decide +kernel
theorem dX2_tellInto_42 : decode cX2_tellInto 42 = .ok (.getfield 32, 3) := by decide +kernel
theorem dX2_tellInto_45 : decode cX2_tellInto 45 = .ok (.iconst 3, 1) := by decide +kernel
theorem dX2_tellInto_46 : decode cX2_tellInto 46 = .ok (.if_icmp .eq 10, 3) := by decide +kernel
theorem dX2_tellInto_49 : decode cX2_tellInto 49 = .ok (.iconst (-1), 1) := by decide +kernel
theorem dX2_tellInto_50 : decode cX2_tellInto 50 = .ok (.aload_n 0, 1) := by decide +kernel
theorem dX2_tellInto_51 : decode cX2_tellInto 51 = .ok (.getfield 29, 3) := by decide +kernel
theorem dX2_tellInto_54 : decode cX2_tellInto 54 = .ok (.isub, 1) := by decide +kernel
theorem dX2_tellInto_55 : decode cX2_tellInto 55 = .ok (.ireturn, 1) := by decide +kernel
theorem dX2_tellInto_56 : decode cX2_tellInto 56 = .ok (.aload_n 0, 1) := by decide +kernel
theorem dX2_tellInto_57 : decode cX2_tellInto 57 = .ok (.invokevirtual 22, 3) := by decide +kernel
theorem dX2_tellInto_60 : decode cX2_tellInto 60 = .ok (.iinc 2 1, 3) := by decide +kernel
theorem dX2_tellInto_63 : decode cX2_tellInto 63 = .ok (.goto (-52), 3) := by decide +kernel
theorem dX2_tellInto_66 : decode cX2_tellInto 66 = .ok (.iconst (-1), 1) := by decide +kernel
theorem dX2_tellInto_67 : decode cX2_tellInto 67 = .ok (.aload_n 0, 1) := by decide +kernel
theorem dX2_tellInto_68 : decode cX2_tellInto 68 = .ok (.getfield 29, 3) := by decide +kernel
theorem dX2_tellInto_71 : decode cX2_tellInto 71 = .ok (.isub, 1) := by decide +kernel
theorem dX2_tellInto_72 : decode cX2_tellInto 72 = .ok (.ireturn, 1) := by decide +kernel
theorem dX2_takeItem_0 : decode cX2_takeItem 0 = .ok (.aload_n 0, 1) := by decide +kernel
theorem dX2_takeItem_1 : decode cX2_takeItem 1 = .ok (.getfield 32, 3) := by decide +kernel
theorem dX2_takeItem_4 : decode cX2_takeItem 4 = .ok (.iconst 1, 1) := by decide +kernel
theorem dX2_takeItem_5 : decode cX2_takeItem 5 = .ok (.if_icmp .eq 5, 3) := by decide +kernel
theorem dX2_takeItem_8 : decode cX2_takeItem 8 = .ok (.iconst 0, 1) := by decide +kernel
theorem dX2_takeItem_9 : decode cX2_takeItem 9 = .ok (.ireturn, 1) := by decide +kernel
theorem dX2_takeItem_10 : decode cX2_takeItem 10 = .ok (.aload_n 0, 1) := by decide +kernel
theorem dX2_takeItem_11 : decode cX2_takeItem 11 = .ok (.invokevirtual 35, 3) := by decide +kernel
theorem dX2_takeItem_14 : decode cX2_takeItem 14 = .ok (.istore_n 2, 1) := by decide +kernel
theorem dX2_takeItem_15 : decode cX2_takeItem 15 = .ok (.iload_n 2, 1) := by decide +kernel
theorem dX2_takeItem_16 : decode cX2_takeItem 16 = .ok (.ifCond .lt 10, 3) := by decide +kernel
theorem dX2_takeItem_19 : decode cX2_takeItem 19 = .ok (.aload_n 0, 1) := by decide +kernel
theorem dX2_takeItem_20 : decode cX2_takeItem 20 = .ok (.aload_n 1, 1) := by decide +kernel
theorem dX2_takeItem_21 : decode cX2_takeItem 21 = .ok (.iload_n 2, 1) := by decide +kernel
theorem dX2_takeItem_22 : decode cX2_takeItem 22 = .ok (.invokevirtual 39, 3) := by decide +kernel
theorem dX2_takeItem_25 : decode cX2_takeItem 25 = .ok (.ireturn, 1) := by decide +kernel
theorem dX2_takeItem_26 : decode cX2_takeItem 26 = .ok (.aload_n 0, 1) := by decide +kernel
theorem dX2_takeItem_27 : decode cX2_takeItem 27 = .ok (.invokevirtual 43, 3) := by decide +kernel
theorem dX2_takeItem_30 : decode cX2_takeItem 30 = .ok (.istore_n 3, 1) := by decide +kernel
theorem dX2_takeItem_31 : decode cX2_takeItem 31 = .ok (.iload_n 3, 1) := by decide +kernel
theorem dX2_takeItem_32 : decode cX2_takeItem 32 = .ok (.ifCond .lt 10, 3) := by decide +kernel
theorem dX2_takeItem_35 : decode cX2_takeItem 35 = .ok (.aload_n 0, 1) := by decide +kernel
theorem dX2_takeItem_36 : decode cX2_takeItem 36 = .ok (.aload_n 1, 1) := by decide +kernel
theorem dX2_takeItem_37 : decode cX2_takeItem 37 = .ok (.iload_n 3, 1) := by decide +kernel
theorem dX2_takeItem_38 : decode cX2_takeItem 38 = .ok (.invokevirtual 46, 3) := by decide +kernel
theorem dX2_takeItem_41 : decode cX2_takeItem 41 = .ok (.ireturn, 1) := by decide +kernel
theorem dX2_takeItem_42 : decode cX2_takeItem 42 = .ok (.aload_n 0, 1) := by decide +kernel
theorem dX2_takeItem_43 : decode cX2_takeItem 43 = .ok (.ldc 49, 2) := by decide +kernel
theorem dX2_takeItem_45 : decode cX2_takeItem 45 = .ok (.invokevirtual 51, 3) := by decide +kernel
theorem dX2_takeItem_48 : decode cX2_takeItem 48 = .ok (.ifCond .ne 5, 3) := by decide +kernel
theorem dX2_takeItem_51 : decode cX2_takeItem 51 = .ok (.iconst 0, 1) := by decide +kernel
theorem dX2_takeItem_52 : decode cX2_takeItem 52 = .ok (.ireturn, 1) := by decide +kernel
theorem dX2_takeItem_53 : decode cX2_takeItem 53 = .ok (.aload_n 0, 1) := by decide +kernel
theorem dX2_takeItem_54 : decode cX2_takeItem 54 = .ok (.invokevirtual 22, 3) := by decide +kernel
theorem dX2_takeItem_57 : decode cX2_takeItem 57 = .ok (.aload_n 0, 1) := by decide +kernel
theorem dX2_takeItem_58 : decode cX2_takeItem 58 = .ok (.iconst 1, 1) := by decide +kernel
theorem dX2_takeItem_59 : decode cX2_takeItem 59 = .ok (.bipush 6, 2) := by decide +kernel
theorem dX2_takeItem_61 : decode cX2_takeItem 61 = .ok (.invokevirtual 55, 3) := by decide +kernel
theorem dX2_takeItem_64 : decode cX2_takeItem 64 = .ok (.ifCond .ne 5, 3) := by decide +kernel
theorem dX2_takeItem_67 : decode cX2_takeItem 67 = .ok (.iconst 0, 1) := by decide +kernel
theorem dX2_takeItem_68 : decode cX2_takeItem 68 = .ok (.ireturn, 1) := by decide +kernel
theorem dX2_takeItem_69 : decode cX2_takeItem 69 = .ok (.aload_n 1, 1) := by decide +kernel
theorem dX2_takeItem_70 : decode cX2_takeItem 70 = .ok (.aload_n 0, 1) := by decide +kernel
theorem dX2_takeItem_71 : decode cX2_takeItem 71 = .ok (.getfield 59, 3) := by decide +kernel
theorem dX2_takeItem_74 : decode cX2_takeItem 74 = .ok (.putfield 62, 3) := by decide +kernel
theorem dX2_takeItem_77 : decode cX2_takeItem 77 = .ok (.aload_n 0, 1) := by decide +kernel
theorem dX2_takeItem_78 : decode cX2_takeItem 78 = .ok (.invokevirtual 22, 3) := by decide +kernel
theorem dX2_takeItem_81 : decode cX2_takeItem 81 = .ok (.iconst 1, 1) := by decide +kernel
theorem dX2_takeItem_82 : decode cX2_takeItem 82 = .ok (.ireturn, 1) := by decide +kernel
theorem dX2_takeDriver_0 : decode cX2_takeDriver 0 = .ok (.aload_n 1, 1) := by decide +kernel
theorem dX2_takeDriver_1 : decode cX2_takeDriver 1 = .ok (.getfield 67, 3) := by decide +kernel
theorem dX2_takeDriver_4 : decode cX2_takeDriver 4 = .ok (.bipush 8, 2) := by decide +kernel
theorem dX2_takeDriver_6 : decode cX2_takeDriver 6 = .ok (.if_icmp .lt 5, 3) := by decide +kernel
theorem dX2_takeDriver_9 : decode cX2_takeDriver 9 = .ok (.iconst 0, 1) := by decide +kernel
theorem dX2_takeDriver_10 : decode cX2_takeDriver 10 = .ok (.ireturn, 1) := by decide +kernel
theorem dX2_takeDriver_11 : decode cX2_takeDriver 11 = .ok (.aload_n 1, 1) := by decide +kernel
theorem dX2_takeDriver_12 : decode cX2_takeDriver 12 = .ok (.iload_n 2, 1) := by decide +kernel
theorem dX2_takeDriver_13 : decode cX2_takeDriver 13 = .ok (.invokevirtual 70, 3) := by decide +kernel
theorem dX2_takeDriver_16 : decode cX2_takeDriver 16 = .ok (.istore_n 3, 1) := by decide +kernel
theorem dX2_takeDriver_17 : decode cX2_takeDriver 17 = .ok (.aload_n 0, 1) := by decide +kernel
theorem dX2_takeDriver_18 : decode cX2_takeDriver 18 = .ok (.invokevirtual 22, 3) := by decide +kernel
theorem dX2_takeDriver_21 : decode cX2_takeDriver 21 = .ok (.aload_n 0, 1) := by decide +kernel
theorem dX2_takeDriver_22 : decode cX2_takeDriver 22 = .ok (.ldc 74, 2) := by decide +kernel
theorem dX2_takeDriver_24 : decode cX2_takeDriver 24 = .ok (.invokevirtual 51, 3) := by decide +kernel
theorem dX2_takeDriver_27 : decode cX2_takeDriver 27 = .ok (.ifCond .eq 34, 3) := by decide +kernel
theorem dX2_takeDriver_30 : decode cX2_takeDriver 30 = .ok (.aload_n 0, 1) := by decide +kernel
theorem dX2_takeDriver_31 : decode cX2_takeDriver 31 = .ok (.invokevirtual 22, 3) := by decide +kernel
theorem dX2_takeDriver_34 : decode cX2_takeDriver 34 = .ok (.aload_n 0, 1) := by decide +kernel
theorem dX2_takeDriver_35 : decode cX2_takeDriver 35 = .ok (.bipush 10, 2) := by decide +kernel
theorem dX2_takeDriver_37 : decode cX2_takeDriver 37 = .ok (.bipush 80, 2) := by decide +kernel
theorem dX2_takeDriver_39 : decode cX2_takeDriver 39 = .ok (.invokevirtual 55, 3) := by decide +kernel
theorem dX2_takeDriver_42 : decode cX2_takeDriver 42 = .ok (.ifCond .ne 5, 3) := by decide +kernel
theorem dX2_takeDriver_45 : decode cX2_takeDriver 45 = .ok (.iconst 0, 1) := by decide +kernel
theorem dX2_takeDriver_46 : decode cX2_takeDriver 46 = .ok (.ireturn, 1) := by decide +kernel
theorem dX2_takeDriver_47 : decode cX2_takeDriver 47 = .ok (.aload_n 1, 1) := by decide +kernel
theorem dX2_takeDriver_48 : decode cX2_takeDriver 48 = .ok (.getfield 76, 3) := by decide +kernel
theorem dX2_takeDriver_51 : decode cX2_takeDriver 51 = .ok (.iload_n 3, 1) := by decide +kernel
theorem dX2_takeDriver_52 : decode cX2_takeDriver 52 = .ok (.aload_n 0, 1) := by decide +kernel
theorem dX2_takeDriver_53 : decode cX2_takeDriver 53 = .ok (.getfield 59, 3) := by decide +kernel
theorem dX2_takeDriver_56 : decode cX2_takeDriver 56 = .ok (.iastore, 1) := by decide +kernel
theorem dX2_takeDriver_57 : decode cX2_takeDriver 57 = .ok (.aload_n 0, 1) := by decide +kernel
theorem dX2_takeDriver_58 : decode cX2_takeDriver 58 = .ok (.invokevirtual 22, 3) := by decide +kernel
theorem dX2_takeDriver_61 : decode cX2_takeDriver 61 = .ok (.aload_n 0, 1) := by decide +kernel
theorem dX2_takeDriver_62 : decode cX2_takeDriver 62 = .ok (.ldc 79, 2) := by decide +kernel
theorem dX2_takeDriver_64 : decode cX2_takeDriver 64 = .ok (.invokevirtual 51, 3) := by decide +kernel
theorem dX2_takeDriver_67 : decode cX2_takeDriver 67 = .ok (.ifCond .eq 32, 3) := by decide +kernel
theorem dX2_takeDriver_70 : decode cX2_takeDriver 70 = .ok (.aload_n 0, 1) := by decide +kernel
theorem dX2_takeDriver_71 : decode cX2_takeDriver 71 = .ok (.invokevirtual 22, 3) := by decide +kernel
theorem dX2_takeDriver_74 : decode cX2_takeDriver 74 = .ok (.aload_n 0, 1) := by decide +kernel
theorem dX2_takeDriver_75 : decode cX2_takeDriver 75 = .ok (.iconst 0, 1) := by decide +kernel
theorem dX2_takeDriver_76 : decode cX2_takeDriver 76 = .ok (.iconst 2, 1) := by decide +kernel
theorem dX2_takeDriver_77 : decode cX2_takeDriver 77 = .ok (.invokevirtual 55, 3) := by decide +kernel
theorem dX2_takeDriver_80 : decode cX2_takeDriver 80 = .ok (.ifCond .ne 5, 3) := by decide +kernel
theorem dX2_takeDriver_83 : decode cX2_takeDriver 83 = .ok (.iconst 0, 1) := by decide +kernel
theorem dX2_takeDriver_84 : decode cX2_takeDriver 84 = .ok (.ireturn, 1) := by decide +kernel
theorem dX2_takeDriver_85 : decode cX2_takeDriver 85 = .ok (.aload_n 1, 1) := by decide +kernel
theorem dX2_takeDriver_86 : decode cX2_takeDriver 86 = .ok (.getfield 81, 3) := by decide +kernel
theorem dX2_takeDriver_89 : decode cX2_takeDriver 89 = .ok (.iload_n 3, 1) := by decide +kernel
theorem dX2_takeDriver_90 : decode cX2_takeDriver 90 = .ok (.aload_n 0, 1) := by decide +kernel
theorem dX2_takeDriver_91 : decode cX2_takeDriver 91 = .ok (.getfield 59, 3) := by decide +kernel
theorem dX2_takeDriver_94 : decode cX2_takeDriver 94 = .ok (.iastore, 1) := by decide +kernel
theorem dX2_takeDriver_95 : decode cX2_takeDriver 95 = .ok (.aload_n 0, 1) := by decide +kernel
theorem dX2_takeDriver_96 : decode cX2_takeDriver 96 = .ok (.invokevirtual 22, 3) := by decide +kernel
theorem dX2_takeDriver_99 : decode cX2_takeDriver 99 = .ok (.iconst 1, 1) := by decide +kernel
theorem dX2_takeDriver_100 : decode cX2_takeDriver 100 = .ok (.ireturn, 1) := by decide +kernel
theorem dX2_takeThing_0 : decode cX2_takeThing 0 = .ok (.aload_n 0, 1) := by decide +kernel
theorem dX2_takeThing_1 : decode cX2_takeThing 1 = .ok (.invokevirtual 22, 3) := by decide +kernel
theorem dX2_takeThing_4 : decode cX2_takeThing 4 = .ok (.aload_n 0, 1) := by decide +kernel
theorem dX2_takeThing_5 : decode cX2_takeThing 5 = .ok (.iconst 0, 1) := by decide +kernel
theorem dX2_takeThing_6 : decode cX2_takeThing 6 = .ok (.iconst 2, 1) := by decide +kernel
theorem dX2_takeThing_7 : decode cX2_takeThing 7 = .ok (.invokevirtual 55, 3) := by decide +kernel
theorem dX2_takeThing_10 : decode cX2_takeThing 10 = .ok (.ifCond .ne 5, 3) := by decide +kernel
theorem dX2_takeThing_13 : decode cX2_takeThing 13 = .ok (.iconst 0, 1) := by decide +kernel
theorem dX2_takeThing_14 : decode cX2_takeThing 14 = .ok (.ireturn, 1) := by decide +kernel
theorem dX2_takeThing_15 : decode cX2_takeThing 15 = .ok (.aload_n 0, 1) := by decide +kernel
theorem dX2_takeThing_16 : decode cX2_takeThing 16 = .ok (.getfield 59, 3) := by decide +kernel
theorem dX2_takeThing_19 : decode cX2_takeThing 19 = .ok (.istore_n 3, 1) := by decide +kernel
theorem dX2_takeThing_20 : decode cX2_takeThing 20 = .ok (.aload_n 0, 1) := by decide +kernel
theorem dX2_takeThing_21 : decode cX2_takeThing 21 = .ok (.invokevirtual 22, 3) := by decide +kernel
theorem dX2_takeThing_24 : decode cX2_takeThing 24 = .ok (.aload_n 0, 1) := by decide +kernel
theorem dX2_takeThing_25 : decode cX2_takeThing 25 = .ok (.iconst 0, 1) := by decide +kernel
theorem dX2_takeThing_26 : decode cX2_takeThing 26 = .ok (.bipush 19, 2) := by decide +kernel
theorem dX2_takeThing_28 : decode cX2_takeThing 28 = .ok (.invokevirtual 55, 3) := by decide +kernel
theorem dX2_takeThing_31 : decode cX2_takeThing 31 = .ok (.ifCond .ne 5, 3) := by decide +kernel
theorem dX2_takeThing_34 : decode cX2_takeThing 34 = .ok (.iconst 0, 1) := by decide +kernel
theorem dX2_takeThing_35 : decode cX2_takeThing 35 = .ok (.ireturn, 1) := by decide +kernel
theorem dX2_takeThing_36 : decode cX2_takeThing 36 = .ok (.aload_n 1, 1) := by decide +kernel
theorem dX2_takeThing_37 : decode cX2_takeThing 37 = .ok (.iload_n 3, 1) := by decide +kernel
theorem dX2_takeThing_38 : decode cX2_takeThing 38 = .ok (.aload_n 0, 1) := by decide +kernel
theorem dX2_takeThing_39 : decode cX2_takeThing 39 = .ok (.getfield 59, 3) := by decide +kernel
theorem dX2_takeThing_42 : decode cX2_takeThing 42 = .ok (.iload_n 2, 1) := by decide +kernel
theorem dX2_takeThing_43 : decode cX2_takeThing 43 = .ok (.invokevirtual 84, 3) := by decide +kernel
theorem dX2_takeThing_46 : decode cX2_takeThing 46 = .ok (.aload_n 0, 1) := by decide +kernel
theorem dX2_takeThing_47 : decode cX2_takeThing 47 = .ok (.invokevirtual 22, 3) := by decide +kernel
theorem dX2_takeThing_50 : decode cX2_takeThing 50 = .ok (.iconst 1, 1) := by decide +kernel
theorem dX2_takeThing_51 : decode cX2_takeThing 51 = .ok (.ireturn, 1) := by decide +kernel
theorem dX2_isNumber_0 : decode cX2_isNumber 0 = .ok (.aload_n 0, 1) := by decide +kernel
theorem dX2_isNumber_1 : decode cX2_isNumber 1 = .ok (.getfield 32, 3) := by decide +kernel
theorem dX2_isNumber_4 : decode cX2_isNumber 4 = .ok (.iconst 2, 1) := by decide +kernel
theorem dX2_isNumber_5 : decode cX2_isNumber 5 = .ok (.if_icmp .ne 23, 3) := by decide +kernel
theorem dX2_isNumber_8 : decode cX2_isNumber 8 = .ok (.aload_n 0, 1) := by decide +kernel
theorem dX2_isNumber_9 : decode cX2_isNumber 9 = .ok (.getfield 59, 3) := by decide +kernel
theorem dX2_isNumber_12 : decode cX2_isNumber 12 = .ok (.iload_n 1, 1) := by decide +kernel
theorem dX2_isNumber_13 : decode cX2_isNumber 13 = .ok (.if_icmp .lt 15, 3) := by decide +kernel
theorem dX2_isNumber_16 : decode cX2_isNumber 16 = .ok (.aload_n 0, 1) := by decide +kernel
theorem dX2_isNumber_17 : decode cX2_isNumber 17 = .ok (.getfield 59, 3) := by decide +kernel
theorem dX2_isNumber_20 : decode cX2_isNumber 20 = .ok (.iload_n 2, 1) := by decide +kernel
theorem dX2_isNumber_21 : decode cX2_isNumber 21 = .ok (.if_icmp .gt 7, 3) := by decide +kernel
theorem dX2_isNumber_24 : decode cX2_isNumber 24 = .ok (.iconst 1, 1) := by decide +kernel
theorem dX2_isNumber_25 : decode cX2_isNumber 25 = .ok (.goto 4, 3) := by decide +kernel
theorem dX2_isNumber_28 : decode cX2_isNumber 28 = .ok (.iconst 0, 1) := by decide +kernel
theorem dX2_isNumber_29 : decode cX2_isNumber 29 = .ok (.ireturn, 1) := by decide +kernel
theorem dX2_kindNamed_0 : decode cX2_kindNamed 0 = .ok (.aload_n 0, 1) := by decide +kernel
theorem dX2_kindNamed_1 : decode cX2_kindNamed 1 = .ok (.ldc 88, 2) := by decide +kernel
theorem dX2_kindNamed_3 : decode cX2_kindNamed 3 = .ok (.invokevirtual 51, 3) := by decide +kernel
theorem dX2_kindNamed_6 : decode cX2_kindNamed 6 = .ok (.ifCond .eq 5, 3) := by decide +kernel
theorem dX2_kindNamed_9 : decode cX2_kindNamed 9 = .ok (.iconst 0, 1) := by decide +kernel
theorem dX2_kindNamed_10 : decode cX2_kindNamed 10 = .ok (.ireturn, 1) := by decide +kernel
theorem dX2_kindNamed_11 : decode cX2_kindNamed 11 = .ok (.aload_n 0, 1) := by decide +kernel
theorem dX2_kindNamed_12 : decode cX2_kindNamed 12 = .ok (.ldc 90, 2) := by decide +kernel
theorem dX2_kindNamed_14 : decode cX2_kindNamed 14 = .ok (.invokevirtual 51, 3) := by decide +kernel
theorem dX2_kindNamed_17 : decode cX2_kindNamed 17 = .ok (.ifCond .eq 5, 3) := by decide +kernel
theorem dX2_kindNamed_20 : decode cX2_kindNamed 20 = .ok (.iconst 1, 1) := by decide +kernel
theorem dX2_kindNamed_21 : decode cX2_kindNamed 21 = .ok (.ireturn, 1) := by decide +kernel
theorem dX2_kindNamed_22 : decode cX2_kindNamed 22 = .ok (.aload_n 0, 1) := by decide +kernel
theorem dX2_kindNamed_23 : decode cX2_kindNamed 23 = .ok (.ldc 92, 2) := by decide +kernel
theorem dX2_kindNamed_25 : decode cX2_kindNamed 25 = .ok (.invokevirtual 51, 3) := by decide +kernel
theorem dX2_kindNamed_28 : decode cX2_kindNamed 28 = .ok (.ifCond .eq 5, 3) := by decide +kernel
theorem dX2_kindNamed_31 : decode cX2_kindNamed 31 = .ok (.iconst 2, 1) := by decide +kernel
theorem dX2_kindNamed_32 : decode cX2_kindNamed 32 = .ok (.ireturn, 1) := by decide +kernel
theorem dX2_kindNamed_33 : decode cX2_kindNamed 33 = .ok (.aload_n 0, 1) := by decide +kernel
theorem dX2_kindNamed_34 : decode cX2_kindNamed 34 = .ok (.ldc 94, 2) := by decide +kernel
theorem dX2_kindNamed_36 : decode cX2_kindNamed 36 = .ok (.invokevirtual 51, 3) := by decide +kernel
theorem dX2_kindNamed_39 : decode cX2_kindNamed 39 = .ok (.ifCond .eq 5, 3) := by decide +kernel
theorem dX2_kindNamed_42 : decode cX2_kindNamed 42 = .ok (.iconst 3, 1) := by decide +kernel
theorem dX2_kindNamed_43 : decode cX2_kindNamed 43 = .ok (.ireturn, 1) := by decide +kernel
theorem dX2_kindNamed_44 : decode cX2_kindNamed 44 = .ok (.aload_n 0, 1) := by decide +kernel
theorem dX2_kindNamed_45 : decode cX2_kindNamed 45 = .ok (.ldc 96, 2) := by decide +kernel
theorem dX2_kindNamed_47 : decode cX2_kindNamed 47 = .ok (.invokevirtual 51, 3) := by decide +kernel
theorem dX2_kindNamed_50 : decode cX2_kindNamed 50 = .ok (.ifCond .eq 5, 3) := by decide +kernel
theorem dX2_kindNamed_53 : decode cX2_kindNamed 53 = .ok (.iconst 4, 1) := by decide +kernel
theorem dX2_kindNamed_54 : decode cX2_kindNamed 54 = .ok (.ireturn, 1) := by decide +kernel
theorem dX2_kindNamed_55 : decode cX2_kindNamed 55 = .ok (.aload_n 0, 1) := by decide +kernel
theorem dX2_kindNamed_56 : decode cX2_kindNamed 56 = .ok (.ldc 98, 2) := by decide +kernel
theorem dX2_kindNamed_58 : decode cX2_kindNamed 58 = .ok (.invokevirtual 51, 3) := by decide +kernel
theorem dX2_kindNamed_61 : decode cX2_kindNamed 61 = .ok (.ifCond .eq 7, 3) := by decide +kernel
theorem dX2_kindNamed_64 : decode cX2_kindNamed 64 = .ok (.iconst 5, 1) := by decide +kernel
theorem dX2_kindNamed_65 : decode cX2_kindNamed 65 = .ok (.goto 4, 3) := by decide +kernel
theorem dX2_kindNamed_68 : decode cX2_kindNamed 68 = .ok (.iconst (-1), 1) := by decide +kernel
theorem dX2_kindNamed_69 : decode cX2_kindNamed 69 = .ok (.ireturn, 1) := by decide +kernel
theorem dX2_thingNamed_0 : decode cX2_thingNamed 0 = .ok (.aload_n 0, 1) := by decide +kernel
theorem dX2_thingNamed_1 : decode cX2_thingNamed 1 = .ok (.ldc 100, 2) := by decide +kernel
theorem dX2_thingNamed_3 : decode cX2_thingNamed 3 = .ok (.invokevirtual 51, 3) := by decide +kernel
theorem dX2_thingNamed_6 : decode cX2_thingNamed 6 = .ok (.ifCond .eq 5, 3) := by decide +kernel
theorem dX2_thingNamed_9 : decode cX2_thingNamed 9 = .ok (.iconst 0, 1) := by decide +kernel
theorem dX2_thingNamed_10 : decode cX2_thingNamed 10 = .ok (.ireturn, 1) := by decide +kernel
theorem dX2_thingNamed_11 : decode cX2_thingNamed 11 = .ok (.aload_n 0, 1) := by decide +kernel
theorem dX2_thingNamed_12 : decode cX2_thingNamed 12 = .ok (.ldc 102, 2) := by decide +kernel
theorem dX2_thingNamed_14 : decode cX2_thingNamed 14 = .ok (.invokevirtual 51, 3) := by decide +kernel
theorem dX2_thingNamed_17 : decode cX2_thingNamed 17 = .ok (.ifCond .eq 5, 3) := by decide +kernel
theorem dX2_thingNamed_20 : decode cX2_thingNamed 20 = .ok (.iconst 1, 1) := by decide +kernel
theorem dX2_thingNamed_21 : decode cX2_thingNamed 21 = .ok (.ireturn, 1) := by decide +kernel
theorem dX2_thingNamed_22 : decode cX2_thingNamed 22 = .ok (.aload_n 0, 1) := by decide +kernel
theorem dX2_thingNamed_23 : decode cX2_thingNamed 23 = .ok (.ldc 104, 2) := by decide +kernel
theorem dX2_thingNamed_25 : decode cX2_thingNamed 25 = .ok (.invokevirtual 51, 3) := by decide +kernel
theorem dX2_thingNamed_28 : decode cX2_thingNamed 28 = .ok (.ifCond .eq 5, 3) := by decide +kernel
theorem dX2_thingNamed_31 : decode cX2_thingNamed 31 = .ok (.iconst 2, 1) := by decide +kernel
theorem dX2_thingNamed_32 : decode cX2_thingNamed 32 = .ok (.ireturn, 1) := by decide +kernel
theorem dX2_thingNamed_33 : decode cX2_thingNamed 33 = .ok (.aload_n 0, 1) := by decide +kernel
theorem dX2_thingNamed_34 : decode cX2_thingNamed 34 = .ok (.ldc 106, 2) := by decide +kernel
theorem dX2_thingNamed_36 : decode cX2_thingNamed 36 = .ok (.invokevirtual 51, 3) := by decide +kernel
theorem dX2_thingNamed_39 : decode cX2_thingNamed 39 = .ok (.ifCond .eq 5, 3) := by decide +kernel
theorem dX2_thingNamed_42 : decode cX2_thingNamed 42 = .ok (.iconst 3, 1) := by decide +kernel
theorem dX2_thingNamed_43 : decode cX2_thingNamed 43 = .ok (.ireturn, 1) := by decide +kernel
theorem dX2_thingNamed_44 : decode cX2_thingNamed 44 = .ok (.aload_n 0, 1) := by decide +kernel
theorem dX2_thingNamed_45 : decode cX2_thingNamed 45 = .ok (.ldc 108, 2) := by decide +kernel
theorem dX2_thingNamed_47 : decode cX2_thingNamed 47 = .ok (.invokevirtual 51, 3) := by decide +kernel
theorem dX2_thingNamed_50 : decode cX2_thingNamed 50 = .ok (.ifCond .eq 7, 3) := by decide +kernel
theorem dX2_thingNamed_53 : decode cX2_thingNamed 53 = .ok (.iconst 4, 1) := by decide +kernel
theorem dX2_thingNamed_54 : decode cX2_thingNamed 54 = .ok (.goto 4, 3) := by decide +kernel
theorem dX2_thingNamed_57 : decode cX2_thingNamed 57 = .ok (.iconst (-1), 1) := by decide +kernel
theorem dX2_thingNamed_58 : decode cX2_thingNamed 58 = .ok (.ireturn, 1) := by decide +kernel
theorem dX2_isWord_0 : decode cX2_isWord 0 = .ok (.aload_n 0, 1) := by decide +kernel
theorem dX2_isWord_1 : decode cX2_isWord 1 = .ok (.getfield 32, 3) := by decide +kernel
theorem dX2_isWord_4 : decode cX2_isWord 4 = .ok (.iconst 1, 1) := by decide +kernel
theorem dX2_isWord_5 : decode cX2_isWord 5 = .ok (.if_icmp .ne 19, 3) := by decide +kernel
theorem dX2_isWord_8 : decode cX2_isWord 8 = .ok (.aload_n 0, 1) := by decide +kernel
theorem dX2_isWord_9 : decode cX2_isWord 9 = .ok (.getfield 19, 3) := by decide +kernel
theorem dX2_isWord_12 : decode cX2_isWord 12 = .ok (.aload_n 0, 1) := by decide +kernel
theorem dX2_isWord_13 : decode cX2_isWord 13 = .ok (.getfield 29, 3) := by decide +kernel
theorem dX2_isWord_16 : decode cX2_isWord 16 = .ok (.isub, 1) := by decide +kernel
theorem dX2_isWord_17 : decode cX2_isWord 17 = .ok (.aload_n 1, 1) := by decide +kernel
theorem dX2_isWord_18 : decode cX2_isWord 18 = .ok (.invokevirtual 110, 3) := by decide +kernel
theorem dX2_isWord_21 : decode cX2_isWord 21 = .ok (.if_icmp .eq 5, 3) := by decide +kernel
theorem dX2_isWord_24 : decode cX2_isWord 24 = .ok (.iconst 0, 1) := by decide +kernel
theorem dX2_isWord_25 : decode cX2_isWord 25 = .ok (.ireturn, 1) := by decide +kernel
theorem dX2_isWord_26 : decode cX2_isWord 26 = .ok (.iconst 0, 1) := by decide +kernel
theorem dX2_isWord_27 : decode cX2_isWord 27 = .ok (.istore_n 2, 1) := by decide +kernel
theorem dX2_isWord_28 : decode cX2_isWord 28 = .ok (.iload_n 2, 1) := by decide +kernel
theorem dX2_isWord_29 : decode cX2_isWord 29 = .ok (.aload_n 1, 1) := by decide +kernel
theorem dX2_isWord_30 : decode cX2_isWord 30 = .ok (.invokevirtual 110, 3) := by decide +kernel
theorem dX2_isWord_33 : decode cX2_isWord 33 = .ok (.if_icmp .ge 30, 3) := by decide +kernel
theorem dX2_isWord_36 : decode cX2_isWord 36 = .ok (.aload_n 0, 1) := by decide +kernel
theorem dX2_isWord_37 : decode cX2_isWord 37 = .ok (.getfield 9, 3) := by decide +kernel
theorem dX2_isWord_40 : decode cX2_isWord 40 = .ok (.aload_n 0, 1) := by decide +kernel
theorem dX2_isWord_41 : decode cX2_isWord 41 = .ok (.getfield 29, 3) := by decide +kernel
theorem dX2_isWord_44 : decode cX2_isWord 44 = .ok (.iload_n 2, 1) := by decide +kernel
theorem dX2_isWord_45 : decode cX2_isWord 45 = .ok (.iadd, 1) := by decide +kernel
theorem dX2_isWord_46 : decode cX2_isWord 46 = .ok (.iaload, 1) := by decide +kernel
theorem dX2_isWord_47 : decode cX2_isWord 47 = .ok (.aload_n 1, 1) := by decide +kernel
theorem dX2_isWord_48 : decode cX2_isWord 48 = .ok (.iload_n 2, 1) := by decide +kernel
theorem dX2_isWord_49 : decode cX2_isWord 49 = .ok (.invokevirtual 114, 3) := by decide +kernel
theorem dX2_isWord_52 : decode cX2_isWord 52 = .ok (.if_icmp .eq 5, 3) := by decide +kernel
theorem dX2_isWord_55 : decode cX2_isWord 55 = .ok (.iconst 0, 1) := by decide +kernel
theorem dX2_isWord_56 : decode cX2_isWord 56 = .ok (.ireturn, 1) := by decide +kernel
theorem dX2_isWord_57 : decode cX2_isWord 57 = .ok (.iinc 2 1, 3) := by decide +kernel
theorem dX2_isWord_60 : decode cX2_isWord 60 = .ok (.goto (-32), 3) := by decide +kernel
theorem dX2_isWord_63 : decode cX2_isWord 63 = .ok (.iconst 1, 1) := by decide +kernel
theorem dX2_isWord_64 : decode cX2_isWord 64 = .ok (.ireturn, 1) := by decide +kernel
theorem dX2_nextToken_0 : decode cX2_nextToken 0 = .ok (.aload_n 0, 1) := by decide +kernel
theorem dX2_nextToken_1 : decode cX2_nextToken 1 = .ok (.aload_n 0, 1) := by decide +kernel
theorem dX2_nextToken_2 : decode cX2_nextToken 2 = .ok (.getfield 19, 3) := by decide +kernel
theorem dX2_nextToken_5 : decode cX2_nextToken 5 = .ok (.putfield 29, 3) := by decide +kernel
theorem dX2_nextToken_8 : decode cX2_nextToken 8 = .ok (.aload_n 0, 1) := by decide +kernel
theorem dX2_nextToken_9 : decode cX2_nextToken 9 = .ok (.getfield 29, 3) := by decide +kernel
theorem dX2_nextToken_12 : decode cX2_nextToken 12 = .ok (.aload_n 0, 1) := by decide +kernel
theorem dX2_nextToken_13 : decode cX2_nextToken 13 = .ok (.getfield 15, 3) := by decide +kernel
theorem dX2_nextToken_16 : decode cX2_nextToken 16 = .ok (.if_icmp .ge 30, 3) := by decide +kernel
theorem dX2_nextToken_19 : decode cX2_nextToken 19 = .ok (.aload_n 0, 1) := by decide +kernel
theorem dX2_nextToken_20 : decode cX2_nextToken 20 = .ok (.getfield 9, 3) := by decide +kernel
theorem dX2_nextToken_23 : decode cX2_nextToken 23 = .ok (.aload_n 0, 1) := by decide +kernel
theorem dX2_nextToken_24 : decode cX2_nextToken 24 = .ok (.getfield 29, 3) := by decide +kernel
theorem dX2_nextToken_27 : decode cX2_nextToken 27 = .ok (.iaload, 1) := by decide +kernel
theorem dX2_nextToken_28 : decode cX2_nextToken 28 = .ok (.bipush 32, 2) := by decide +kernel
theorem dX2_nextToken_30 : decode cX2_nextToken 30 = .ok (.if_icmp .ne 16, 3) := by decide +kernel
theorem dX2_nextToken_33 : decode cX2_nextToken 33 = .ok (.aload_n 0, 1) := by decide +kernel
theorem dX2_nextToken_34 : decode cX2_nextToken 34 = .ok (.dup, 1) := by decide +kernel
theorem dX2_nextToken_35 : decode cX2_nextToken 35 = .ok (.getfield 29, 3) := by decide +kernel
theorem dX2_nextToken_38 : decode cX2_nextToken 38 = .ok (.iconst 1, 1) := by decide +kernel
theorem dX2_nextToken_39 : decode cX2_nextToken 39 = .ok (.iadd, 1) := by decide +kernel
theorem dX2_nextToken_40 : decode cX2_nextToken 40 = .ok (.putfield 29, 3) := by decide +kernel
theorem dX2_nextToken_43 : decode cX2_nextToken 43 = .ok (.goto (-35), 3) := by decide +kernel
theorem dX2_nextToken_46 : decode cX2_nextToken 46 = .ok (.aload_n 0, 1) := by decide +kernel
theorem dX2_nextToken_47 : decode cX2_nextToken 47 = .ok (.aload_n 0, 1) := by decide +kernel
theorem dX2_nextToken_48 : decode cX2_nextToken 48 = .ok (.getfield 29, 3) := by decide +kernel
theorem dX2_nextToken_51 : decode cX2_nextToken 51 = .ok (.putfield 19, 3) := by decide +kernel
theorem dX2_nextToken_54 : decode cX2_nextToken 54 = .ok (.aload_n 0, 1) := by decide +kernel
theorem dX2_nextToken_55 : decode cX2_nextToken 55 = .ok (.iconst 0, 1) := by decide +kernel
theorem dX2_nextToken_56 : decode cX2_nextToken 56 = .ok (.putfield 59, 3) := by decide +kernel
theorem dX2_nextToken_59 : decode cX2_nextToken 59 = .ok (.aload_n 0, 1) := by decide +kernel
theorem dX2_nextToken_60 : decode cX2_nextToken 60 = .ok (.getfield 29, 3) := by decide +kernel
theorem dX2_nextToken_63 : decode cX2_nextToken 63 = .ok (.aload_n 0, 1) := by decide +kernel
theorem dX2_nextToken_64 : decode cX2_nextToken 64 = .ok (.getfield 15, 3) := by decide +kernel
theorem dX2_nextToken_67 : decode cX2_nextToken 67 = .ok (.if_icmp .lt 11, 3) := by decide +kernel
theorem dX2_nextToken_70 : decode cX2_nextToken 70 = .ok (.aload_n 0, 1) := by decide +kernel
theorem dX2_nextToken_71 : decode cX2_nextToken 71 = .ok (.iconst 0, 1) := by decide +kernel
theorem dX2_nextToken_72 : decode cX2_nextToken 72 = .ok (.putfield 32, 3) := by decide +kernel
theorem dX2_nextToken_75 : decode cX2_nextToken 75 = .ok (.goto 122, 3) := by decide +kernel
theorem dX2_nextToken_78 : decode cX2_nextToken 78 = .ok (.aload_n 0, 1) := by decide +kernel
theorem dX2_nextToken_79 : decode cX2_nextToken 79 = .ok (.getfield 9, 3) := by decide +kernel
theorem dX2_nextToken_82 : decode cX2_nextToken 82 = .ok (.aload_n 0, 1) := by decide +kernel
theorem dX2_nextToken_83 : decode cX2_nextToken 83 = .ok (.getfield 29, 3) := by decide +kernel
theorem dX2_nextToken_86 : decode cX2_nextToken 86 = .ok (.iaload, 1) := by decide +kernel
theorem dX2_nextToken_87 : decode cX2_nextToken 87 = .ok (.invokestatic 118, 3) := by decide +kernel
theorem dX2_nextToken_90 : decode cX2_nextToken 90 = .ok (.ifCond .eq 47, 3) := by decide +kernel
theorem dX2_nextToken_93 : decode cX2_nextToken 93 = .ok (.aload_n 0, 1) := by decide +kernel
theorem dX2_nextToken_94 : decode cX2_nextToken 94 = .ok (.iconst 1, 1) := by decide +kernel
theorem dX2_nextToken_95 : decode cX2_nextToken 95 = .ok (.putfield 32, 3) := by decide +kernel
theorem dX2_nextToken_98 : decode cX2_nextToken 98 = .ok (.aload_n 0, 1) := by decide +kernel
theorem dX2_nextToken_99 : decode cX2_nextToken 99 = .ok (.getfield 19, 3) := by decide +kernel
theorem dX2_nextToken_102 : decode cX2_nextToken 102 = .ok (.aload_n 0, 1) := by decide +kernel
theorem dX2_nextToken_103 : decode cX2_nextToken 103 = .ok (.getfield 15, 3) := by decide +kernel
theorem dX2_nextToken_106 : decode cX2_nextToken 106 = .ok (.if_icmp .ge 91, 3) := by decide +kernel
theorem dX2_nextToken_109 : decode cX2_nextToken 109 = .ok (.aload_n 0, 1) := by decide +kernel
theorem dX2_nextToken_110 : decode cX2_nextToken 110 = .ok (.getfield 9, 3) := by decide +kernel
theorem dX2_nextToken_113 : decode cX2_nextToken 113 = .ok (.aload_n 0, 1) := by decide +kernel
theorem dX2_nextToken_114 : decode cX2_nextToken 114 = .ok (.getfield 19, 3) := by decide +kernel
theorem dX2_nextToken_117 : decode cX2_nextToken 117 = .ok (.iaload, 1) := by decide +kernel
theorem dX2_nextToken_118 : decode cX2_nextToken 118 = .ok (.invokestatic 118, 3) := by decide +kernel
theorem dX2_nextToken_121 : decode cX2_nextToken 121 = .ok (.ifCond .eq 76, 3) := by decide +kernel
theorem dX2_nextToken_124 : decode cX2_nextToken 124 = .ok (.aload_n 0, 1) := by decide +kernel
theorem dX2_nextToken_125 : decode cX2_nextToken 125 = .ok (.dup, 1) := by decide +kernel
theorem dX2_nextToken_126 : decode cX2_nextToken 126 = .ok (.getfield 19, 3) := by decide +kernel
theorem dX2_nextToken_129 : decode cX2_nextToken 129 = .ok (.iconst 1, 1) := by decide +kernel
theorem dX2_nextToken_130 : decode cX2_nextToken 130 = .ok (.iadd, 1) := by decide +kernel
theorem dX2_nextToken_131 : decode cX2_nextToken 131 = .ok (.putfield 19, 3) := by decide +kernel
theorem dX2_nextToken_134 : decode cX2_nextToken 134 = .ok (.goto (-36), 3) := by decide +kernel
theorem dX2_nextToken_137 : decode cX2_nextToken 137 = .ok (.aload_n 0, 1) := by decide +kernel
theorem dX2_nextToken_138 : decode cX2_nextToken 138 = .ok (.getfield 9, 3) := by decide +kernel
theorem dX2_nextToken_141 : decode cX2_nextToken 141 = .ok (.aload_n 0, 1) := by decide +kernel
theorem dX2_nextToken_142 : decode cX2_nextToken 142 = .ok (.getfield 29, 3) := by decide +kernel
theorem dX2_nextToken_145 : decode cX2_nextToken 145 = .ok (.iaload, 1) := by decide +kernel
theorem dX2_nextToken_146 : decode cX2_nextToken 146 = .ok (.invokestatic 122, 3) := by decide +kernel
theorem dX2_nextToken_149 : decode cX2_nextToken 149 = .ok (.ifCond .eq 15, 3) := by decide +kernel
theorem dX2_nextToken_152 : decode cX2_nextToken 152 = .ok (.aload_n 0, 1) := by decide +kernel
theorem dX2_nextToken_153 : decode cX2_nextToken 153 = .ok (.iconst 2, 1) := by decide +kernel
theorem dX2_nextToken_154 : decode cX2_nextToken 154 = .ok (.putfield 32, 3) := by decide +kernel
theorem dX2_nextToken_157 : decode cX2_nextToken 157 = .ok (.aload_n 0, 1) := by decide +kernel
theorem dX2_nextToken_158 : decode cX2_nextToken 158 = .ok (.invokevirtual 125, 3) := by decide +kernel
theorem dX2_nextToken_161 : decode cX2_nextToken 161 = .ok (.goto 36, 3) := by decide +kernel
theorem dX2_nextToken_164 : decode cX2_nextToken 164 = .ok (.aload_n 0, 1) := by decide +kernel
theorem dX2_nextToken_165 : decode cX2_nextToken 165 = .ok (.aload_n 0, 1) := by decide +kernel
theorem dX2_nextToken_166 : decode cX2_nextToken 166 = .ok (.getfield 9, 3) := by decide +kernel
theorem dX2_nextToken_169 : decode cX2_nextToken 169 = .ok (.aload_n 0, 1) := by decide +kernel
theorem dX2_nextToken_170 : decode cX2_nextToken 170 = .ok (.getfield 29, 3) := by decide +kernel
theorem dX2_nextToken_173 : decode cX2_nextToken 173 = .ok (.iaload, 1) := by decide +kernel
theorem dX2_nextToken_174 : decode cX2_nextToken 174 = .ok (.bipush 59, 2) := by decide +kernel
theorem dX2_nextToken_176 : decode cX2_nextToken 176 = .ok (.if_icmp .ne 7, 3) := by decide +kernel
theorem dX2_nextToken_179 : decode cX2_nextToken 179 = .ok (.iconst 3, 1) := by decide +kernel
theorem dX2_nextToken_180 : decode cX2_nextToken 180 = .ok (.goto 4, 3) := by decide +kernel
theorem dX2_nextToken_183 : decode cX2_nextToken 183 = .ok (.iconst 4, 1) := by decide +kernel
theorem dX2_nextToken_184 : decode cX2_nextToken 184 = .ok (.putfield 32, 3) := by decide +kernel
theorem dX2_nextToken_187 : decode cX2_nextToken 187 = .ok (.aload_n 0, 1) := by decide +kernel
theorem dX2_nextToken_188 : decode cX2_nextToken 188 = .ok (.aload_n 0, 1) := by decide +kernel
theorem dX2_nextToken_189 : decode cX2_nextToken 189 = .ok (.getfield 29, 3) := by decide +kernel
theorem dX2_nextToken_192 : decode cX2_nextToken 192 = .ok (.iconst 1, 1) := by decide +kernel
theorem dX2_nextToken_193 : decode cX2_nextToken 193 = .ok (.iadd, 1) := by decide +kernel
theorem dX2_nextToken_194 : decode cX2_nextToken 194 = .ok (.putfield 19, 3) := by decide +kernel
theorem dX2_nextToken_197 : decode cX2_nextToken 197 = .ok (.return_, 1) := by decide +kernel
theorem dX2_readNumber_0 : decode cX2_readNumber 0 = .ok (.aload_n 0, 1) := by decide +kernel
theorem dX2_readNumber_1 : decode cX2_readNumber 1 = .ok (.getfield 19, 3) := by decide +kernel
theorem dX2_readNumber_4 : decode cX2_readNumber 4 = .ok (.aload_n 0, 1) := by decide +kernel
theorem dX2_readNumber_5 : decode cX2_readNumber 5 = .ok (.getfield 15, 3) := by decide +kernel
theorem dX2_readNumber_8 : decode cX2_readNumber 8 = .ok (.if_icmp .ge 61, 3) := by decide +kernel
theorem dX2_readNumber_11 : decode cX2_readNumber 11 = .ok (.aload_n 0, 1) := by decide +kernel
theorem dX2_readNumber_12 : decode cX2_readNumber 12 = .ok (.getfield 9, 3) := by decide +kernel
theorem dX2_readNumber_15 : decode cX2_readNumber 15 = .ok (.aload_n 0, 1) := by decide +kernel
theorem dX2_readNumber_16 : decode cX2_readNumber 16 = .ok (.getfield 19, 3) := by decide +kernel
theorem dX2_readNumber_19 : decode cX2_readNumber 19 = .ok (.iaload, 1) := by decide +kernel
theorem dX2_readNumber_20 : decode cX2_readNumber 20 = .ok (.invokestatic 122, 3) := by decide +kernel
theorem dX2_readNumber_23 : decode cX2_readNumber 23 = .ok (.ifCond .eq 46, 3) := by decide +kernel
theorem dX2_readNumber_26 : decode cX2_readNumber 26 = .ok (.aload_n 0, 1) := by decide +kernel
theorem dX2_readNumber_27 : decode cX2_readNumber 27 = .ok (.aload_n 0, 1) := by decide +kernel
theorem dX2_readNumber_28 : decode cX2_readNumber 28 = .ok (.getfield 59, 3) := by decide +kernel
theorem dX2_readNumber_31 : decode cX2_readNumber 31 = .ok (.bipush 10, 2) := by decide +kernel
theorem dX2_readNumber_33 : decode cX2_readNumber 33 = .ok (.imul, 1) := by decide +kernel
theorem dX2_readNumber_34 : decode cX2_readNumber 34 = .ok (.aload_n 0, 1) := by decide +kernel
theorem dX2_readNumber_35 : decode cX2_readNumber 35 = .ok (.getfield 9, 3) := by decide +kernel
theorem dX2_readNumber_38 : decode cX2_readNumber 38 = .ok (.aload_n 0, 1) := by decide +kernel
theorem dX2_readNumber_39 : decode cX2_readNumber 39 = .ok (.getfield 19, 3) := by decide +kernel
theorem dX2_readNumber_42 : decode cX2_readNumber 42 = .ok (.iaload, 1) := by decide +kernel
theorem dX2_readNumber_43 : decode cX2_readNumber 43 = .ok (.iadd, 1) := by decide +kernel
theorem dX2_readNumber_44 : decode cX2_readNumber 44 = .ok (.bipush 48, 2) := by decide +kernel
theorem dX2_readNumber_46 : decode cX2_readNumber 46 = .ok (.isub, 1) := by decide +kernel
theorem dX2_readNumber_47 : decode cX2_readNumber 47 = .ok (.sipush 1000, 3) := by decide +kernel
theorem dX2_readNumber_50 : decode cX2_readNumber 50 = .ok (.invokestatic 128, 3) := by decide +kernel
theorem dX2_readNumber_53 : decode cX2_readNumber 53 = .ok (.putfield 59, 3) := by decide +kernel
theorem dX2_readNumber_56 : decode cX2_readNumber 56 = .ok (.aload_n 0, 1) := by decide +kernel
theorem dX2_readNumber_57 : decode cX2_readNumber 57 = .ok (.dup, 1) := by decide +kernel
theorem dX2_readNumber_58 : decode cX2_readNumber 58 = .ok (.getfield 19, 3) := by decide +kernel
theorem dX2_readNumber_61 : decode cX2_readNumber 61 = .ok (.iconst 1, 1) := by decide +kernel
theorem dX2_readNumber_62 : decode cX2_readNumber 62 = .ok (.iadd, 1) := by decide +kernel
theorem dX2_readNumber_63 : decode cX2_readNumber 63 = .ok (.putfield 19, 3) := by decide +kernel
theorem dX2_readNumber_66 : decode cX2_readNumber 66 = .ok (.goto (-66), 3) := by decide +kernel
theorem dX2_readNumber_69 : decode cX2_readNumber 69 = .ok (.return_, 1) := by decide +kernel
theorem dX2_isLetter_0 : decode cX2_isLetter 0 = .ok (.iload_n 0, 1) := by decide +kernel
theorem dX2_isLetter_1 : decode cX2_isLetter 1 = .ok (.bipush 97, 2) := by decide +kernel
theorem dX2_isLetter_3 : decode cX2_isLetter 3 = .ok (.if_icmp .lt 13, 3) := by decide +kernel
theorem dX2_isLetter_6 : decode cX2_isLetter 6 = .ok (.iload_n 0, 1) := by decide +kernel
theorem dX2_isLetter_7 : decode cX2_isLetter 7 = .ok (.bipush 122, 2) := by decide +kernel
theorem dX2_isLetter_9 : decode cX2_isLetter 9 = .ok (.if_icmp .gt 7, 3) := by decide +kernel
theorem dX2_isLetter_12 : decode cX2_isLetter 12 = .ok (.iconst 1, 1) := by decide +kernel
theorem dX2_isLetter_13 : decode cX2_isLetter 13 = .ok (.goto 4, 3) := by decide +kernel
theorem dX2_isLetter_16 : decode cX2_isLetter 16 = .ok (.iconst 0, 1) := by decide +kernel
theorem dX2_isLetter_17 : decode cX2_isLetter 17 = .ok (.ireturn, 1) := by decide +kernel
theorem dX2_isDigit_0 : decode cX2_isDigit 0 = .ok (.iload_n 0, 1) := by decide +kernel
theorem dX2_isDigit_1 : decode cX2_isDigit 1 = .ok (.bipush 48, 2) := by decide +kernel
theorem dX2_isDigit_3 : decode cX2_isDigit 3 = .ok (.if_icmp .lt 13, 3) := by decide +kernel
theorem dX2_isDigit_6 : decode cX2_isDigit 6 = .ok (.iload_n 0, 1) := by decide +kernel
theorem dX2_isDigit_7 : decode cX2_isDigit 7 = .ok (.bipush 57, 2) := by decide +kernel
theorem dX2_isDigit_9 : decode cX2_isDigit 9 = .ok (.if_icmp .gt 7, 3) := by decide +kernel
theorem dX2_isDigit_12 : decode cX2_isDigit 12 = .ok (.iconst 1, 1) := by decide +kernel
theorem dX2_isDigit_13 : decode cX2_isDigit 13 = .ok (.goto 4, 3) := by decide +kernel
theorem dX2_isDigit_16 : decode cX2_isDigit 16 = .ok (.iconst 0, 1) := by decide +kernel
theorem dX2_isDigit_17 : decode cX2_isDigit 17 = .ok (.ireturn, 1) := by decide +kernel
theorem dX3_init_0 : decode cX3_init 0 = .ok (.aload_n 0, 1) := by decide +kernel
theorem dX3_init_1 : decode cX3_init 1 = .ok (.invokespecial 3, 3) := by decide +kernel
theorem dX3_init_4 : decode cX3_init 4 = .ok (.aload_n 0, 1) := by decide +kernel
theorem dX3_init_5 : decode cX3_init 5 = .ok (.iconst 0, 1) := by decide +kernel
theorem dX3_init_6 : decode cX3_init 6 = .ok (.putfield 9, 3) := by decide +kernel
theorem dX3_init_9 : decode cX3_init 9 = .ok (.aload_n 0, 1) := by decide +kernel
theorem dX3_init_10 : decode cX3_init 10 = .ok (.iconst 3, 1) := by decide +kernel
theorem dX3_init_11 : decode cX3_init 11 = .ok (.putfield 15, 3) := by decide +kernel
theorem dX3_init_14 : decode cX3_init 14 = .ok (.aload_n 0, 1) := by decide +kernel
theorem dX3_init_15 : decode cX3_init 15 = .ok (.iconst 0, 1) := by decide +kernel
theorem dX3_init_16 : decode cX3_init 16 = .ok (.putfield 18, 3) := by decide +kernel
theorem dX3_init_19 : decode cX3_init 19 = .ok (.aload_n 0, 1) := by decide +kernel
theorem dX3_init_20 : decode cX3_init 20 = .ok (.bipush 60, 2) := by decide +kernel
theorem dX3_init_22 : decode cX3_init 22 = .ok (.newarray .int, 2) := by decide +kernel
theorem dX3_init_24 : decode cX3_init 24 = .ok (.putfield 21, 3) := by decide +kernel
theorem dX3_init_27 : decode cX3_init 27 = .ok (.aload_n 0, 1) := by decide +kernel
theorem dX3_init_28 : decode cX3_init 28 = .ok (.bipush 60, 2) := by decide +kernel
theorem dX3_init_30 : decode cX3_init 30 = .ok (.newarray .int, 2) := by decide +kernel
theorem dX3_init_32 : decode cX3_init 32 = .ok (.putfield 25, 3) := by decide +kernel
theorem dX3_init_35 : decode cX3_init 35 = .ok (.aload_n 0, 1) := by decide +kernel
theorem dX3_init_36 : decode cX3_init 36 = .ok (.bipush 8, 2) := by decide +kernel
theorem dX3_init_38 : decode cX3_init 38 = .ok (.newarray .int, 2) := by decide +kernel
theorem dX3_init_40 : decode cX3_init 40 = .ok (.putfield 28, 3) := by decide +kernel
theorem dX3_init_43 : decode cX3_init 43 = .ok (.aload_n 0, 1) := by decide +kernel
theorem dX3_init_44 : decode cX3_init 44 = .ok (.bipush 8, 2) := by decide +kernel
theorem dX3_init_46 : decode cX3_init 46 = .ok (.newarray .int, 2) := by decide +kernel
theorem dX3_init_48 : decode cX3_init 48 = .ok (.putfield 31, 3) := by decide +kernel
theorem dX3_init_51 : decode cX3_init 51 = .ok (.aload_n 0, 1) := by decide +kernel
theorem dX3_init_52 : decode cX3_init 52 = .ok (.bipush 8, 2) := by decide +kernel
theorem dX3_init_54 : decode cX3_init 54 = .ok (.newarray .int, 2) := by decide +kernel
theorem dX3_init_56 : decode cX3_init 56 = .ok (.putfield 34, 3) := by decide +kernel
theorem dX3_init_59 : decode cX3_init 59 = .ok (.return_, 1) := by decide +kernel
theorem dX3_becomeLike_0 : decode cX3_becomeLike 0 = .ok (.aload_n 0, 1) := by decide +kernel
theorem dX3_becomeLike_1 : decode cX3_becomeLike 1 = .ok (.aload_n 1, 1) := by decide +kernel
theorem dX3_becomeLike_2 : decode cX3_becomeLike 2 = .ok (.getfield 9, 3) := by decide +kernel
theorem dX3_becomeLike_5 : decode cX3_becomeLike 5 = .ok (.putfield 9, 3) := by decide +kernel
theorem dX3_becomeLike_8 : decode cX3_becomeLike 8 = .ok (.aload_n 0, 1) := by decide +kernel
theorem dX3_becomeLike_9 : decode cX3_becomeLike 9 = .ok (.aload_n 1, 1) := by decide +kernel
theorem dX3_becomeLike_10 : decode cX3_becomeLike 10 = .ok (.getfield 15, 3) := by decide +kernel
theorem dX3_becomeLike_13 : decode cX3_becomeLike 13 = .ok (.putfield 15, 3) := by decide +kernel
theorem dX3_becomeLike_16 : decode cX3_becomeLike 16 = .ok (.aload_n 0, 1) := by decide +kernel
theorem dX3_becomeLike_17 : decode cX3_becomeLike 17 = .ok (.aload_n 1, 1) := by decide +kernel
theorem dX3_becomeLike_18 : decode cX3_becomeLike 18 = .ok (.getfield 18, 3) := by decide +kernel
theorem dX3_becomeLike_21 : decode cX3_becomeLike 21 = .ok (.putfield 18, 3) := by decide +kernel
theorem dX3_becomeLike_24 : decode cX3_becomeLike 24 = .ok (.aload_n 1, 1) := by decide +kernel
theorem dX3_becomeLike_25 : decode cX3_becomeLike 25 = .ok (.getfield 21, 3) := by decide +kernel
theorem dX3_becomeLike_28 : decode cX3_becomeLike 28 = .ok (.iconst 0, 1) := by decide +kernel
theorem dX3_becomeLike_29 : decode cX3_becomeLike 29 = .ok (.aload_n 0, 1) := by decide +kernel
theorem dX3_becomeLike_30 : decode cX3_becomeLike 30 = .ok (.getfield 21, 3) := by decide +kernel
theorem dX3_becomeLike_33 : decode cX3_becomeLike 33 = .ok (.iconst 0, 1) := by decide +kernel
theorem dX3_becomeLike_34 : decode cX3_becomeLike 34 = .ok (.bipush 60, 2) := by decide +kernel
theorem dX3_becomeLike_36 : decode cX3_becomeLike 36 = .ok (.invokestatic 37, 3) := by decide +kernel
theorem dX3_becomeLike_39 : decode cX3_becomeLike 39 = .ok (.aload_n 1, 1) := by decide +kernel
theorem dX3_becomeLike_40 : decode cX3_becomeLike 40 = .ok (.getfield 25, 3) := by decide +kernel
theorem dX3_becomeLike_43 : decode cX3_becomeLike 43 = .ok (.iconst 0, 1) := by decide +kernel
theorem dX3_becomeLike_44 : decode cX3_becomeLike 44 = .ok (.aload_n 0, 1) := by decide +kernel
theorem dX3_becomeLike_45 : decode cX3_becomeLike 45 = .ok (.getfield 25, 3) := by decide +kernel
theorem dX3_becomeLike_48 : decode cX3_becomeLike 48 = .ok (.iconst 0, 1) := by decide +kernel
theorem dX3_becomeLike_49 : decode cX3_becomeLike 49 = .ok (.bipush 60, 2) := by decide +kernel
theorem dX3_becomeLike_51 : decode cX3_becomeLike 51 = .ok (.invokestatic 37, 3) := by decide +kernel
theorem dX3_becomeLike_54 : decode cX3_becomeLike 54 = .ok (.aload_n 1, 1) := by decide +kernel
theorem dX3_becomeLike_55 : decode cX3_becomeLike 55 = .ok (.getfield 28, 3) := by decide +kernel
theorem dX3_becomeLike_58 : decode cX3_becomeLike 58 = .ok (.iconst 0, 1) := by decide +kernel
theorem dX3_becomeLike_59 : decode cX3_becomeLike 59 = .ok (.aload_n 0, 1) := by decide +kernel
theorem dX3_becomeLike_60 : decode cX3_becomeLike 60 = .ok (.getfield 28, 3) := by decide +kernel
theorem dX3_becomeLike_63 : decode cX3_becomeLike 63 = .ok (.iconst 0, 1) := by decide +kernel
theorem dX3_becomeLike_64 : decode cX3_becomeLike 64 = .ok (.bipush 8, 2) := by decide +kernel
theorem dX3_becomeLike_66 : decode cX3_becomeLike 66 = .ok (.invokestatic 37, 3) := by decide +kernel
theorem dX3_becomeLike_69 : decode cX3_becomeLike 69 = .ok (.aload_n 1, 1) := by decide +kernel
theorem dX3_becomeLike_70 : decode cX3_becomeLike 70 = .ok (.getfield 31, 3) := by decide +kernel
theorem dX3_becomeLike_73 : decode cX3_becomeLike 73 = .ok (.iconst 0, 1) := by decide +kernel
theorem dX3_becomeLike_74 : decode cX3_becomeLike 74 = .ok (.aload_n 0, 1) := by decide +kernel
theorem dX3_becomeLike_75 : decode cX3_becomeLike 75 = .ok (.getfield 31, 3) := by decide +kernel
theorem dX3_becomeLike_78 : decode cX3_becomeLike 78 = .ok (.iconst 0, 1) := by decide +kernel
theorem dX3_becomeLike_79 : decode cX3_becomeLike 79 = .ok (.bipush 8, 2) := by decide +kernel
theorem dX3_becomeLike_81 : decode cX3_becomeLike 81 = .ok (.invokestatic 37, 3) := by decide +kernel
theorem dX3_becomeLike_84 : decode cX3_becomeLike 84 = .ok (.aload_n 1, 1) := by decide +kernel
theorem dX3_becomeLike_85 : decode cX3_becomeLike 85 = .ok (.getfield 34, 3) := by decide +kernel
theorem dX3_becomeLike_88 : decode cX3_becomeLike 88 = .ok (.iconst 0, 1) := by decide +kernel
theorem dX3_becomeLike_89 : decode cX3_becomeLike 89 = .ok (.aload_n 0, 1) := by decide +kernel
theorem dX3_becomeLike_90 : decode cX3_becomeLike 90 = .ok (.getfield 34, 3) := by decide +kernel
theorem dX3_becomeLike_93 : decode cX3_becomeLike 93 = .ok (.iconst 0, 1) := by decide +kernel
theorem dX3_becomeLike_94 : decode cX3_becomeLike 94 = .ok (.bipush 8, 2) := by decide +kernel
theorem dX3_becomeLike_96 : decode cX3_becomeLike 96 = .ok (.invokestatic 37, 3) := by decide +kernel
theorem dX3_becomeLike_99 : decode cX3_becomeLike 99 = .ok (.return_, 1) := by decide +kernel
theorem dX3_hasDriver_0 : decode cX3_hasDriver 0 = .ok (.iload_n 1, 1) := by decide +kernel
theorem dX3_hasDriver_1 : decode cX3_hasDriver 1 = .ok (.ifCond .lt 15, 3) := by decide +kernel
theorem dX3_hasDriver_4 : decode cX3_hasDriver 4 = .ok (.iload_n 1, 1) := by decide +kernel
theorem dX3_hasDriver_5 : decode cX3_hasDriver 5 = .ok (.aload_n 0, 1) := by decide +kernel
theorem dX3_hasDriver_6 : decode cX3_hasDriver 6 = .ok (.getfield 18, 3) := by decide +kernel
theorem dX3_hasDriver_9 : decode cX3_hasDriver 9 = .ok (.if_icmp .ge 7, 3) := by decide +kernel
theorem dX3_hasDriver_12 : decode cX3_hasDriver 12 = .ok (.iconst 1, 1) := by decide +kernel
theorem dX3_hasDriver_13 : decode cX3_hasDriver 13 = .ok (.goto 4, 3) := by decide +kernel
theorem dX3_hasDriver_16 : decode cX3_hasDriver 16 = .ok (.iconst 0, 1) := by decide +kernel
theorem dX3_hasDriver_17 : decode cX3_hasDriver 17 = .ok (.ireturn, 1) := by decide +kernel
theorem dX3_addDriver_0 : decode cX3_addDriver 0 = .ok (.aload_n 0, 1) := by decide +kernel
theorem dX3_addDriver_1 : decode cX3_addDriver 1 = .ok (.getfield 18, 3) := by decide +kernel
theorem dX3_addDriver_4 : decode cX3_addDriver 4 = .ok (.istore_n 2, 1) := by decide +kernel
theorem dX3_addDriver_5 : decode cX3_addDriver 5 = .ok (.iload_n 2, 1) := by decide +kernel
theorem dX3_addDriver_6 : decode cX3_addDriver 6 = .ok (.bipush 8, 2) := by decide +kernel
theorem dX3_addDriver_8 : decode cX3_addDriver 8 = .ok (.if_icmp .ge 32, 3) := by decide +kernel
theorem dX3_addDriver_11 : decode cX3_addDriver 11 = .ok (.aload_n 0, 1) := by decide +kernel
theorem dX3_addDriver_12 : decode cX3_addDriver 12 = .ok (.getfield 28, 3) := by decide +kernel
theorem dX3_addDriver_15 : decode cX3_addDriver 15 = .ok (.iload_n 2, 1) := by decide +kernel
theorem dX3_addDriver_16 : decode cX3_addDriver 16 = .ok (.iload_n 1, 1) := by decide +kernel
theorem dX3_addDriver_17 : decode cX3_addDriver 17 = .ok (.iastore, 1) := by decide +kernel
theorem dX3_addDriver_18 : decode cX3_addDriver 18 = .ok (.aload_n 0, 1) := by decide +kernel
theorem dX3_addDriver_19 : decode cX3_addDriver 19 = .ok (.getfield 31, 3) := by decide +kernel
theorem dX3_addDriver_22 : decode cX3_addDriver 22 = .ok (.iload_n 2, 1) := by decide +kernel
theorem dX3_addDriver_23 : decode cX3_addDriver 23 = .ok (.bipush 40, 2) := by decide +kernel
theorem dX3_addDriver_25 : decode cX3_addDriver 25 = .ok (.iastore, 1) := by decide +kernel
theorem dX3_addDriver_26 : decode cX3_addDriver 26 = .ok (.aload_n 0, 1) := by decide +kernel
theorem dX3_addDriver_27 : decode cX3_addDriver 27 = .ok (.getfield 34, 3) := by decide +kernel
theorem dX3_addDriver_30 : decode cX3_addDriver 30 = .ok (.iload_n 2, 1) := by decide +kernel
theorem dX3_addDriver_31 : decode cX3_addDriver 31 = .ok (.iconst 0, 1) := by decide +kernel
theorem dX3_addDriver_32 : decode cX3_addDriver 32 = .ok (.iastore, 1) := by decide +kernel
theorem dX3_addDriver_33 : decode cX3_addDriver 33 = .ok (.aload_n 0, 1) := by decide +kernel
theorem dX3_addDriver_34 : decode cX3_addDriver 34 = .ok (.iload_n 2, 1) := by decide +kernel
theorem dX3_addDriver_35 : decode cX3_addDriver 35 = .ok (.iconst 1, 1) := by decide +kernel
theorem dX3_addDriver_36 : decode cX3_addDriver 36 = .ok (.iadd, 1) := by decide +kernel
theorem dX3_addDriver_37 : decode cX3_addDriver 37 = .ok (.putfield 18, 3) := by decide +kernel
theorem dX3_addDriver_40 : decode cX3_addDriver 40 = .ok (.iload_n 2, 1) := by decide +kernel
theorem dX3_addDriver_41 : decode cX3_addDriver 41 = .ok (.ireturn, 1) := by decide +kernel
theorem dX3_lay_0 : decode cX3_lay 0 = .ok (.iload_n 1, 1) := by decide +kernel
theorem dX3_lay_1 : decode cX3_lay 1 = .ok (.iload_n 2, 1) := by decide +kernel
theorem dX3_lay_2 : decode cX3_lay 2 = .ok (.invokestatic 43, 3) := by decide +kernel
theorem dX3_lay_5 : decode cX3_lay 5 = .ok (.istore 4, 2) := by decide +kernel
theorem dX3_lay_7 : decode cX3_lay 7 = .ok (.aload_n 0, 1) := by decide +kernel
theorem dX3_lay_8 : decode cX3_lay 8 = .ok (.getfield 21, 3) := by decide +kernel
theorem dX3_lay_11 : decode cX3_lay 11 = .ok (.iload 4, 2) := by decide +kernel
theorem dX3_lay_13 : decode cX3_lay 13 = .ok (.iload_n 3, 1) := by decide +kernel
theorem dX3_lay_14 : decode cX3_lay 14 = .ok (.iastore, 1) := by decide +kernel
theorem dX3_lay_15 : decode cX3_lay 15 = .ok (.aload_n 0, 1) := by decide +kernel
theorem dX3_lay_16 : decode cX3_lay 16 = .ok (.getfield 25, 3) := by decide +kernel
theorem dX3_lay_19 : decode cX3_lay 19 = .ok (.iload 4, 2) := by decide +kernel
theorem dX3_lay_21 : decode cX3_lay 21 = .ok (.iconst 0, 1) := by decide +kernel
theorem dX3_lay_22 : decode cX3_lay 22 = .ok (.iastore, 1) := by decide +kernel
theorem dX3_lay_23 : decode cX3_lay 23 = .ok (.return_, 1) := by decide +kernel
theorem dX3_stretchesWithThing_0 : decode cX3_stretchesWithThing 0 = .ok (.iconst 0, 1) := by decide +kernel
theorem dX3_stretchesWithThing_1 : decode cX3_stretchesWithThing 1 = .ok (.istore_n 2, 1) := by decide +kernel
theorem dX3_stretchesWithThing_2 : decode cX3_stretchesWithThing 2 = .ok (.iconst 0, 1) := by decide +kernel
theorem dX3_stretchesWithThing_3 : decode cX3_stretchesWithThing 3 = .ok (.istore_n 3, 1) := by decide +kernel
theorem dX3_stretchesWithThing_4 : decode cX3_stretchesWithThing 4 = .ok (.iload_n 3, 1) := by decide +kernel
theorem dX3_stretchesWithThing_5 : decode cX3_stretchesWithThing 5 = .ok (.bipush 20, 2) := by decide +kernel
theorem dX3_stretchesWithThing_7 : decode cX3_stretchesWithThing 7 = .ok (.if_icmp .ge 28, 3) := by decide +kernel
theorem dX3_stretchesWithThing_10 : decode cX3_stretchesWithThing 10 = .ok (.aload_n 0, 1) := by decide +kernel
theorem dX3_stretchesWithThing_11 : decode cX3_stretchesWithThing 11 = .ok (.getfield 21, 3) := by decide +kernel
theorem dX3_stretchesWithThing_14 : decode cX3_stretchesWithThing 14 = .ok (.iload_n 1, 1) := by decide +kernel
theorem dX3_stretchesWithThing_15 : decode cX3_stretchesWithThing 15 = .ok (.iload_n 3, 1) := by decide +kernel
theorem dX3_stretchesWithThing_16 : decode cX3_stretchesWithThing 16 = .ok (.invokestatic 43, 3) := by decide +kernel
theorem dX3_stretchesWithThing_19 : decode cX3_stretchesWithThing 19 = .ok (.iaload, 1) := by decide +kernel
theorem dX3_stretchesWithThing_20 : decode cX3_stretchesWithThing 20 = .ok (.ifCond .eq 9, 3) := by decide +kernel
theorem dX3_stretchesWithThing_23 : decode cX3_stretchesWithThing 23 = .ok (.iload_n 2, 1) := by decide +kernel
theorem dX3_stretchesWithThing_24 : decode cX3_stretchesWithThing 24 = .ok (.iconst 1, 1) := by decide +kernel
theorem dX3_stretchesWithThing_25 : decode cX3_stretchesWithThing 25 = .ok (.iload_n 3, 1) := by decide +kernel
theorem dX3_stretchesWithThing_26 : decode cX3_stretchesWithThing 26 = .ok (.ishl, 1) := by decide +kernel
theorem dX3_stretchesWithThing_27 : decode cX3_stretchesWithThing 27 = .ok (.ior, 1) := by decide +kernel
theorem dX3_stretchesWithThing_28 : decode cX3_stretchesWithThing 28 = .ok (.istore_n 2, 1) := by decide +kernel
theorem dX3_stretchesWithThing_29 : decode cX3_stretchesWithThing 29 = .ok (.iinc 3 1, 3) := by decide +kernel
theorem dX3_stretchesWithThing_32 : decode cX3_stretchesWithThing 32 = .ok (.goto (-28), 3) := by decide +kernel
theorem dX3_stretchesWithThing_35 : decode cX3_stretchesWithThing 35 = .ok (.iload_n 2, 1) := by decide +kernel
theorem dX3_stretchesWithThing_36 : decode cX3_stretchesWithThing 36 = .ok (.ireturn, 1) := by decide +kernel
theorem dX3_bumpsIn_0 : decode cX3_bumpsIn 0 = .ok (.iconst 0, 1) := by decide +kernel
theorem dX3_bumpsIn_1 : decode cX3_bumpsIn 1 = .ok (.istore_n 2, 1) := by decide +kernel
theorem dX3_bumpsIn_2 : decode cX3_bumpsIn 2 = .ok (.iconst 0, 1) := by decide +kernel
theorem dX3_bumpsIn_3 : decode cX3_bumpsIn 3 = .ok (.istore_n 3, 1) := by decide +kernel
theorem dX3_bumpsIn_4 : decode cX3_bumpsIn 4 = .ok (.iload_n 3, 1) := by decide +kernel
theorem dX3_bumpsIn_5 : decode cX3_bumpsIn 5 = .ok (.bipush 20, 2) := by decide +kernel
theorem dX3_bumpsIn_7 : decode cX3_bumpsIn 7 = .ok (.if_icmp .ge 26, 3) := by decide +kernel
theorem dX3_bumpsIn_10 : decode cX3_bumpsIn 10 = .ok (.aload_n 0, 1) := by decide +kernel
theorem dX3_bumpsIn_11 : decode cX3_bumpsIn 11 = .ok (.getfield 21, 3) := by decide +kernel
theorem dX3_bumpsIn_14 : decode cX3_bumpsIn 14 = .ok (.iload_n 1, 1) := by decide +kernel
theorem dX3_bumpsIn_15 : decode cX3_bumpsIn 15 = .ok (.iload_n 3, 1) := by decide +kernel
theorem dX3_bumpsIn_16 : decode cX3_bumpsIn 16 = .ok (.invokestatic 43, 3) := by decide +kernel
theorem dX3_bumpsIn_19 : decode cX3_bumpsIn 19 = .ok (.iaload, 1) := by decide +kernel
theorem dX3_bumpsIn_20 : decode cX3_bumpsIn 20 = .ok (.iconst 1, 1) := by decide +kernel
theorem dX3_bumpsIn_21 : decode cX3_bumpsIn 21 = .ok (.if_icmp .ne 6, 3) := by decide +kernel
theorem dX3_bumpsIn_24 : decode cX3_bumpsIn 24 = .ok (.iinc 2 1, 3) := by decide +kernel
theorem dX3_bumpsIn_27 : decode cX3_bumpsIn 27 = .ok (.iinc 3 1, 3) := by decide +kernel
theorem dX3_bumpsIn_30 : decode cX3_bumpsIn 30 = .ok (.goto (-26), 3) := by decide +kernel
theorem dX3_bumpsIn_33 : decode cX3_bumpsIn 33 = .ok (.iload_n 2, 1) := by decide +kernel
theorem dX3_bumpsIn_34 : decode cX3_bumpsIn 34 = .ok (.ireturn, 1) := by decide +kernel
theorem dX3_bumpsInAll_0 : decode cX3_bumpsInAll 0 = .ok (.iconst 0, 1) := by decide +kernel
theorem dX3_bumpsInAll_1 : decode cX3_bumpsInAll 1 = .ok (.istore_n 1, 1) := by decide +kernel
theorem dX3_bumpsInAll_2 : decode cX3_bumpsInAll 2 = .ok (.iconst 0, 1) := by decide +kernel
theorem dX3_bumpsInAll_3 : decode cX3_bumpsInAll 3 = .ok (.istore_n 2, 1) := by decide +kernel
theorem dX3_bumpsInAll_4 : decode cX3_bumpsInAll 4 = .ok (.iload_n 2, 1) := by decide +kernel
theorem dX3_bumpsInAll_5 : decode cX3_bumpsInAll 5 = .ok (.iconst 3, 1) := by decide +kernel
theorem dX3_bumpsInAll_6 : decode cX3_bumpsInAll 6 = .ok (.if_icmp .ge 17, 3) := by decide +kernel
theorem dX3_bumpsInAll_9 : decode cX3_bumpsInAll 9 = .ok (.iload_n 1, 1) := by decide +kernel
theorem dX3_bumpsInAll_10 : decode cX3_bumpsInAll 10 = .ok (.aload_n 0, 1) := by decide +kernel
theorem dX3_bumpsInAll_11 : decode cX3_bumpsInAll 11 = .ok (.iload_n 2, 1) := by decide +kernel
theorem dX3_bumpsInAll_12 : decode cX3_bumpsInAll 12 = .ok (.invokevirtual 47, 3) := by decide +kernel
theorem dX3_bumpsInAll_15 : decode cX3_bumpsInAll 15 = .ok (.iadd, 1) := by decide +kernel
theorem dX3_bumpsInAll_16 : decode cX3_bumpsInAll 16 = .ok (.istore_n 1, 1) := by decide +kernel
theorem dX3_bumpsInAll_17 : decode cX3_bumpsInAll 17 = .ok (.iinc 2 1, 3) := by decide +kernel
theorem dX3_bumpsInAll_20 : decode cX3_bumpsInAll 20 = .ok (.goto (-16), 3) := by decide +kernel
theorem dX3_bumpsInAll_23 : decode cX3_bumpsInAll 23 = .ok (.iload_n 1, 1) := by decide +kernel
theorem dX3_bumpsInAll_24 : decode cX3_bumpsInAll 24 = .ok (.ireturn, 1) := by decide +kernel
theorem dX3_whoGoesIn_0 : decode cX3_whoGoesIn 0 = .ok (.iconst 0, 1) := by decide +kernel
theorem dX3_whoGoesIn_1 : decode cX3_whoGoesIn 1 = .ok (.istore_n 2, 1) := by decide +kernel
theorem dX3_whoGoesIn_2 : decode cX3_whoGoesIn 2 = .ok (.iconst 0, 1) := by decide +kernel
theorem dX3_whoGoesIn_3 : decode cX3_whoGoesIn 3 = .ok (.istore_n 3, 1) := by decide +kernel
theorem dX3_whoGoesIn_4 : decode cX3_whoGoesIn 4 = .ok (.iload_n 3, 1) := by decide +kernel
theorem dX3_whoGoesIn_5 : decode cX3_whoGoesIn 5 = .ok (.aload_n 0, 1) := by decide +kernel
theorem dX3_whoGoesIn_6 : decode cX3_whoGoesIn 6 = .ok (.getfield 18, 3) := by decide +kernel
theorem dX3_whoGoesIn_9 : decode cX3_whoGoesIn 9 = .ok (.if_icmp .ge 25, 3) := by decide +kernel
theorem dX3_whoGoesIn_12 : decode cX3_whoGoesIn 12 = .ok (.aload_n 0, 1) := by decide +kernel
theorem dX3_whoGoesIn_13 : decode cX3_whoGoesIn 13 = .ok (.getfield 34, 3) := by decide +kernel
theorem dX3_whoGoesIn_16 : decode cX3_whoGoesIn 16 = .ok (.iload_n 3, 1) := by decide +kernel
theorem dX3_whoGoesIn_17 : decode cX3_whoGoesIn 17 = .ok (.iaload, 1) := by decide +kernel
theorem dX3_whoGoesIn_18 : decode cX3_whoGoesIn 18 = .ok (.iload_n 1, 1) := by decide +kernel
theorem dX3_whoGoesIn_19 : decode cX3_whoGoesIn 19 = .ok (.if_icmp .ne 9, 3) := by decide +kernel
theorem dX3_whoGoesIn_22 : decode cX3_whoGoesIn 22 = .ok (.iload_n 2, 1) := by decide +kernel
theorem dX3_whoGoesIn_23 : decode cX3_whoGoesIn 23 = .ok (.iconst 1, 1) := by decide +kernel
theorem dX3_whoGoesIn_24 : decode cX3_whoGoesIn 24 = .ok (.iload_n 3, 1) := by decide +kernel
theorem dX3_whoGoesIn_25 : decode cX3_whoGoesIn 25 = .ok (.ishl, 1) := by decide +kernel
theorem dX3_whoGoesIn_26 : decode cX3_whoGoesIn 26 = .ok (.ior, 1) := by decide +kernel
theorem dX3_whoGoesIn_27 : decode cX3_whoGoesIn 27 = .ok (.istore_n 2, 1) := by decide +kernel
theorem dX3_whoGoesIn_28 : decode cX3_whoGoesIn 28 = .ok (.iinc 3 1, 3) := by decide +kernel
theorem dX3_whoGoesIn_31 : decode cX3_whoGoesIn 31 = .ok (.goto (-27), 3) := by decide +kernel
theorem dX3_whoGoesIn_34 : decode cX3_whoGoesIn 34 = .ok (.iload_n 2, 1) := by decide +kernel
theorem dX3_whoGoesIn_35 : decode cX3_whoGoesIn 35 = .ok (.ireturn, 1) := by decide +kernel
theorem dX3_wishesOfAll_0 : decode cX3_wishesOfAll 0 = .ok (.iconst 0, 1) := by decide +kernel
theorem dX3_wishesOfAll_1 : decode cX3_wishesOfAll 1 = .ok (.istore_n 1, 1) := by decide +kernel
theorem dX3_wishesOfAll_2 : decode cX3_wishesOfAll 2 = .ok (.iconst 0, 1) := by decide +kernel
theorem dX3_wishesOfAll_3 : decode cX3_wishesOfAll 3 = .ok (.istore_n 2, 1) := by decide +kernel
theorem dX3_wishesOfAll_4 : decode cX3_wishesOfAll 4 = .ok (.iload_n 2, 1) := by decide +kernel
theorem dX3_wishesOfAll_5 : decode cX3_wishesOfAll 5 = .ok (.aload_n 0, 1) := by decide +kernel
theorem dX3_wishesOfAll_6 : decode cX3_wishesOfAll 6 = .ok (.getfield 18, 3) := by decide +kernel
theorem dX3_wishesOfAll_9 : decode cX3_wishesOfAll 9 = .ok (.if_icmp .ge 18, 3) := by decide +kernel
theorem dX3_wishesOfAll_12 : decode cX3_wishesOfAll 12 = .ok (.iload_n 1, 1) := by decide +kernel
theorem dX3_wishesOfAll_13 : decode cX3_wishesOfAll 13 = .ok (.aload_n 0, 1) := by decide +kernel
theorem dX3_wishesOfAll_14 : decode cX3_wishesOfAll 14 = .ok (.getfield 31, 3) := by decide +kernel
theorem dX3_wishesOfAll_17 : decode cX3_wishesOfAll 17 = .ok (.iload_n 2, 1) := by decide +kernel
theorem dX3_wishesOfAll_18 : decode cX3_wishesOfAll 18 = .ok (.iaload, 1) := by decide +kernel
theorem dX3_wishesOfAll_19 : decode cX3_wishesOfAll 19 = .ok (.iadd, 1) := by decide +kernel
theorem dX3_wishesOfAll_20 : decode cX3_wishesOfAll 20 = .ok (.istore_n 1, 1) := by decide +kernel
theorem dX3_wishesOfAll_21 : decode cX3_wishesOfAll 21 = .ok (.iinc 2 1, 3) := by decide +kernel
theorem dX3_wishesOfAll_24 : decode cX3_wishesOfAll 24 = .ok (.goto (-20), 3) := by decide +kernel
theorem dX3_wishesOfAll_27 : decode cX3_wishesOfAll 27 = .ok (.iload_n 1, 1) := by decide +kernel
theorem dX3_wishesOfAll_28 : decode cX3_wishesOfAll 28 = .ok (.ireturn, 1) := by decide +kernel
theorem dX3_nextPace_0 : decode cX3_nextPace 0 = .ok (.iload 4, 2) := by decide +kernel
theorem dX3_nextPace_2 : decode cX3_nextPace 2 = .ok (.iload_n 1, 1) := by decide +kernel
theorem dX3_nextPace_3 : decode cX3_nextPace 3 = .ok (.invokestatic 51, 3) := by decide +kernel
theorem dX3_nextPace_6 : decode cX3_nextPace 6 = .ok (.iadd, 1) := by decide +kernel
theorem dX3_nextPace_7 : decode cX3_nextPace 7 = .ok (.istore 5, 2) := by decide +kernel
theorem dX3_nextPace_9 : decode cX3_nextPace 9 = .ok (.iload 5, 2) := by decide +kernel
theorem dX3_nextPace_11 : decode cX3_nextPace 11 = .ok (.iload_n 2, 1) := by decide +kernel
theorem dX3_nextPace_12 : decode cX3_nextPace 12 = .ok (.if_icmp .le 6, 3) := by decide +kernel
theorem dX3_nextPace_15 : decode cX3_nextPace 15 = .ok (.iload_n 2, 1) := by decide +kernel
theorem dX3_nextPace_16 : decode cX3_nextPace 16 = .ok (.istore 5, 2) := by decide +kernel
theorem dX3_nextPace_18 : decode cX3_nextPace 18 = .ok (.aload_n 0, 1) := by decide +kernel
theorem dX3_nextPace_19 : decode cX3_nextPace 19 = .ok (.getfield 21, 3) := by decide +kernel
theorem dX3_nextPace_22 : decode cX3_nextPace 22 = .ok (.iload_n 3, 1) := by decide +kernel
theorem dX3_nextPace_23 : decode cX3_nextPace 23 = .ok (.iaload, 1) := by decide +kernel
theorem dX3_nextPace_24 : decode cX3_nextPace 24 = .ok (.ifCond .ne 6, 3) := by decide +kernel
theorem dX3_nextPace_27 : decode cX3_nextPace 27 = .ok (.iload 5, 2) := by decide +kernel
theorem dX3_nextPace_29 : decode cX3_nextPace 29 = .ok (.ireturn, 1) := by decide +kernel
theorem dX3_nextPace_30 : decode cX3_nextPace 30 = .ok (.iload_n 1, 1) := by decide +kernel
theorem dX3_nextPace_31 : decode cX3_nextPace 31 = .ok (.iload_n 2, 1) := by decide +kernel
theorem dX3_nextPace_32 : decode cX3_nextPace 32 = .ok (.aload_n 0, 1) := by decide +kernel
theorem dX3_nextPace_33 : decode cX3_nextPace 33 = .ok (.getfield 21, 3) := by decide +kernel
theorem dX3_nextPace_36 : decode cX3_nextPace 36 = .ok (.iload_n 3, 1) := by decide +kernel
theorem dX3_nextPace_37 : decode cX3_nextPace 37 = .ok (.iaload, 1) := by decide +kernel
theorem dX3_nextPace_38 : decode cX3_nextPace 38 = .ok (.aload_n 0, 1) := by decide +kernel
theorem dX3_nextPace_39 : decode cX3_nextPace 39 = .ok (.getfield 15, 3) := by decide +kernel
theorem dX3_nextPace_42 : decode cX3_nextPace 42 = .ok (.aload_n 0, 1) := by decide +kernel
theorem dX3_nextPace_43 : decode cX3_nextPace 43 = .ok (.getfield 25, 3) := by decide +kernel
theorem dX3_nextPace_46 : decode cX3_nextPace 46 = .ok (.iload_n 3, 1) := by decide +kernel
theorem dX3_nextPace_47 : decode cX3_nextPace 47 = .ok (.iaload, 1) := by decide +kernel
theorem dX3_nextPace_48 : decode cX3_nextPace 48 = .ok (.invokestatic 56, 3) := by decide +kernel
theorem dX3_nextPace_51 : decode cX3_nextPace 51 = .ok (.istore 6, 2) := by decide +kernel
theorem dX3_nextPace_53 : decode cX3_nextPace 53 = .ok (.iload 6, 2) := by decide +kernel
theorem dX3_nextPace_55 : decode cX3_nextPace 55 = .ok (.iload 5, 2) := by decide +kernel
theorem dX3_nextPace_57 : decode cX3_nextPace 57 = .ok (.if_icmp .ge 8, 3) := by decide +kernel
theorem dX3_nextPace_60 : decode cX3_nextPace 60 = .ok (.iload 6, 2) := by decide +kernel
theorem dX3_nextPace_62 : decode cX3_nextPace 62 = .ok (.goto 5, 3) := by decide +kernel
theorem dX3_nextPace_65 : decode cX3_nextPace 65 = .ok (.iload 5, 2) := by decide +kernel
theorem dX3_nextPace_67 : decode cX3_nextPace 67 = .ok (.ireturn, 1) := by decide +kernel
theorem dX3_paceOn_0 : decode cX3_paceOn 0 = .ok (.iload_n 2, 1) := by decide +kernel
theorem dX3_paceOn_1 : decode cX3_paceOn 1 = .ok (.istore 5, 2) := by decide +kernel
theorem dX3_paceOn_3 : decode cX3_paceOn 3 = .ok (.iconst 0, 1) := by decide +kernel
theorem dX3_paceOn_4 : decode cX3_paceOn 4 = .ok (.istore 6, 2) := by decide +kernel
theorem dX3_paceOn_6 : decode cX3_paceOn 6 = .ok (.iload 6, 2) := by decide +kernel
theorem dX3_paceOn_8 : decode cX3_paceOn 8 = .ok (.iload 4, 2) := by decide +kernel
theorem dX3_paceOn_10 : decode cX3_paceOn 10 = .ok (.if_icmp .gt 25, 3) := by decide +kernel
theorem dX3_paceOn_13 : decode cX3_paceOn 13 = .ok (.aload_n 0, 1) := by decide +kernel
theorem dX3_paceOn_14 : decode cX3_paceOn 14 = .ok (.iload_n 1, 1) := by decide +kernel
theorem dX3_paceOn_15 : decode cX3_paceOn 15 = .ok (.iload_n 2, 1) := by decide +kernel
theorem dX3_paceOn_16 : decode cX3_paceOn 16 = .ok (.iload_n 3, 1) := by decide +kernel
theorem dX3_paceOn_17 : decode cX3_paceOn 17 = .ok (.iload 6, 2) := by decide +kernel
theorem dX3_paceOn_19 : decode cX3_paceOn 19 = .ok (.invokestatic 43, 3) := by decide +kernel
theorem dX3_paceOn_22 : decode cX3_paceOn 22 = .ok (.iload 5, 2) := by decide +kernel
theorem dX3_paceOn_24 : decode cX3_paceOn 24 = .ok (.invokevirtual 60, 3) := by decide +kernel
theorem dX3_paceOn_27 : decode cX3_paceOn 27 = .ok (.istore 5, 2) := by decide +kernel
theorem dX3_paceOn_29 : decode cX3_paceOn 29 = .ok (.iinc 6 1, 3) := by decide +kernel
theorem dX3_paceOn_32 : decode cX3_paceOn 32 = .ok (.goto (-26), 3) := by decide +kernel
theorem dX3_paceOn_35 : decode cX3_paceOn 35 = .ok (.iload 5, 2) := by decide +kernel
theorem dX3_paceOn_37 : decode cX3_paceOn 37 = .ok (.ireturn, 1) := by decide +kernel
theorem dX3_topPace_0 : decode cX3_topPace 0 = .ok (.iload_n 2, 1) := by decide +kernel
theorem dX3_topPace_1 : decode cX3_topPace 1 = .ok (.istore 4, 2) := by decide +kernel
theorem dX3_topPace_3 : decode cX3_topPace 3 = .ok (.iconst 0, 1) := by decide +kernel
theorem dX3_topPace_4 : decode cX3_topPace 4 = .ok (.istore 5, 2) := by decide +kernel
theorem dX3_topPace_6 : decode cX3_topPace 6 = .ok (.iconst 0, 1) := by decide +kernel
theorem dX3_topPace_7 : decode cX3_topPace 7 = .ok (.istore 6, 2) := by decide +kernel
theorem dX3_topPace_9 : decode cX3_topPace 9 = .ok (.iload 6, 2) := by decide +kernel
theorem dX3_topPace_11 : decode cX3_topPace 11 = .ok (.bipush 20, 2) := by decide +kernel
theorem dX3_topPace_13 : decode cX3_topPace 13 = .ok (.if_icmp .ge 34, 3) := by decide +kernel
theorem dX3_topPace_16 : decode cX3_topPace 16 = .ok (.aload_n 0, 1) := by decide +kernel
theorem dX3_topPace_17 : decode cX3_topPace 17 = .ok (.iload_n 1, 1) := by decide +kernel
theorem dX3_topPace_18 : decode cX3_topPace 18 = .ok (.iload_n 2, 1) := by decide +kernel
theorem dX3_topPace_19 : decode cX3_topPace 19 = .ok (.iload_n 3, 1) := by decide +kernel
theorem dX3_topPace_20 : decode cX3_topPace 20 = .ok (.iload 6, 2) := by decide +kernel
theorem dX3_topPace_22 : decode cX3_topPace 22 = .ok (.invokestatic 43, 3) := by decide +kernel
theorem dX3_topPace_25 : decode cX3_topPace 25 = .ok (.iload 4, 2) := by decide +kernel
theorem dX3_topPace_27 : decode cX3_topPace 27 = .ok (.invokevirtual 60, 3) := by decide +kernel
theorem dX3_topPace_30 : decode cX3_topPace 30 = .ok (.istore 4, 2) := by decide +kernel
theorem dX3_topPace_32 : decode cX3_topPace 32 = .ok (.iload 5, 2) := by decide +kernel
theorem dX3_topPace_34 : decode cX3_topPace 34 = .ok (.iload 4, 2) := by decide +kernel
theorem dX3_topPace_36 : decode cX3_topPace 36 = .ok (.invokestatic 64, 3) := by decide +kernel
theorem dX3_topPace_39 : decode cX3_topPace 39 = .ok (.istore 5, 2) := by decide +kernel
theorem dX3_topPace_41 : decode cX3_topPace 41 = .ok (.iinc 6 1, 3) := by decide +kernel
theorem dX3_topPace_44 : decode cX3_topPace 44 = .ok (.goto (-35), 3) := by decide +kernel
theorem dX3_topPace_47 : decode cX3_topPace 47 = .ok (.iload 5, 2) := by decide +kernel
theorem dX3_topPace_49 : decode cX3_topPace 49 = .ok (.ireturn, 1) := by decide +kernel
theorem dX3_timeFor_0 : decode cX3_timeFor 0 = .ok (.iload_n 2, 1) := by decide +kernel
theorem dX3_timeFor_1 : decode cX3_timeFor 1 = .ok (.istore 4, 2) := by decide +kernel
theorem dX3_timeFor_3 : decode cX3_timeFor 3 = .ok (.iconst 0, 1) := by decide +kernel
theorem dX3_timeFor_4 : decode cX3_timeFor 4 = .ok (.istore 5, 2) := by decide +kernel
theorem dX3_timeFor_6 : decode cX3_timeFor 6 = .ok (.iconst 0, 1) := by decide +kernel
theorem dX3_timeFor_7 : decode cX3_timeFor 7 = .ok (.istore 6, 2) := by decide +kernel
theorem dX3_timeFor_9 : decode cX3_timeFor 9 = .ok (.iload 6, 2) := by decide +kernel
theorem dX3_timeFor_11 : decode cX3_timeFor 11 = .ok (.bipush 20, 2) := by decide +kernel
theorem dX3_timeFor_13 : decode cX3_timeFor 13 = .ok (.if_icmp .ge 41, 3) := by decide +kernel
theorem dX3_timeFor_16 : decode cX3_timeFor 16 = .ok (.aload_n 0, 1) := by decide +kernel
theorem dX3_timeFor_17 : decode cX3_timeFor 17 = .ok (.iload_n 1, 1) := by decide +kernel
theorem dX3_timeFor_18 : decode cX3_timeFor 18 = .ok (.iload_n 2, 1) := by decide +kernel
theorem dX3_timeFor_19 : decode cX3_timeFor 19 = .ok (.iload_n 3, 1) := by decide +kernel
theorem dX3_timeFor_20 : decode cX3_timeFor 20 = .ok (.iload 6, 2) := by decide +kernel
theorem dX3_timeFor_22 : decode cX3_timeFor 22 = .ok (.invokestatic 43, 3) := by decide +kernel
theorem dX3_timeFor_25 : decode cX3_timeFor 25 = .ok (.iload 4, 2) := by decide +kernel
theorem dX3_timeFor_27 : decode cX3_timeFor 27 = .ok (.invokevirtual 60, 3) := by decide +kernel
theorem dX3_timeFor_30 : decode cX3_timeFor 30 = .ok (.istore 4, 2) := by decide +kernel
theorem dX3_timeFor_32 : decode cX3_timeFor 32 = .ok (.iload 4, 2) := by decide +kernel
theorem dX3_timeFor_34 : decode cX3_timeFor 34 = .ok (.ifCond .le 14, 3) := by decide +kernel
theorem dX3_timeFor_37 : decode cX3_timeFor 37 = .ok (.iload 5, 2) := by decide +kernel
theorem dX3_timeFor_39 : decode cX3_timeFor 39 = .ok (.sipush 1227, 3) := by decide +kernel
theorem dX3_timeFor_42 : decode cX3_timeFor 42 = .ok (.iload 4, 2) := by decide +kernel
theorem dX3_timeFor_44 : decode cX3_timeFor 44 = .ok (.idiv, 1) := by decide +kernel
theorem dX3_timeFor_45 : decode cX3_timeFor 45 = .ok (.iadd, 1) := by decide +kernel
theorem dX3_timeFor_46 : decode cX3_timeFor 46 = .ok (.istore 5, 2) := by decide +kernel
theorem dX3_timeFor_48 : decode cX3_timeFor 48 = .ok (.iinc 6 1, 3) := by decide +kernel
theorem dX3_timeFor_51 : decode cX3_timeFor 51 = .ok (.goto (-42), 3) := by decide +kernel
theorem dX3_timeFor_54 : decode cX3_timeFor 54 = .ok (.iload 5, 2) := by decide +kernel
theorem dX3_timeFor_56 : decode cX3_timeFor 56 = .ok (.ireturn, 1) := by decide +kernel
theorem dX3_shakingBy_0 : decode cX3_shakingBy 0 = .ok (.iload_n 2, 1) := by decide +kernel
theorem dX3_shakingBy_1 : decode cX3_shakingBy 1 = .ok (.istore 4, 2) := by decide +kernel
theorem dX3_shakingBy_3 : decode cX3_shakingBy 3 = .ok (.iconst 0, 1) := by decide +kernel
theorem dX3_shakingBy_4 : decode cX3_shakingBy 4 = .ok (.istore 5, 2) := by decide +kernel
theorem dX3_shakingBy_6 : decode cX3_shakingBy 6 = .ok (.iconst 0, 1) := by decide +kernel
theorem dX3_shakingBy_7 : decode cX3_shakingBy 7 = .ok (.istore 6, 2) := by decide +kernel
theorem dX3_shakingBy_9 : decode cX3_shakingBy 9 = .ok (.iload 6, 2) := by decide +kernel
theorem dX3_shakingBy_11 : decode cX3_shakingBy 11 = .ok (.bipush 20, 2) := by decide +kernel
theorem dX3_shakingBy_13 : decode cX3_shakingBy 13 = .ok (.if_icmp .ge 55, 3) := by decide +kernel
theorem dX3_shakingBy_16 : decode cX3_shakingBy 16 = .ok (.aload_n 0, 1) := by decide +kernel
theorem dX3_shakingBy_17 : decode cX3_shakingBy 17 = .ok (.iload_n 1, 1) := by decide +kernel
theorem dX3_shakingBy_18 : decode cX3_shakingBy 18 = .ok (.iload_n 2, 1) := by decide +kernel
theorem dX3_shakingBy_19 : decode cX3_shakingBy 19 = .ok (.iload_n 3, 1) := by decide +kernel
theorem dX3_shakingBy_20 : decode cX3_shakingBy 20 = .ok (.iload 6, 2) := by decide +kernel
theorem dX3_shakingBy_22 : decode cX3_shakingBy 22 = .ok (.invokestatic 43, 3) := by decide +kernel
theorem dX3_shakingBy_25 : decode cX3_shakingBy 25 = .ok (.iload 4, 2) := by decide +kernel
theorem dX3_shakingBy_27 : decode cX3_shakingBy 27 = .ok (.invokevirtual 60, 3) := by decide +kernel
theorem dX3_shakingBy_30 : decode cX3_shakingBy 30 = .ok (.istore 4, 2) := by decide +kernel
theorem dX3_shakingBy_32 : decode cX3_shakingBy 32 = .ok (.aload_n 0, 1) := by decide +kernel
theorem dX3_shakingBy_33 : decode cX3_shakingBy 33 = .ok (.getfield 21, 3) := by decide +kernel
theorem dX3_shakingBy_36 : decode cX3_shakingBy 36 = .ok (.iload_n 3, 1) := by decide +kernel
theorem dX3_shakingBy_37 : decode cX3_shakingBy 37 = .ok (.iload 6, 2) := by decide +kernel
theorem dX3_shakingBy_39 : decode cX3_shakingBy 39 = .ok (.invokestatic 43, 3) := by decide +kernel
theorem dX3_shakingBy_42 : decode cX3_shakingBy 42 = .ok (.iaload, 1) := by decide +kernel
theorem dX3_shakingBy_43 : decode cX3_shakingBy 43 = .ok (.iconst 1, 1) := by decide +kernel
theorem dX3_shakingBy_44 : decode cX3_shakingBy 44 = .ok (.if_icmp .ne 18, 3) := by decide +kernel
theorem dX3_shakingBy_47 : decode cX3_shakingBy 47 = .ok (.iload 5, 2) := by decide +kernel
theorem dX3_shakingBy_49 : decode cX3_shakingBy 49 = .ok (.iload_n 1, 1) := by decide +kernel
theorem dX3_shakingBy_50 : decode cX3_shakingBy 50 = .ok (.iload 4, 2) := by decide +kernel
theorem dX3_shakingBy_52 : decode cX3_shakingBy 52 = .ok (.aload_n 0, 1) := by decide +kernel
theorem dX3_shakingBy_53 : decode cX3_shakingBy 53 = .ok (.getfield 15, 3) := by decide +kernel
theorem dX3_shakingBy_56 : decode cX3_shakingBy 56 = .ok (.invokestatic 69, 3) := by decide +kernel
theorem dX3_shakingBy_59 : decode cX3_shakingBy 59 = .ok (.iadd, 1) := by decide +kernel
theorem dX3_shakingBy_60 : decode cX3_shakingBy 60 = .ok (.istore 5, 2) := by decide +kernel
theorem dX3_shakingBy_62 : decode cX3_shakingBy 62 = .ok (.iinc 6 1, 3) := by decide +kernel
theorem dX3_shakingBy_65 : decode cX3_shakingBy 65 = .ok (.goto (-56), 3) := by decide +kernel
theorem dX3_shakingBy_68 : decode cX3_shakingBy 68 = .ok (.iload 5, 2) := by decide +kernel
theorem dX3_shakingBy_70 : decode cX3_shakingBy 70 = .ok (.ireturn, 1) := by decide +kernel
theorem dX3_goesJustAs_0 : decode cX3_goesJustAs 0 = .ok (.iload_n 3, 1) := by decide +kernel
theorem dX3_goesJustAs_1 : decode cX3_goesJustAs 1 = .ok (.istore 5, 2) := by decide +kernel
theorem dX3_goesJustAs_3 : decode cX3_goesJustAs 3 = .ok (.aload_n 1, 1) := by decide +kernel
theorem dX3_goesJustAs_4 : decode cX3_goesJustAs 4 = .ok (.getfield 73, 3) := by decide +kernel
theorem dX3_goesJustAs_7 : decode cX3_goesJustAs 7 = .ok (.bipush 20, 2) := by decide +kernel
theorem dX3_goesJustAs_9 : decode cX3_goesJustAs 9 = .ok (.invokestatic 78, 3) := by decide +kernel
theorem dX3_goesJustAs_12 : decode cX3_goesJustAs 12 = .ok (.istore 6, 2) := by decide +kernel
theorem dX3_goesJustAs_14 : decode cX3_goesJustAs 14 = .ok (.iconst 0, 1) := by decide +kernel
theorem dX3_goesJustAs_15 : decode cX3_goesJustAs 15 = .ok (.istore 7, 2) := by decide +kernel
theorem dX3_goesJustAs_17 : decode cX3_goesJustAs 17 = .ok (.iload 7, 2) := by decide +kernel
theorem dX3_goesJustAs_19 : decode cX3_goesJustAs 19 = .ok (.iload 6, 2) := by decide +kernel
theorem dX3_goesJustAs_21 : decode cX3_goesJustAs 21 = .ok (.if_icmp .ge 42, 3) := by decide +kernel
theorem dX3_goesJustAs_24 : decode cX3_goesJustAs 24 = .ok (.aload_n 0, 1) := by decide +kernel
theorem dX3_goesJustAs_25 : decode cX3_goesJustAs 25 = .ok (.iload_n 2, 1) := by decide +kernel
theorem dX3_goesJustAs_26 : decode cX3_goesJustAs 26 = .ok (.iload_n 3, 1) := by decide +kernel
theorem dX3_goesJustAs_27 : decode cX3_goesJustAs 27 = .ok (.iload 4, 2) := by decide +kernel
theorem dX3_goesJustAs_29 : decode cX3_goesJustAs 29 = .ok (.iload 7, 2) := by decide +kernel
theorem dX3_goesJustAs_31 : decode cX3_goesJustAs 31 = .ok (.invokestatic 43, 3) := by decide +kernel
theorem dX3_goesJustAs_34 : decode cX3_goesJustAs 34 = .ok (.iload 5, 2) := by decide +kernel
theorem dX3_goesJustAs_36 : decode cX3_goesJustAs 36 = .ok (.invokevirtual 60, 3) := by decide +kernel
theorem dX3_goesJustAs_39 : decode cX3_goesJustAs 39 = .ok (.istore 5, 2) := by decide +kernel
theorem dX3_goesJustAs_41 : decode cX3_goesJustAs 41 = .ok (.aload_n 1, 1) := by decide +kernel
theorem dX3_goesJustAs_42 : decode cX3_goesJustAs 42 = .ok (.getfield 81, 3) := by decide +kernel
theorem dX3_goesJustAs_45 : decode cX3_goesJustAs 45 = .ok (.iload 7, 2) := by decide +kernel
theorem dX3_goesJustAs_47 : decode cX3_goesJustAs 47 = .ok (.laload, 1) := by decide +kernel
theorem dX3_goesJustAs_48 : decode cX3_goesJustAs 48 = .ok (.iload 5, 2) := by decide +kernel
theorem dX3_goesJustAs_50 : decode cX3_goesJustAs 50 = .ok (.i2l, 1) := by decide +kernel
theorem dX3_goesJustAs_51 : decode cX3_goesJustAs 51 = .ok (.lcmp, 1) := by decide +kernel
theorem dX3_goesJustAs_52 : decode cX3_goesJustAs 52 = .ok (.ifCond .eq 5, 3) := by decide +kernel
theorem dX3_goesJustAs_55 : decode cX3_goesJustAs 55 = .ok (.iconst 0, 1) := by decide +kernel
theorem dX3_goesJustAs_56 : decode cX3_goesJustAs 56 = .ok (.ireturn, 1) := by decide +kernel
theorem dX3_goesJustAs_57 : decode cX3_goesJustAs 57 = .ok (.iinc 7 1, 3) := by decide +kernel
theorem dX3_goesJustAs_60 : decode cX3_goesJustAs 60 = .ok (.goto (-43), 3) := by decide +kernel
theorem dX3_goesJustAs_63 : decode cX3_goesJustAs 63 = .ok (.iconst 1, 1) := by decide +kernel
theorem dX3_goesJustAs_64 : decode cX3_goesJustAs 64 = .ok (.ireturn, 1) := by decide +kernel
theorem dX3_shakingIn_0 : decode cX3_shakingIn 0 = .ok (.iconst 0, 1) := by decide +kernel
theorem dX3_shakingIn_1 : decode cX3_shakingIn 1 = .ok (.istore_n 2, 1) := by decide +kernel
theorem dX3_shakingIn_2 : decode cX3_shakingIn 2 = .ok (.iconst 0, 1) := by decide +kernel
theorem dX3_shakingIn_3 : decode cX3_shakingIn 3 = .ok (.istore_n 3, 1) := by decide +kernel
theorem dX3_shakingIn_4 : decode cX3_shakingIn 4 = .ok (.iload_n 3, 1) := by decide +kernel
theorem dX3_shakingIn_5 : decode cX3_shakingIn 5 = .ok (.aload_n 0, 1) := by decide +kernel
theorem dX3_shakingIn_6 : decode cX3_shakingIn 6 = .ok (.getfield 18, 3) := by decide +kernel
theorem dX3_shakingIn_9 : decode cX3_shakingIn 9 = .ok (.if_icmp .ge 39, 3) := by decide +kernel
theorem dX3_shakingIn_12 : decode cX3_shakingIn 12 = .ok (.aload_n 0, 1) := by decide +kernel
theorem dX3_shakingIn_13 : decode cX3_shakingIn 13 = .ok (.getfield 34, 3) := by decide +kernel
theorem dX3_shakingIn_16 : decode cX3_shakingIn 16 = .ok (.iload_n 3, 1) := by decide +kernel
theorem dX3_shakingIn_17 : decode cX3_shakingIn 17 = .ok (.iaload, 1) := by decide +kernel
theorem dX3_shakingIn_18 : decode cX3_shakingIn 18 = .ok (.iload_n 1, 1) := by decide +kernel
theorem dX3_shakingIn_19 : decode cX3_shakingIn 19 = .ok (.if_icmp .ne 23, 3) := by decide +kernel
theorem dX3_shakingIn_22 : decode cX3_shakingIn 22 = .ok (.iload_n 2, 1) := by decide +kernel
theorem dX3_shakingIn_23 : decode cX3_shakingIn 23 = .ok (.aload_n 0, 1) := by decide +kernel
theorem dX3_shakingIn_24 : decode cX3_shakingIn 24 = .ok (.aload_n 0, 1) := by decide +kernel
theorem dX3_shakingIn_25 : decode cX3_shakingIn 25 = .ok (.getfield 28, 3) := by decide +kernel
theorem dX3_shakingIn_28 : decode cX3_shakingIn 28 = .ok (.iload_n 3, 1) := by decide +kernel
theorem dX3_shakingIn_29 : decode cX3_shakingIn 29 = .ok (.iaload, 1) := by decide +kernel
theorem dX3_shakingIn_30 : decode cX3_shakingIn 30 = .ok (.aload_n 0, 1) := by decide +kernel
theorem dX3_shakingIn_31 : decode cX3_shakingIn 31 = .ok (.getfield 31, 3) := by decide +kernel
theorem dX3_shakingIn_34 : decode cX3_shakingIn 34 = .ok (.iload_n 3, 1) := by decide +kernel
theorem dX3_shakingIn_35 : decode cX3_shakingIn 35 = .ok (.iaload, 1) := by decide +kernel
theorem dX3_shakingIn_36 : decode cX3_shakingIn 36 = .ok (.iload_n 1, 1) := by decide +kernel
theorem dX3_shakingIn_37 : decode cX3_shakingIn 37 = .ok (.invokevirtual 85, 3) := by decide +kernel
theorem dX3_shakingIn_40 : decode cX3_shakingIn 40 = .ok (.iadd, 1) := by decide +kernel
theorem dX3_shakingIn_41 : decode cX3_shakingIn 41 = .ok (.istore_n 2, 1) := by decide +kernel
theorem dX3_shakingIn_42 : decode cX3_shakingIn 42 = .ok (.iinc 3 1, 3) := by decide +kernel
theorem dX3_shakingIn_45 : decode cX3_shakingIn 45 = .ok (.goto (-41), 3) := by decide +kernel
theorem dX3_shakingIn_48 : decode cX3_shakingIn 48 = .ok (.iload_n 2, 1) := by decide +kernel
theorem dX3_shakingIn_49 : decode cX3_shakingIn 49 = .ok (.ireturn, 1) := by decide +kernel
theorem dX3_shakingOfAll_0 : decode cX3_shakingOfAll 0 = .ok (.iconst 0, 1) := by decide +kernel
theorem dX3_shakingOfAll_1 : decode cX3_shakingOfAll 1 = .ok (.istore_n 1, 1) := by decide +kernel
theorem dX3_shakingOfAll_2 : decode cX3_shakingOfAll 2 = .ok (.iconst 0, 1) := by decide +kernel
theorem dX3_shakingOfAll_3 : decode cX3_shakingOfAll 3 = .ok (.istore_n 2, 1) := by decide +kernel
theorem dX3_shakingOfAll_4 : decode cX3_shakingOfAll 4 = .ok (.iload_n 2, 1) := by decide +kernel
theorem dX3_shakingOfAll_5 : decode cX3_shakingOfAll 5 = .ok (.aload_n 0, 1) := by decide +kernel
theorem dX3_shakingOfAll_6 : decode cX3_shakingOfAll 6 = .ok (.getfield 18, 3) := by decide +kernel
theorem dX3_shakingOfAll_9 : decode cX3_shakingOfAll 9 = .ok (.if_icmp .ge 34, 3) := by decide +kernel
theorem dX3_shakingOfAll_12 : decode cX3_shakingOfAll 12 = .ok (.iload_n 1, 1) := by decide +kernel
theorem dX3_shakingOfAll_13 : decode cX3_shakingOfAll 13 = .ok (.aload_n 0, 1) := by decide +kernel
theorem dX3_shakingOfAll_14 : decode cX3_shakingOfAll 14 = .ok (.aload_n 0, 1) := by decide +kernel
theorem dX3_shakingOfAll_15 : decode cX3_shakingOfAll 15 = .ok (.getfield 28, 3) := by decide +kernel
theorem dX3_shakingOfAll_18 : decode cX3_shakingOfAll 18 = .ok (.iload_n 2, 1) := by decide +kernel
theorem dX3_shakingOfAll_19 : decode cX3_shakingOfAll 19 = .ok (.iaload, 1) := by decide +kernel
theorem dX3_shakingOfAll_20 : decode cX3_shakingOfAll 20 = .ok (.aload_n 0, 1) := by decide +kernel
theorem dX3_shakingOfAll_21 : decode cX3_shakingOfAll 21 = .ok (.getfield 31, 3) := by decide +kernel
theorem dX3_shakingOfAll_24 : decode cX3_shakingOfAll 24 = .ok (.iload_n 2, 1) := by decide +kernel
theorem dX3_shakingOfAll_25 : decode cX3_shakingOfAll 25 = .ok (.iaload, 1) := by decide +kernel
theorem dX3_shakingOfAll_26 : decode cX3_shakingOfAll 26 = .ok (.aload_n 0, 1) := by decide +kernel
theorem dX3_shakingOfAll_27 : decode cX3_shakingOfAll 27 = .ok (.getfield 34, 3) := by decide +kernel
theorem dX3_shakingOfAll_30 : decode cX3_shakingOfAll 30 = .ok (.iload_n 2, 1) := by decide +kernel
theorem dX3_shakingOfAll_31 : decode cX3_shakingOfAll 31 = .ok (.iaload, 1) := by decide +kernel
theorem dX3_shakingOfAll_32 : decode cX3_shakingOfAll 32 = .ok (.invokevirtual 85, 3) := by decide +kernel
theorem dX3_shakingOfAll_35 : decode cX3_shakingOfAll 35 = .ok (.iadd, 1) := by decide +kernel
theorem dX3_shakingOfAll_36 : decode cX3_shakingOfAll 36 = .ok (.istore_n 1, 1) := by decide +kernel
theorem dX3_shakingOfAll_37 : decode cX3_shakingOfAll 37 = .ok (.iinc 2 1, 3) := by decide +kernel
theorem dX3_shakingOfAll_40 : decode cX3_shakingOfAll 40 = .ok (.goto (-36), 3) := by decide +kernel
theorem dX3_shakingOfAll_43 : decode cX3_shakingOfAll 43 = .ok (.iload_n 1, 1) := by decide +kernel
theorem dX3_shakingOfAll_44 : decode cX3_shakingOfAll 44 = .ok (.ireturn, 1) := by decide +kernel
theorem dX3_timeOfAll_0 : decode cX3_timeOfAll 0 = .ok (.iconst 0, 1) := by decide +kernel
theorem dX3_timeOfAll_1 : decode cX3_timeOfAll 1 = .ok (.istore_n 1, 1) := by decide +kernel
theorem dX3_timeOfAll_2 : decode cX3_timeOfAll 2 = .ok (.iconst 0, 1) := by decide +kernel
theorem dX3_timeOfAll_3 : decode cX3_timeOfAll 3 = .ok (.istore_n 2, 1) := by decide +kernel
theorem dX3_timeOfAll_4 : decode cX3_timeOfAll 4 = .ok (.iload_n 2, 1) := by decide +kernel
theorem dX3_timeOfAll_5 : decode cX3_timeOfAll 5 = .ok (.aload_n 0, 1) := by decide +kernel
theorem dX3_timeOfAll_6 : decode cX3_timeOfAll 6 = .ok (.getfield 18, 3) := by decide +kernel
theorem dX3_timeOfAll_9 : decode cX3_timeOfAll 9 = .ok (.if_icmp .ge 34, 3) := by decide +kernel
theorem dX3_timeOfAll_12 : decode cX3_timeOfAll 12 = .ok (.iload_n 1, 1) := by decide +kernel
theorem dX3_timeOfAll_13 : decode cX3_timeOfAll 13 = .ok (.aload_n 0, 1) := by decide +kernel
theorem dX3_timeOfAll_14 : decode cX3_timeOfAll 14 = .ok (.aload_n 0, 1) := by decide +kernel
theorem dX3_timeOfAll_15 : decode cX3_timeOfAll 15 = .ok (.getfield 28, 3) := by decide +kernel
theorem dX3_timeOfAll_18 : decode cX3_timeOfAll 18 = .ok (.iload_n 2, 1) := by decide +kernel
theorem dX3_timeOfAll_19 : decode cX3_timeOfAll 19 = .ok (.iaload, 1) := by decide +kernel
theorem dX3_timeOfAll_20 : decode cX3_timeOfAll 20 = .ok (.aload_n 0, 1) := by decide +kernel
theorem dX3_timeOfAll_21 : decode cX3_timeOfAll 21 = .ok (.getfield 31, 3) := by decide +kernel
theorem dX3_timeOfAll_24 : decode cX3_timeOfAll 24 = .ok (.iload_n 2, 1) := by decide +kernel
theorem dX3_timeOfAll_25 : decode cX3_timeOfAll 25 = .ok (.iaload, 1) := by decide +kernel
theorem dX3_timeOfAll_26 : decode cX3_timeOfAll 26 = .ok (.aload_n 0, 1) := by decide +kernel
theorem dX3_timeOfAll_27 : decode cX3_timeOfAll 27 = .ok (.getfield 34, 3) := by decide +kernel
theorem dX3_timeOfAll_30 : decode cX3_timeOfAll 30 = .ok (.iload_n 2, 1) := by decide +kernel
theorem dX3_timeOfAll_31 : decode cX3_timeOfAll 31 = .ok (.iaload, 1) := by decide +kernel
theorem dX3_timeOfAll_32 : decode cX3_timeOfAll 32 = .ok (.invokevirtual 88, 3) := by decide +kernel
theorem dX3_timeOfAll_35 : decode cX3_timeOfAll 35 = .ok (.iadd, 1) := by decide +kernel
theorem dX3_timeOfAll_36 : decode cX3_timeOfAll 36 = .ok (.istore_n 1, 1) := by decide +kernel
theorem dX3_timeOfAll_37 : decode cX3_timeOfAll 37 = .ok (.iinc 2 1, 3) := by decide +kernel
theorem dX3_timeOfAll_40 : decode cX3_timeOfAll 40 = .ok (.goto (-36), 3) := by decide +kernel
theorem dX3_timeOfAll_43 : decode cX3_timeOfAll 43 = .ok (.iload_n 1, 1) := by decide +kernel
theorem dX3_timeOfAll_44 : decode cX3_timeOfAll 44 = .ok (.ireturn, 1) := by decide +kernel
theorem dX3_timeInAllStreets_0 : decode cX3_timeInAllStreets 0 = .ok (.iconst 0, 1) := by decide +kernel
theorem dX3_timeInAllStreets_1 : decode cX3_timeInAllStreets 1 = .ok (.istore_n 2, 1) := by decide +kernel
theorem dX3_timeInAllStreets_2 : decode cX3_timeInAllStreets 2 = .ok (.iconst 0, 1) := by decide +kernel
theorem dX3_timeInAllStreets_3 : decode cX3_timeInAllStreets 3 = .ok (.istore_n 3, 1) := by decide +kernel
theorem dX3_timeInAllStreets_4 : decode cX3_timeInAllStreets 4 = .ok (.iload_n 3, 1) := by decide +kernel
theorem dX3_timeInAllStreets_5 : decode cX3_timeInAllStreets 5 = .ok (.iconst 3, 1) := by decide +kernel
theorem dX3_timeInAllStreets_6 : decode cX3_timeInAllStreets 6 = .ok (.if_icmp .ge 29, 3) := by decide +kernel
theorem dX3_timeInAllStreets_9 : decode cX3_timeInAllStreets 9 = .ok (.iload_n 2, 1) := by decide +kernel
theorem dX3_timeInAllStreets_10 : decode cX3_timeInAllStreets 10 = .ok (.aload_n 0, 1) := by decide +kernel
theorem dX3_timeInAllStreets_11 : decode cX3_timeInAllStreets 11 = .ok (.aload_n 0, 1) := by decide +kernel
theorem dX3_timeInAllStreets_12 : decode cX3_timeInAllStreets 12 = .ok (.getfield 28, 3) := by decide +kernel
theorem dX3_timeInAllStreets_15 : decode cX3_timeInAllStreets 15 = .ok (.iload_n 1, 1) := by decide +kernel
theorem dX3_timeInAllStreets_16 : decode cX3_timeInAllStreets 16 = .ok (.iaload, 1) := by decide +kernel
theorem dX3_timeInAllStreets_17 : decode cX3_timeInAllStreets 17 = .ok (.aload_n 0, 1) := by decide +kernel
theorem dX3_timeInAllStreets_18 : decode cX3_timeInAllStreets 18 = .ok (.getfield 31, 3) := by decide +kernel
theorem dX3_timeInAllStreets_21 : decode cX3_timeInAllStreets 21 = .ok (.iload_n 1, 1) := by decide +kernel
theorem dX3_timeInAllStreets_22 : decode cX3_timeInAllStreets 22 = .ok (.iaload, 1) := by decide +kernel
theorem dX3_timeInAllStreets_23 : decode cX3_timeInAllStreets 23 = .ok (.iload_n 3, 1) := by decide +kernel
theorem dX3_timeInAllStreets_24 : decode cX3_timeInAllStreets 24 = .ok (.invokevirtual 88, 3) := by decide +kernel
theorem dX3_timeInAllStreets_27 : decode cX3_timeInAllStreets 27 = .ok (.iadd, 1) := by decide +kernel
theorem dX3_timeInAllStreets_28 : decode cX3_timeInAllStreets 28 = .ok (.istore_n 2, 1) := by decide +kernel
theorem dX3_timeInAllStreets_29 : decode cX3_timeInAllStreets 29 = .ok (.iinc 3 1, 3) := by decide +kernel
theorem dX3_timeInAllStreets_32 : decode cX3_timeInAllStreets 32 = .ok (.goto (-28), 3) := by decide +kernel
theorem dX3_timeInAllStreets_35 : decode cX3_timeInAllStreets 35 = .ok (.iload_n 2, 1) := by decide +kernel
theorem dX3_timeInAllStreets_36 : decode cX3_timeInAllStreets 36 = .ok (.ireturn, 1) := by decide +kernel
theorem dX3_howManyGoElsewhere_0 : decode cX3_howManyGoElsewhere 0 = .ok (.iconst 0, 1) := by decide +kernel
theorem dX3_howManyGoElsewhere_1 : decode cX3_howManyGoElsewhere 1 = .ok (.istore_n 2, 1) := by decide +kernel
theorem dX3_howManyGoElsewhere_2 : decode cX3_howManyGoElsewhere 2 = .ok (.iconst 0, 1) := by decide +kernel
theorem dX3_howManyGoElsewhere_3 : decode cX3_howManyGoElsewhere 3 = .ok (.istore_n 3, 1) := by decide +kernel
theorem dX3_howManyGoElsewhere_4 : decode cX3_howManyGoElsewhere 4 = .ok (.iload_n 3, 1) := by decide +kernel
theorem dX3_howManyGoElsewhere_5 : decode cX3_howManyGoElsewhere 5 = .ok (.aload_n 0, 1) := by decide +kernel
theorem dX3_howManyGoElsewhere_6 : decode cX3_howManyGoElsewhere 6 = .ok (.getfield 18, 3) := by decide +kernel
theorem dX3_howManyGoElsewhere_9 : decode cX3_howManyGoElsewhere 9 = .ok (.if_icmp .ge 27, 3) := by decide +kernel
theorem dX3_howManyGoElsewhere_12 : decode cX3_howManyGoElsewhere 12 = .ok (.aload_n 0, 1) := by decide +kernel
theorem dX3_howManyGoElsewhere_13 : decode cX3_howManyGoElsewhere 13 = .ok (.getfield 34, 3) := by decide +kernel
theorem dX3_howManyGoElsewhere_16 : decode cX3_howManyGoElsewhere 16 = .ok (.iload_n 3, 1) := by decide +kernel
theorem dX3_howManyGoElsewhere_17 : decode cX3_howManyGoElsewhere 17 = .ok (.iaload, 1) := by decide +kernel
theorem dX3_howManyGoElsewhere_18 : decode cX3_howManyGoElsewhere 18 = .ok (.aload_n 1, 1) := by decide +kernel
theorem dX3_howManyGoElsewhere_19 : decode cX3_howManyGoElsewhere 19 = .ok (.getfield 34, 3) := by decide +kernel
theorem dX3_howManyGoElsewhere_22 : decode cX3_howManyGoElsewhere 22 = .ok (.iload_n 3, 1) := by decide +kernel
theorem dX3_howManyGoElsewhere_23 : decode cX3_howManyGoElsewhere 23 = .ok (.iaload, 1) := by decide +kernel
theorem dX3_howManyGoElsewhere_24 : decode cX3_howManyGoElsewhere 24 = .ok (.if_icmp .eq 6, 3) := by decide +kernel
theorem dX3_howManyGoElsewhere_27 : decode cX3_howManyGoElsewhere 27 = .ok (.iinc 2 1, 3) := by decide +kernel
theorem dX3_howManyGoElsewhere_30 : decode cX3_howManyGoElsewhere 30 = .ok (.iinc 3 1, 3) := by decide +kernel
theorem dX3_howManyGoElsewhere_33 : decode cX3_howManyGoElsewhere 33 = .ok (.goto (-29), 3) := by decide +kernel
theorem dX3_howManyGoElsewhere_36 : decode cX3_howManyGoElsewhere 36 = .ok (.iload_n 2, 1) := by decide +kernel
theorem dX3_howManyGoElsewhere_37 : decode cX3_howManyGoElsewhere 37 = .ok (.ireturn, 1) := by decide +kernel
theorem dX3_letDaysGo_0 : decode cX3_letDaysGo 0 = .ok (.iconst 0, 1) := by decide +kernel
theorem dX3_letDaysGo_1 : decode cX3_letDaysGo 1 = .ok (.istore_n 2, 1) := by decide +kernel
theorem dX3_letDaysGo_2 : decode cX3_letDaysGo 2 = .ok (.iload_n 2, 1) := by decide +kernel
theorem dX3_letDaysGo_3 : decode cX3_letDaysGo 3 = .ok (.iload_n 1, 1) := by decide +kernel
theorem dX3_letDaysGo_4 : decode cX3_letDaysGo 4 = .ok (.if_icmp .ge 22, 3) := by decide +kernel
theorem dX3_letDaysGo_7 : decode cX3_letDaysGo 7 = .ok (.aload_n 0, 1) := by decide +kernel
theorem dX3_letDaysGo_8 : decode cX3_letDaysGo 8 = .ok (.iload_n 2, 1) := by decide +kernel
theorem dX3_letDaysGo_9 : decode cX3_letDaysGo 9 = .ok (.ifCond .ne 7, 3) := by decide +kernel
theorem dX3_letDaysGo_12 : decode cX3_letDaysGo 12 = .ok (.iconst 1, 1) := by decide +kernel
theorem dX3_letDaysGo_13 : decode cX3_letDaysGo 13 = .ok (.goto 4, 3) := by decide +kernel
theorem dX3_letDaysGo_16 : decode cX3_letDaysGo 16 = .ok (.iconst 0, 1) := by decide +kernel
theorem dX3_letDaysGo_17 : decode cX3_letDaysGo 17 = .ok (.invokevirtual 91, 3) := by decide +kernel
theorem dX3_letDaysGo_20 : decode cX3_letDaysGo 20 = .ok (.iinc 2 1, 3) := by decide +kernel
theorem dX3_letDaysGo_23 : decode cX3_letDaysGo 23 = .ok (.goto (-21), 3) := by decide +kernel
theorem dX3_letDaysGo_26 : decode cX3_letDaysGo 26 = .ok (.return_, 1) := by decide +kernel
theorem dX3_letDayGo_0 : decode cX3_letDayGo 0 = .ok (.aload_n 0, 1) := by decide +kernel
theorem dX3_letDayGo_1 : decode cX3_letDayGo 1 = .ok (.invokevirtual 95, 3) := by decide +kernel
theorem dX3_letDayGo_4 : decode cX3_letDayGo 4 = .ok (.istore_n 2, 1) := by decide +kernel
theorem dX3_letDayGo_5 : decode cX3_letDayGo 5 = .ok (.iload_n 1, 1) := by decide +kernel
theorem dX3_letDayGo_6 : decode cX3_letDayGo 6 = .ok (.ifCond .ne 7, 3) := by decide +kernel
theorem dX3_letDayGo_9 : decode cX3_letDayGo 9 = .ok (.iload_n 2, 1) := by decide +kernel
theorem dX3_letDayGo_10 : decode cX3_letDayGo 10 = .ok (.ifCond .eq 24, 3) := by decide +kernel
theorem dX3_letDayGo_13 : decode cX3_letDayGo 13 = .ok (.iconst 0, 1) := by decide +kernel
theorem dX3_letDayGo_14 : decode cX3_letDayGo 14 = .ok (.istore_n 3, 1) := by decide +kernel
theorem dX3_letDayGo_15 : decode cX3_letDayGo 15 = .ok (.iload_n 3, 1) := by decide +kernel
theorem dX3_letDayGo_16 : decode cX3_letDayGo 16 = .ok (.aload_n 0, 1) := by decide +kernel
theorem dX3_letDayGo_17 : decode cX3_letDayGo 17 = .ok (.getfield 18, 3) := by decide +kernel
theorem dX3_letDayGo_20 : decode cX3_letDayGo 20 = .ok (.if_icmp .ge 14, 3) := by decide +kernel
theorem dX3_letDayGo_23 : decode cX3_letDayGo 23 = .ok (.aload_n 0, 1) := by decide +kernel
theorem dX3_letDayGo_24 : decode cX3_letDayGo 24 = .ok (.iload_n 3, 1) := by decide +kernel
theorem dX3_letDayGo_25 : decode cX3_letDayGo 25 = .ok (.invokevirtual 99, 3) := by decide +kernel
theorem dX3_letDayGo_28 : decode cX3_letDayGo 28 = .ok (.iinc 3 1, 3) := by decide +kernel
theorem dX3_letDayGo_31 : decode cX3_letDayGo 31 = .ok (.goto (-16), 3) := by decide +kernel
theorem dX3_letDayGo_34 : decode cX3_letDayGo 34 = .ok (.aload_n 0, 1) := by decide +kernel
theorem dX3_letDayGo_35 : decode cX3_letDayGo 35 = .ok (.dup, 1) := by decide +kernel
theorem dX3_letDayGo_36 : decode cX3_letDayGo 36 = .ok (.getfield 9, 3) := by decide +kernel
theorem dX3_letDayGo_39 : decode cX3_letDayGo 39 = .ok (.iconst 1, 1) := by decide +kernel
theorem dX3_letDayGo_40 : decode cX3_letDayGo 40 = .ok (.iadd, 1) := by decide +kernel
theorem dX3_letDayGo_41 : decode cX3_letDayGo 41 = .ok (.putfield 9, 3) := by decide +kernel
theorem dX3_letDayGo_44 : decode cX3_letDayGo 44 = .ok (.return_, 1) := by decide +kernel
theorem dX3_agePaint_0 : decode cX3_agePaint 0 = .ok (.iconst 0, 1) := by decide +kernel
theorem dX3_agePaint_1 : decode cX3_agePaint 1 = .ok (.istore_n 1, 1) := by decide +kernel
theorem dX3_agePaint_2 : decode cX3_agePaint 2 = .ok (.iconst 0, 1) := by decide +kernel
theorem dX3_agePaint_3 : decode cX3_agePaint 3 = .ok (.istore_n 2, 1) := by decide +kernel
theorem dX3_agePaint_4 : decode cX3_agePaint 4 = .ok (.iload_n 2, 1) := by decide +kernel
theorem dX3_agePaint_5 : decode cX3_agePaint 5 = .ok (.bipush 60, 2) := by decide +kernel
theorem dX3_agePaint_7 : decode cX3_agePaint 7 = .ok (.if_icmp .ge 54, 3) := by decide +kernel
theorem dX3_agePaint_10 : decode cX3_agePaint 10 = .ok (.aload_n 0, 1) := by decide +kernel
theorem dX3_agePaint_11 : decode cX3_agePaint 11 = .ok (.getfield 21, 3) := by decide +kernel
theorem dX3_agePaint_14 : decode cX3_agePaint 14 = .ok (.iload_n 2, 1) := by decide +kernel
theorem dX3_agePaint_15 : decode cX3_agePaint 15 = .ok (.iaload, 1) := by decide +kernel
theorem dX3_agePaint_16 : decode cX3_agePaint 16 = .ok (.iconst 4, 1) := by decide +kernel
theorem dX3_agePaint_17 : decode cX3_agePaint 17 = .ok (.if_icmp .ne 38, 3) := by decide +kernel
theorem dX3_agePaint_20 : decode cX3_agePaint 20 = .ok (.aload_n 0, 1) := by decide +kernel
theorem dX3_agePaint_21 : decode cX3_agePaint 21 = .ok (.getfield 25, 3) := by decide +kernel
theorem dX3_agePaint_24 : decode cX3_agePaint 24 = .ok (.iload_n 2, 1) := by decide +kernel
theorem dX3_agePaint_25 : decode cX3_agePaint 25 = .ok (.iaload, 1) := by decide +kernel
theorem dX3_agePaint_26 : decode cX3_agePaint 26 = .ok (.sipush 999, 3) := by decide +kernel
theorem dX3_agePaint_29 : decode cX3_agePaint 29 = .ok (.if_icmp .ge 26, 3) := by decide +kernel
theorem dX3_agePaint_32 : decode cX3_agePaint 32 = .ok (.aload_n 0, 1) := by decide +kernel
theorem dX3_agePaint_33 : decode cX3_agePaint 33 = .ok (.getfield 25, 3) := by decide +kernel
theorem dX3_agePaint_36 : decode cX3_agePaint 36 = .ok (.iload_n 2, 1) := by decide +kernel
theorem dX3_agePaint_37 : decode cX3_agePaint 37 = .ok (.dup2, 1) := by decide +kernel
theorem dX3_agePaint_38 : decode cX3_agePaint 38 = .ok (.iaload, 1) := by decide +kernel
theorem dX3_agePaint_39 : decode cX3_agePaint 39 = .ok (.iconst 1, 1) := by decide +kernel
theorem dX3_agePaint_40 : decode cX3_agePaint 40 = .ok (.iadd, 1) := by decide +kernel
theorem dX3_agePaint_41 : decode cX3_agePaint 41 = .ok (.iastore, 1) := by decide +kernel
theorem dX3_agePaint_42 : decode cX3_agePaint 42 = .ok (.aload_n 0, 1) := by decide +kernel
theorem dX3_agePaint_43 : decode cX3_agePaint 43 = .ok (.getfield 25, 3) := by decide +kernel
theorem dX3_agePaint_46 : decode cX3_agePaint 46 = .ok (.iload_n 2, 1) := by decide +kernel
theorem dX3_agePaint_47 : decode cX3_agePaint 47 = .ok (.iaload, 1) := by decide +kernel
theorem dX3_agePaint_48 : decode cX3_agePaint 48 = .ok (.bipush 21, 2) := by decide +kernel
theorem dX3_agePaint_50 : decode cX3_agePaint 50 = .ok (.if_icmp .ne 5, 3) := by decide +kernel
theorem dX3_agePaint_53 : decode cX3_agePaint 53 = .ok (.iconst 1, 1) := by decide +kernel
theorem dX3_agePaint_54 : decode cX3_agePaint 54 = .ok (.istore_n 1, 1) := by decide +kernel
theorem dX3_agePaint_55 : decode cX3_agePaint 55 = .ok (.iinc 2 1, 3) := by decide +kernel
theorem dX3_agePaint_58 : decode cX3_agePaint 58 = .ok (.goto (-54), 3) := by decide +kernel
theorem dX3_agePaint_61 : decode cX3_agePaint 61 = .ok (.iload_n 1, 1) := by decide +kernel
theorem dX3_agePaint_62 : decode cX3_agePaint 62 = .ok (.ireturn, 1) := by decide +kernel
theorem dX3_chooseStreet_0 : decode cX3_chooseStreet 0 = .ok (.aload_n 0, 1) := by decide +kernel
theorem dX3_chooseStreet_1 : decode cX3_chooseStreet 1 = .ok (.getfield 28, 3) := by decide +kernel
theorem dX3_chooseStreet_4 : decode cX3_chooseStreet 4 = .ok (.iload_n 1, 1) := by decide +kernel
theorem dX3_chooseStreet_5 : decode cX3_chooseStreet 5 = .ok (.iaload, 1) := by decide +kernel
theorem dX3_chooseStreet_6 : decode cX3_chooseStreet 6 = .ok (.istore_n 2, 1) := by decide +kernel
theorem dX3_chooseStreet_7 : decode cX3_chooseStreet 7 = .ok (.aload_n 0, 1) := by decide +kernel
theorem dX3_chooseStreet_8 : decode cX3_chooseStreet 8 = .ok (.getfield 31, 3) := by decide +kernel
theorem dX3_chooseStreet_11 : decode cX3_chooseStreet 11 = .ok (.iload_n 1, 1) := by decide +kernel
theorem dX3_chooseStreet_12 : decode cX3_chooseStreet 12 = .ok (.iaload, 1) := by decide +kernel
theorem dX3_chooseStreet_13 : decode cX3_chooseStreet 13 = .ok (.istore_n 3, 1) := by decide +kernel
theorem dX3_chooseStreet_14 : decode cX3_chooseStreet 14 = .ok (.aload_n 0, 1) := by decide +kernel
theorem dX3_chooseStreet_15 : decode cX3_chooseStreet 15 = .ok (.getfield 34, 3) := by decide +kernel
theorem dX3_chooseStreet_18 : decode cX3_chooseStreet 18 = .ok (.iload_n 1, 1) := by decide +kernel
theorem dX3_chooseStreet_19 : decode cX3_chooseStreet 19 = .ok (.iaload, 1) := by decide +kernel
theorem dX3_chooseStreet_20 : decode cX3_chooseStreet 20 = .ok (.istore 4, 2) := by decide +kernel
theorem dX3_chooseStreet_22 : decode cX3_chooseStreet 22 = .ok (.aload_n 0, 1) := by decide +kernel
theorem dX3_chooseStreet_23 : decode cX3_chooseStreet 23 = .ok (.iload_n 2, 1) := by decide +kernel
theorem dX3_chooseStreet_24 : decode cX3_chooseStreet 24 = .ok (.iload_n 3, 1) := by decide +kernel
theorem dX3_chooseStreet_25 : decode cX3_chooseStreet 25 = .ok (.iload 4, 2) := by decide +kernel
theorem dX3_chooseStreet_27 : decode cX3_chooseStreet 27 = .ok (.invokevirtual 88, 3) := by decide +kernel
theorem dX3_chooseStreet_30 : decode cX3_chooseStreet 30 = .ok (.istore 5, 2) := by decide +kernel
theorem dX3_chooseStreet_32 : decode cX3_chooseStreet 32 = .ok (.iconst 0, 1) := by decide +kernel
theorem dX3_chooseStreet_33 : decode cX3_chooseStreet 33 = .ok (.istore 6, 2) := by decide +kernel
theorem dX3_chooseStreet_35 : decode cX3_chooseStreet 35 = .ok (.iload 6, 2) := by decide +kernel
theorem dX3_chooseStreet_37 : decode cX3_chooseStreet 37 = .ok (.iconst 3, 1) := by decide +kernel
theorem dX3_chooseStreet_38 : decode cX3_chooseStreet 38 = .ok (.if_icmp .ge 34, 3) := by decide +kernel
theorem dX3_chooseStreet_41 : decode cX3_chooseStreet 41 = .ok (.aload_n 0, 1) := by decide +kernel
theorem dX3_chooseStreet_42 : decode cX3_chooseStreet 42 = .ok (.iload_n 2, 1) := by decide +kernel
theorem dX3_chooseStreet_43 : decode cX3_chooseStreet 43 = .ok (.iload_n 3, 1) := by decide +kernel
theorem dX3_chooseStreet_44 : decode cX3_chooseStreet 44 = .ok (.iload 6, 2) := by decide +kernel
theorem dX3_chooseStreet_46 : decode cX3_chooseStreet 46 = .ok (.invokevirtual 88, 3) := by decide +kernel
theorem dX3_chooseStreet_49 : decode cX3_chooseStreet 49 = .ok (.istore 7, 2) := by decide +kernel
theorem dX3_chooseStreet_51 : decode cX3_chooseStreet 51 = .ok (.iload 7, 2) := by decide +kernel
theorem dX3_chooseStreet_53 : decode cX3_chooseStreet 53 = .ok (.iload 5, 2) := by decide +kernel
theorem dX3_chooseStreet_55 : decode cX3_chooseStreet 55 = .ok (.if_icmp .ge 11, 3) := by decide +kernel
theorem dX3_chooseStreet_58 : decode cX3_chooseStreet 58 = .ok (.iload 6, 2) := by decide +kernel
theorem dX3_chooseStreet_60 : decode cX3_chooseStreet 60 = .ok (.istore 4, 2) := by decide +kernel
theorem dX3_chooseStreet_62 : decode cX3_chooseStreet 62 = .ok (.iload 7, 2) := by decide +kernel
theorem dX3_chooseStreet_64 : decode cX3_chooseStreet 64 = .ok (.istore 5, 2) := by decide +kernel
theorem dX3_chooseStreet_66 : decode cX3_chooseStreet 66 = .ok (.iinc 6 1, 3) := by decide +kernel
theorem dX3_chooseStreet_69 : decode cX3_chooseStreet 69 = .ok (.goto (-34), 3) := by decide +kernel
theorem dX3_chooseStreet_72 : decode cX3_chooseStreet 72 = .ok (.aload_n 0, 1) := by decide +kernel
theorem dX3_chooseStreet_73 : decode cX3_chooseStreet 73 = .ok (.getfield 34, 3) := by decide +kernel
theorem dX3_chooseStreet_76 : decode cX3_chooseStreet 76 = .ok (.iload_n 1, 1) := by decide +kernel
theorem dX3_chooseStreet_77 : decode cX3_chooseStreet 77 = .ok (.iload 4, 2) := by decide +kernel
theorem dX3_chooseStreet_79 : decode cX3_chooseStreet 79 = .ok (.iastore, 1) := by decide +kernel
theorem dX3_chooseStreet_80 : decode cX3_chooseStreet 80 = .ok (.return_, 1) := by decide +kernel
theorem dJ9_max_7cf53_0 : decode cJ9_max_7cf53 0 = .ok (.iload_n 0, 1) := by decide +kernel
theorem dJ9_max_7cf53_1 : decode cJ9_max_7cf53 1 = .ok (.iload_n 1, 1) := by decide +kernel
theorem dJ9_max_7cf53_2 : decode cJ9_max_7cf53 2 = .ok (.if_icmp .lt 7, 3) := by decide +kernel
theorem dJ9_max_7cf53_5 : decode cJ9_max_7cf53 5 = .ok (.iload_n 0, 1) := by decide +kernel
theorem dJ9_max_7cf53_6 : decode cJ9_max_7cf53 6 = .ok (.goto 4, 3) := by decide +kernel
theorem dJ9_max_7cf53_9 : decode cJ9_max_7cf53 9 = .ok (.iload_n 1, 1) := by decide +kernel
theorem dJ9_max_7cf53_10 : decode cJ9_max_7cf53 10 = .ok (.ireturn, 1) := by decide +kernel
theorem dJ9_min_7cf53_0 : decode cJ9_min_7cf53 0 = .ok (.iload_n 0, 1) := by decide +kernel
theorem dJ9_min_7cf53_1 : decode cJ9_min_7cf53 1 = .ok (.iload_n 1, 1) := by decide +kernel
theorem dJ9_min_7cf53_2 : decode cJ9_min_7cf53 2 = .ok (.if_icmp .gt 7, 3) := by decide +kernel
theorem dJ9_min_7cf53_5 : decode cJ9_min_7cf53 5 = .ok (.iload_n 0, 1) := by decide +kernel
theorem dJ9_min_7cf53_6 : decode cJ9_min_7cf53 6 = .ok (.goto 4, 3) := by decide +kernel
theorem dJ9_min_7cf53_9 : decode cJ9_min_7cf53 9 = .ok (.iload_n 1, 1) := by decide +kernel
theorem dJ9_min_7cf53_10 : decode cJ9_min_7cf53 10 = .ok (.ireturn, 1) := by decide +kernel
theorem dJ0_length_8abf5_0 : decode cJ0_length_8abf5 0 = .ok (.aload_n 0, 1) := by decide +kernel
theorem dJ0_length_8abf5_1 : decode cJ0_length_8abf5 1 = .ok (.getfield 9, 3) := by decide +kernel
theorem dJ0_length_8abf5_4 : decode cJ0_length_8abf5 4 = .ok (.arraylength, 1) := by decide +kernel
theorem dJ0_length_8abf5_5 : decode cJ0_length_8abf5 5 = .ok (.aload_n 0, 1) := by decide +kernel
theorem dJ0_length_8abf5_6 : decode cJ0_length_8abf5 6 = .ok (.invokevirtual 335, 3) := by decide +kernel
theorem dJ0_length_8abf5_9 : decode cJ0_length_8abf5 9 = .ok (.ishr, 1) := by decide +kernel
theorem dJ0_length_8abf5_10 : decode cJ0_length_8abf5 10 = .ok (.ireturn, 1) := by decide +kernel
theorem dJ0_charAt_5068e_0 : decode cJ0_charAt_5068e 0 = .ok (.aload_n 0, 1) := by decide +kernel
theorem dJ0_charAt_5068e_1 : decode cJ0_charAt_5068e 1 = .ok (.invokevirtual 492, 3) := by decide +kernel
theorem dJ0_charAt_5068e_4 : decode cJ0_charAt_5068e 4 = .ok (.ifCond .eq 12, 3) := by decide +kernel
theorem dJ0_charAt_5068e_7 : decode cJ0_charAt_5068e 7 = .ok (.aload_n 0, 1) := by decide +kernel
theorem dJ0_charAt_5068e_8 : decode cJ0_charAt_5068e 8 = .ok (.getfield 9, 3) := by decide +kernel
theorem dJ0_charAt_5068e_11 : decode cJ0_charAt_5068e 11 = .ok (.iload_n 1, 1) := by decide +kernel
theorem dJ0_charAt_5068e_12 : decode cJ0_charAt_5068e 12 = .ok (.invokestatic 495, 3) := by decide +kernel
theorem dJ0_charAt_5068e_15 : decode cJ0_charAt_5068e 15 = .ok (.ireturn, 1) := by decide +kernel
theorem dJ0_charAt_5068e_16 : decode cJ0_charAt_5068e 16 = .ok (.aload_n 0, 1) := by decide +kernel
theorem dJ0_charAt_5068e_17 : decode cJ0_charAt_5068e 17 = .ok (.getfield 9, 3) := by decide +kernel
theorem dJ0_charAt_5068e_20 : decode cJ0_charAt_5068e 20 = .ok (.iload_n 1, 1) := by decide +kernel
theorem dJ0_charAt_5068e_21 : decode cJ0_charAt_5068e 21 = .ok (.invokestatic 498, 3) := by decide +kernel
theorem dJ0_charAt_5068e_24 : decode cJ0_charAt_5068e 24 = .ok (.ireturn, 1) := by decide +kernel
theorem dJ0_coder_7d493_0 : decode cJ0_coder_7d493 0 = .ok (.getstatic 38, 3) := by decide +kernel
theorem dJ0_coder_7d493_3 : decode cJ0_coder_7d493 3 = .ok (.ifCond .eq 10, 3) := by decide +kernel
theorem dJ0_coder_7d493_6 : decode cJ0_coder_7d493 6 = .ok (.aload_n 0, 1) := by decide +kernel
theorem dJ0_coder_7d493_7 : decode cJ0_coder_7d493 7 = .ok (.getfield 15, 3) := by decide +kernel
theorem dJ0_coder_7d493_10 : decode cJ0_coder_7d493 10 = .ok (.goto 4, 3) := by decide +kernel
theorem dJ0_coder_7d493_13 : decode cJ0_coder_7d493 13 = .ok (.iconst 1, 1) := by decide +kernel
theorem dJ0_coder_7d493_14 : decode cJ0_coder_7d493 14 = .ok (.ireturn, 1) := by decide +kernel
theorem dJ0_isLatin1_aae02_0 : decode cJ0_isLatin1_aae02 0 = .ok (.getstatic 38, 3) := by decide +kernel
theorem dJ0_isLatin1_aae02_3 : decode cJ0_isLatin1_aae02 3 = .ok (.ifCond .eq 14, 3) := by decide +kernel
theorem dJ0_isLatin1_aae02_6 : decode cJ0_isLatin1_aae02 6 = .ok (.aload_n 0, 1) := by decide +kernel
theorem dJ0_isLatin1_aae02_7 : decode cJ0_isLatin1_aae02 7 = .ok (.getfield 15, 3) := by decide +kernel
theorem dJ0_isLatin1_aae02_10 : decode cJ0_isLatin1_aae02 10 = .ok (.ifCond .ne 7, 3) := by decide +kernel
theorem dJ0_isLatin1_aae02_13 : decode cJ0_isLatin1_aae02 13 = .ok (.iconst 1, 1) := by decide +kernel
theorem dJ0_isLatin1_aae02_14 : decode cJ0_isLatin1_aae02 14 = .ok (.goto 4, 3) := by decide +kernel
theorem dJ0_isLatin1_aae02_17 : decode cJ0_isLatin1_aae02 17 = .ok (.iconst 0, 1) := by decide +kernel
theorem dJ0_isLatin1_aae02_18 : decode cJ0_isLatin1_aae02 18 = .ok (.ireturn, 1) := by decide +kernel
theorem dJ0_checkIndex_df160_0 : decode cJ0_checkIndex_df160 0 = .ok (.iload_n 0, 1) := by decide +kernel
theorem dJ0_checkIndex_df160_1 : decode cJ0_checkIndex_df160 1 = .ok (.iload_n 1, 1) := by decide +kernel
theorem dJ0_checkIndex_df160_2 : decode cJ0_checkIndex_df160 2 = .ok (.getstatic 1053, 3) := by decide +kernel
theorem dJ0_checkIndex_df160_5 : decode cJ0_checkIndex_df160 5 = .ok (.invokestatic 1059, 3) := by decide +kernel
theorem dJ0_checkIndex_df160_8 : decode cJ0_checkIndex_df160 8 = .ok (.pop, 1) := by decide +kernel
theorem dJ0_checkIndex_df160_9 : decode cJ0_checkIndex_df160 9 = .ok (.return_, 1) := by decide +kernel
theorem dJ1_charAt_3b067_0 : decode cJ1_charAt_3b067 0 = .ok (.iload_n 1, 1) := by decide +kernel
theorem dJ1_charAt_3b067_1 : decode cJ1_charAt_3b067 1 = .ok (.aload_n 0, 1) := by decide +kernel
theorem dJ1_charAt_3b067_2 : decode cJ1_charAt_3b067 2 = .ok (.arraylength, 1) := by decide +kernel
theorem dJ1_charAt_3b067_3 : decode cJ1_charAt_3b067 3 = .ok (.invokestatic 9, 3) := by decide +kernel
theorem dJ1_charAt_3b067_6 : decode cJ1_charAt_3b067 6 = .ok (.aload_n 0, 1) := by decide +kernel
theorem dJ1_charAt_3b067_7 : decode cJ1_charAt_3b067 7 = .ok (.iload_n 1, 1) := by decide +kernel
theorem dJ1_charAt_3b067_8 : decode cJ1_charAt_3b067 8 = .ok (.baload, 1) := by decide +kernel
theorem dJ1_charAt_3b067_9 : decode cJ1_charAt_3b067 9 = .ok (.sipush 255, 3) := by decide +kernel
theorem dJ1_charAt_3b067_12 : decode cJ1_charAt_3b067 12 = .ok (.iand, 1) := by decide +kernel
theorem dJ1_charAt_3b067_13 : decode cJ1_charAt_3b067 13 = .ok (.i2c, 1) := by decide +kernel
theorem dJ1_charAt_3b067_14 : decode cJ1_charAt_3b067 14 = .ok (.ireturn, 1) := by decide +kernel
theorem dJ2_getChar_3b067_0 : decode cJ2_getChar_3b067 0 = .ok (.getstatic 44, 3) := by decide +kernel
theorem dJ2_getChar_3b067_3 : decode cJ2_getChar_3b067 3 = .ok (.ifCond .ne 25, 3) := by decide +kernel
theorem dJ2_getChar_3b067_6 : decode cJ2_getChar_3b067 6 = .ok (.iload_n 1, 1) := by decide +kernel
theorem dJ2_getChar_3b067_7 : decode cJ2_getChar_3b067 7 = .ok (.ifCond .lt 11, 3) := by decide +kernel
theorem dJ2_getChar_3b067_10 : decode cJ2_getChar_3b067 10 = .ok (.iload_n 1, 1) := by decide +kernel
theorem dJ2_getChar_3b067_11 : decode cJ2_getChar_3b067 11 = .ok (.aload_n 0, 1) := by decide +kernel
theorem dJ2_getChar_3b067_12 : decode cJ2_getChar_3b067 12 = .ok (.invokestatic 48, 3) := by decide +kernel
theorem dJ2_getChar_3b067_15 : decode cJ2_getChar_3b067 15 = .ok (.if_icmp .lt 13, 3) := by decide +kernel
theorem dJ2_getChar_3b067_18 : decode cJ2_getChar_3b067 18 = .ok (.new 52, 3) := by decide +kernel
theorem dJ2_getChar_3b067_21 : decode cJ2_getChar_3b067 21 = .ok (.dup, 1) := by decide +kernel
theorem dJ2_getChar_3b067_22 : decode cJ2_getChar_3b067 22 = .ok (.ldc 54, 2) := by decide +kernel
theorem dJ2_getChar_3b067_24 : decode cJ2_getChar_3b067 24 = .ok (.invokespecial 56, 3) := by decide +kernel
theorem dJ2_getChar_3b067_27 : decode cJ2_getChar_3b067 27 = .ok (.athrow, 1) := by decide +kernel
theorem dJ2_getChar_3b067_28 : decode cJ2_getChar_3b067 28 = .ok (.iload_n 1, 1) := by decide +kernel
theorem dJ2_getChar_3b067_29 : decode cJ2_getChar_3b067 29 = .ok (.iconst 1, 1) := by decide +kernel
theorem dJ2_getChar_3b067_30 : decode cJ2_getChar_3b067 30 = .ok (.ishl, 1) := by decide +kernel
theorem dJ2_getChar_3b067_31 : decode cJ2_getChar_3b067 31 = .ok (.istore_n 1, 1) := by decide +kernel
theorem dJ2_getChar_3b067_32 : decode cJ2_getChar_3b067 32 = .ok (.aload_n 0, 1) := by decide +kernel
theorem dJ2_getChar_3b067_33 : decode cJ2_getChar_3b067 33 = .ok (.iload_n 1, 1) := by decide +kernel
theorem dJ2_getChar_3b067_34 : decode cJ2_getChar_3b067 34 = .ok (.iinc 1 1, 3) := by decide +kernel
theorem dJ2_getChar_3b067_37 : decode cJ2_getChar_3b067 37 = .ok (.baload, 1) := by decide +kernel
theorem dJ2_getChar_3b067_38 : decode cJ2_getChar_3b067 38 = .ok (.sipush 255, 3) := by decide +kernel
theorem dJ2_getChar_3b067_41 : decode cJ2_getChar_3b067 41 = .ok (.iand, 1) := by decide +kernel
theorem dJ2_getChar_3b067_42 : decode cJ2_getChar_3b067 42 = .ok (.getstatic 59, 3) := by decide +kernel
theorem dJ2_getChar_3b067_45 : decode cJ2_getChar_3b067 45 = .ok (.ishl, 1) := by decide +kernel
theorem dJ2_getChar_3b067_46 : decode cJ2_getChar_3b067 46 = .ok (.aload_n 0, 1) := by decide +kernel
theorem dJ2_getChar_3b067_47 : decode cJ2_getChar_3b067 47 = .ok (.iload_n 1, 1) := by decide +kernel
theorem dJ2_getChar_3b067_48 : decode cJ2_getChar_3b067 48 = .ok (.baload, 1) := by decide +kernel
theorem dJ2_getChar_3b067_49 : decode cJ2_getChar_3b067 49 = .ok (.sipush 255, 3) := by decide +kernel
theorem dJ2_getChar_3b067_52 : decode cJ2_getChar_3b067 52 = .ok (.iand, 1) := by decide +kernel
theorem dJ2_getChar_3b067_53 : decode cJ2_getChar_3b067 53 = .ok (.getstatic 63, 3) := by decide +kernel
theorem dJ2_getChar_3b067_56 : decode cJ2_getChar_3b067 56 = .ok (.ishl, 1) := by decide +kernel
theorem dJ2_getChar_3b067_57 : decode cJ2_getChar_3b067 57 = .ok (.ior, 1) := by decide +kernel
theorem dJ2_getChar_3b067_58 : decode cJ2_getChar_3b067 58 = .ok (.i2c, 1) := by decide +kernel
theorem dJ2_getChar_3b067_59 : decode cJ2_getChar_3b067 59 = .ok (.ireturn, 1) := by decide +kernel
theorem dJ2_length_9d52b_0 : decode cJ2_length_9d52b 0 = .ok (.aload_n 0, 1) := by decide +kernel
theorem dJ2_length_9d52b_1 : decode cJ2_length_9d52b 1 = .ok (.arraylength, 1) := by decide +kernel
theorem dJ2_length_9d52b_2 : decode cJ2_length_9d52b 2 = .ok (.iconst 1, 1) := by decide +kernel
theorem dJ2_length_9d52b_3 : decode cJ2_length_9d52b 3 = .ok (.ishr, 1) := by decide +kernel
theorem dJ2_length_9d52b_4 : decode cJ2_length_9d52b 4 = .ok (.ireturn, 1) := by decide +kernel
theorem dJ2_charAt_3b067_0 : decode cJ2_charAt_3b067 0 = .ok (.iload_n 1, 1) := by decide +kernel
theorem dJ2_charAt_3b067_1 : decode cJ2_charAt_3b067 1 = .ok (.aload_n 0, 1) := by decide +kernel
theorem dJ2_charAt_3b067_2 : decode cJ2_charAt_3b067 2 = .ok (.invokestatic 67, 3) := by decide +kernel
theorem dJ2_charAt_3b067_5 : decode cJ2_charAt_3b067 5 = .ok (.aload_n 0, 1) := by decide +kernel
theorem dJ2_charAt_3b067_6 : decode cJ2_charAt_3b067 6 = .ok (.iload_n 1, 1) := by decide +kernel
theorem dJ2_charAt_3b067_7 : decode cJ2_charAt_3b067 7 = .ok (.invokestatic 71, 3) := by decide +kernel
theorem dJ2_charAt_3b067_10 : decode cJ2_charAt_3b067 10 = .ok (.ireturn, 1) := by decide +kernel
theorem dJ2_checkIndex_2214a_0 : decode cJ2_checkIndex_2214a 0 = .ok (.iload_n 0, 1) := by decide +kernel
theorem dJ2_checkIndex_2214a_1 : decode cJ2_checkIndex_2214a 1 = .ok (.aload_n 1, 1) := by decide +kernel
theorem dJ2_checkIndex_2214a_2 : decode cJ2_checkIndex_2214a 2 = .ok (.invokestatic 48, 3) := by decide +kernel
theorem dJ2_checkIndex_2214a_5 : decode cJ2_checkIndex_2214a 5 = .ok (.invokestatic 414, 3) := by decide +kernel
theorem dJ2_checkIndex_2214a_8 : decode cJ2_checkIndex_2214a 8 = .ok (.return_, 1) := by decide +kernel
theorem dJ3_checkIndex_8e157_0 : decode cJ3_checkIndex_8e157 0 = .ok (.iload_n 0, 1) := by decide +kernel
theorem dJ3_checkIndex_8e157_1 : decode cJ3_checkIndex_8e157 1 = .ok (.ifCond .lt 8, 3) := by decide +kernel
theorem dJ3_checkIndex_8e157_4 : decode cJ3_checkIndex_8e157 4 = .ok (.iload_n 0, 1) := by decide +kernel
theorem dJ3_checkIndex_8e157_5 : decode cJ3_checkIndex_8e157 5 = .ok (.iload_n 1, 1) := by decide +kernel
theorem dJ3_checkIndex_8e157_6 : decode cJ3_checkIndex_8e157 6 = .ok (.if_icmp .lt 10, 3) := by decide +kernel
theorem dJ3_checkIndex_8e157_9 : decode cJ3_checkIndex_8e157 9 = .ok (.aload_n 2, 1) := by decide +kernel
theorem dJ3_checkIndex_8e157_10 : decode cJ3_checkIndex_8e157 10 = .ok (.iload_n 0, 1) := by decide +kernel
theorem dJ3_checkIndex_8e157_11 : decode cJ3_checkIndex_8e157 11 = .ok (.iload_n 1, 1) := by decide +kernel
theorem dJ3_checkIndex_8e157_12 : decode cJ3_checkIndex_8e157 12 = .ok (.invokestatic 95, 3) := by decide +kernel
theorem dJ3_checkIndex_8e157_15 : decode cJ3_checkIndex_8e157 15 = .ok (.athrow, 1) := by decide +kernel
theorem dJ3_checkIndex_8e157_16 : decode cJ3_checkIndex_8e157 16 = .ok (.iload_n 0, 1) := by decide +kernel
theorem dJ3_checkIndex_8e157_17 : decode cJ3_checkIndex_8e157 17 = .ok (.ireturn, 1) := by decide +kernel
end
section
theorem dX4_init_0 : decode cX4_init 0 = .ok (.aload_n 0, 1) := by decide +kernel
theorem dX4_init_1 : decode cX4_init 1 = .ok (.invokespecial 1, 3) := by decide +kernel
theorem dX4_init_4 : decode cX4_init 4 = .ok (.aload_n 0, 1) := by decide +kernel
theorem dX4_init_5 : decode cX4_init 5 = .ok (.new 7, 3) := by decide +kernel
theorem dX4_init_8 : decode cX4_init 8 = .ok (.dup, 1) := by decide +kernel
theorem dX4_init_9 : decode cX4_init 9 = .ok (.invokespecial 9, 3) := by decide +kernel
theorem dX4_init_12 : decode cX4_init 12 = .ok (.putfield 10, 3) := by decide +kernel
theorem dX4_init_15 : decode cX4_init 15 = .ok (.aload_n 0, 1) := by decide +kernel
theorem dX4_init_16 : decode cX4_init 16 = .ok (.new 7, 3) := by decide +kernel
theorem dX4_init_19 : decode cX4_init 19 = .ok (.dup, 1) := by decide +kernel
theorem dX4_init_20 : decode cX4_init 20 = .ok (.invokespecial 9, 3) := by decide +kernel
theorem dX4_init_23 : decode cX4_init 23 = .ok (.putfield 16, 3) := by decide +kernel
theorem dX4_init_26 : decode cX4_init 26 = .ok (.aload_n 0, 1) := by decide +kernel
theorem dX4_init_27 : decode cX4_init 27 = .ok (.new 7, 3) := by decide +kernel
theorem dX4_init_30 : decode cX4_init 30 = .ok (.dup, 1) := by decide +kernel
theorem dX4_init_31 : decode cX4_init 31 = .ok (.invokespecial 9, 3) := by decide +kernel
theorem dX4_init_34 : decode cX4_init 34 = .ok (.putfield 19, 3) := by decide +kernel
theorem dX4_init_37 : decode cX4_init 37 = .ok (.aload_n 0, 1) := by decide +kernel
theorem dX4_init_38 : decode cX4_init 38 = .ok (.new 22, 3) := by decide +kernel
theorem dX4_init_41 : decode cX4_init 41 = .ok (.dup, 1) := by decide +kernel
theorem dX4_init_42 : decode cX4_init 42 = .ok (.invokespecial 24, 3) := by decide +kernel
theorem dX4_init_45 : decode cX4_init 45 = .ok (.putfield 25, 3) := by decide +kernel
theorem dX4_init_48 : decode cX4_init 48 = .ok (.aload_n 0, 1) := by decide +kernel
theorem dX4_init_49 : decode cX4_init 49 = .ok (.iconst 4, 1) := by decide +kernel
theorem dX4_init_50 : decode cX4_init 50 = .ok (.anewarray 29, 3) := by decide +kernel
theorem dX4_init_53 : decode cX4_init 53 = .ok (.putfield 31, 3) := by decide +kernel
theorem dX4_init_56 : decode cX4_init 56 = .ok (.iconst 0, 1) := by decide +kernel
theorem dX4_init_57 : decode cX4_init 57 = .ok (.istore_n 1, 1) := by decide +kernel
theorem dX4_init_58 : decode cX4_init 58 = .ok (.iload_n 1, 1) := by decide +kernel
theorem dX4_init_59 : decode cX4_init 59 = .ok (.iconst 4, 1) := by decide +kernel
theorem dX4_init_60 : decode cX4_init 60 = .ok (.if_icmp .ge 22, 3) := by decide +kernel
theorem dX4_init_63 : decode cX4_init 63 = .ok (.aload_n 0, 1) := by decide +kernel
theorem dX4_init_64 : decode cX4_init 64 = .ok (.getfield 31, 3) := by decide +kernel
theorem dX4_init_67 : decode cX4_init 67 = .ok (.iload_n 1, 1) := by decide +kernel
theorem dX4_init_68 : decode cX4_init 68 = .ok (.new 29, 3) := by decide +kernel
theorem dX4_init_71 : decode cX4_init 71 = .ok (.dup, 1) := by decide +kernel
theorem dX4_init_72 : decode cX4_init 72 = .ok (.invokespecial 35, 3) := by decide +kernel
theorem dX4_init_75 : decode cX4_init 75 = .ok (.aastore, 1) := by decide +kernel
theorem dX4_init_76 : decode cX4_init 76 = .ok (.iinc 1 1, 3) := by decide +kernel
theorem dX4_init_79 : decode cX4_init 79 = .ok (.goto (-21), 3) := by decide +kernel
theorem dX4_init_82 : decode cX4_init 82 = .ok (.aload_n 0, 1) := by decide +kernel
theorem dX4_init_83 : decode cX4_init 83 = .ok (.bipush 7, 2) := by decide +kernel
theorem dX4_init_85 : decode cX4_init 85 = .ok (.newarray .int, 2) := by decide +kernel
theorem dX4_init_87 : decode cX4_init 87 = .ok (.putfield 36, 3) := by decide +kernel
theorem dX4_init_90 : decode cX4_init 90 = .ok (.aload_n 0, 1) := by decide +kernel
theorem dX4_init_91 : decode cX4_init 91 = .ok (.iconst 0, 1) := by decide +kernel
theorem dX4_init_92 : decode cX4_init 92 = .ok (.putfield 40, 3) := by decide +kernel
theorem dX4_init_95 : decode cX4_init 95 = .ok (.return_, 1) := by decide +kernel
theorem dX4_thing_0 : decode cX4_thing 0 = .ok (.iload_n 1, 1) := by decide +kernel
theorem dX4_thing_1 : decode cX4_thing 1 = .ok (.iload_n 2, 1) := by decide +kernel
theorem dX4_thing_2 : decode cX4_thing 2 = .ok (.invokestatic 44, 3) := by decide +kernel
theorem dX4_thing_5 : decode cX4_thing 5 = .ok (.ifCond .eq 12, 3) := by decide +kernel
theorem dX4_thing_8 : decode cX4_thing 8 = .ok (.iload_n 3, 1) := by decide +kernel
theorem dX4_thing_9 : decode cX4_thing 9 = .ok (.iconst 0, 1) := by decide +kernel
theorem dX4_thing_10 : decode cX4_thing 10 = .ok (.iconst 4, 1) := by decide +kernel
theorem dX4_thing_11 : decode cX4_thing 11 = .ok (.invokestatic 48, 3) := by decide +kernel
theorem dX4_thing_14 : decode cX4_thing 14 = .ok (.ifCond .ne 10, 3) := by decide +kernel
theorem dX4_thing_17 : decode cX4_thing 17 = .ok (.aload_n 0, 1) := by decide +kernel
theorem dX4_thing_18 : decode cX4_thing 18 = .ok (.ldc 52, 2) := by decide +kernel
theorem dX4_thing_20 : decode cX4_thing 20 = .ok (.invokevirtual 53, 3) := by decide +kernel
theorem dX4_thing_23 : decode cX4_thing 23 = .ok (.ireturn, 1) := by decide +kernel
theorem dX4_thing_24 : decode cX4_thing 24 = .ok (.aload_n 0, 1) := by decide +kernel
theorem dX4_thing_25 : decode cX4_thing 25 = .ok (.getfield 10, 3) := by decide +kernel
theorem dX4_thing_28 : decode cX4_thing 28 = .ok (.getfield 57, 3) := by decide +kernel
theorem dX4_thing_31 : decode cX4_thing 31 = .ok (.iload_n 1, 1) := by decide +kernel
theorem dX4_thing_32 : decode cX4_thing 32 = .ok (.iload_n 2, 1) := by decide +kernel
theorem dX4_thing_33 : decode cX4_thing 33 = .ok (.invokestatic 60, 3) := by decide +kernel
theorem dX4_thing_36 : decode cX4_thing 36 = .ok (.iaload, 1) := by decide +kernel
theorem dX4_thing_37 : decode cX4_thing 37 = .ok (.istore 4, 2) := by decide +kernel
theorem dX4_thing_39 : decode cX4_thing 39 = .ok (.aload_n 0, 1) := by decide +kernel
theorem dX4_thing_40 : decode cX4_thing 40 = .ok (.getfield 10, 3) := by decide +kernel
theorem dX4_thing_43 : decode cX4_thing 43 = .ok (.iload_n 1, 1) := by decide +kernel
theorem dX4_thing_44 : decode cX4_thing 44 = .ok (.iload_n 2, 1) := by decide +kernel
theorem dX4_thing_45 : decode cX4_thing 45 = .ok (.iload_n 3, 1) := by decide +kernel
theorem dX4_thing_46 : decode cX4_thing 46 = .ok (.invokevirtual 64, 3) := by decide +kernel
theorem dX4_thing_49 : decode cX4_thing 49 = .ok (.iload 4, 2) := by decide +kernel
theorem dX4_thing_51 : decode cX4_thing 51 = .ok (.ireturn, 1) := by decide +kernel
theorem dX4_stretch_0 : decode cX4_stretch 0 = .ok (.iload_n 1, 1) := by decide +kernel
theorem dX4_stretch_1 : decode cX4_stretch 1 = .ok (.iload_n 2, 1) := by decide +kernel
theorem dX4_stretch_2 : decode cX4_stretch 2 = .ok (.invokestatic 44, 3) := by decide +kernel
theorem dX4_stretch_5 : decode cX4_stretch 5 = .ok (.ifCond .eq 12, 3) := by decide +kernel
theorem dX4_stretch_8 : decode cX4_stretch 8 = .ok (.iload_n 3, 1) := by decide +kernel
theorem dX4_stretch_9 : decode cX4_stretch 9 = .ok (.iconst 0, 1) := by decide +kernel
theorem dX4_stretch_10 : decode cX4_stretch 10 = .ok (.iconst 1, 1) := by decide +kernel
theorem dX4_stretch_11 : decode cX4_stretch 11 = .ok (.invokestatic 48, 3) := by decide +kernel
theorem dX4_stretch_14 : decode cX4_stretch 14 = .ok (.ifCond .ne 10, 3) := by decide +kernel
theorem dX4_stretch_17 : decode cX4_stretch 17 = .ok (.aload_n 0, 1) := by decide +kernel
theorem dX4_stretch_18 : decode cX4_stretch 18 = .ok (.ldc 52, 2) := by decide +kernel
theorem dX4_stretch_20 : decode cX4_stretch 20 = .ok (.invokevirtual 53, 3) := by decide +kernel
theorem dX4_stretch_23 : decode cX4_stretch 23 = .ok (.ireturn, 1) := by decide +kernel
theorem dX4_stretch_24 : decode cX4_stretch 24 = .ok (.iload_n 1, 1) := by decide +kernel
theorem dX4_stretch_25 : decode cX4_stretch 25 = .ok (.iload_n 2, 1) := by decide +kernel
theorem dX4_stretch_26 : decode cX4_stretch 26 = .ok (.invokestatic 60, 3) := by decide +kernel
theorem dX4_stretch_29 : decode cX4_stretch 29 = .ok (.istore 4, 2) := by decide +kernel
theorem dX4_stretch_31 : decode cX4_stretch 31 = .ok (.iload_n 3, 1) := by decide +kernel
theorem dX4_stretch_32 : decode cX4_stretch 32 = .ok (.ifCond .ne 16, 3) := by decide +kernel
theorem dX4_stretch_35 : decode cX4_stretch 35 = .ok (.aload_n 0, 1) := by decide +kernel
theorem dX4_stretch_36 : decode cX4_stretch 36 = .ok (.getfield 10, 3) := by decide +kernel
theorem dX4_stretch_39 : decode cX4_stretch 39 = .ok (.getfield 57, 3) := by decide +kernel
theorem dX4_stretch_42 : decode cX4_stretch 42 = .ok (.iload 4, 2) := by decide +kernel
theorem dX4_stretch_44 : decode cX4_stretch 44 = .ok (.iaload, 1) := by decide +kernel
theorem dX4_stretch_45 : decode cX4_stretch 45 = .ok (.goto 13, 3) := by decide +kernel
theorem dX4_stretch_48 : decode cX4_stretch 48 = .ok (.aload_n 0, 1) := by decide +kernel
theorem dX4_stretch_49 : decode cX4_stretch 49 = .ok (.getfield 10, 3) := by decide +kernel
theorem dX4_stretch_52 : decode cX4_stretch 52 = .ok (.getfield 68, 3) := by decide +kernel
theorem dX4_stretch_55 : decode cX4_stretch 55 = .ok (.iload 4, 2) := by decide +kernel
theorem dX4_stretch_57 : decode cX4_stretch 57 = .ok (.iaload, 1) := by decide +kernel
theorem dX4_stretch_58 : decode cX4_stretch 58 = .ok (.ireturn, 1) := by decide +kernel
theorem dX4_high_0 : decode cX4_high 0 = .ok (.iload_n 1, 1) := by decide +kernel
theorem dX4_high_1 : decode cX4_high 1 = .ok (.iconst 1, 1) := by decide +kernel
theorem dX4_high_2 : decode cX4_high 2 = .ok (.bipush 6, 2) := by decide +kernel
theorem dX4_high_4 : decode cX4_high 4 = .ok (.invokestatic 48, 3) := by decide +kernel
theorem dX4_high_7 : decode cX4_high 7 = .ok (.ifCond .ne 10, 3) := by decide +kernel
theorem dX4_high_10 : decode cX4_high 10 = .ok (.aload_n 0, 1) := by decide +kernel
theorem dX4_high_11 : decode cX4_high 11 = .ok (.ldc 52, 2) := by decide +kernel
theorem dX4_high_13 : decode cX4_high 13 = .ok (.invokevirtual 53, 3) := by decide +kernel
theorem dX4_high_16 : decode cX4_high 16 = .ok (.ireturn, 1) := by decide +kernel
theorem dX4_high_17 : decode cX4_high 17 = .ok (.aload_n 0, 1) := by decide +kernel
theorem dX4_high_18 : decode cX4_high 18 = .ok (.getfield 10, 3) := by decide +kernel
theorem dX4_high_21 : decode cX4_high 21 = .ok (.getfield 71, 3) := by decide +kernel
theorem dX4_high_24 : decode cX4_high 24 = .ok (.istore_n 2, 1) := by decide +kernel
theorem dX4_high_25 : decode cX4_high 25 = .ok (.aload_n 0, 1) := by decide +kernel
theorem dX4_high_26 : decode cX4_high 26 = .ok (.getfield 10, 3) := by decide +kernel
theorem dX4_high_29 : decode cX4_high 29 = .ok (.iload_n 1, 1) := by decide +kernel
theorem dX4_high_30 : decode cX4_high 30 = .ok (.putfield 71, 3) := by decide +kernel
theorem dX4_high_33 : decode cX4_high 33 = .ok (.iload_n 2, 1) := by decide +kernel
theorem dX4_high_34 : decode cX4_high 34 = .ok (.ireturn, 1) := by decide +kernel
theorem dX4_street_0 : decode cX4_street 0 = .ok (.iload_n 1, 1) := by decide +kernel
theorem dX4_street_1 : decode cX4_street 1 = .ok (.invokestatic 75, 3) := by decide +kernel
theorem dX4_street_4 : decode cX4_street 4 = .ok (.ifCond .ne 10, 3) := by decide +kernel
theorem dX4_street_7 : decode cX4_street 7 = .ok (.aload_n 0, 1) := by decide +kernel
theorem dX4_street_8 : decode cX4_street 8 = .ok (.ldc 52, 2) := by decide +kernel
theorem dX4_street_10 : decode cX4_street 10 = .ok (.invokevirtual 53, 3) := by decide +kernel
theorem dX4_street_13 : decode cX4_street 13 = .ok (.ireturn, 1) := by decide +kernel
theorem dX4_street_14 : decode cX4_street 14 = .ok (.iload_n 2, 1) := by decide +kernel
theorem dX4_street_15 : decode cX4_street 15 = .ok (.tableswitch 65 0 3 #[29, 38, 47, 56], 29) := by decide +kernel
theorem dX4_street_44 : decode cX4_street 44 = .ok (.aload_n 0, 1) := by decide +kernel
theorem dX4_street_45 : decode cX4_street 45 = .ok (.getfield 10, 3) := by decide +kernel
theorem dX4_street_48 : decode cX4_street 48 = .ok (.iload_n 1, 1) := by decide +kernel
theorem dX4_street_49 : decode cX4_street 49 = .ok (.invokevirtual 79, 3) := by decide +kernel
theorem dX4_street_52 : decode cX4_street 52 = .ok (.ireturn, 1) := by decide +kernel
theorem dX4_street_53 : decode cX4_street 53 = .ok (.aload_n 0, 1) := by decide +kernel
theorem dX4_street_54 : decode cX4_street 54 = .ok (.getfield 10, 3) := by decide +kernel
theorem dX4_street_57 : decode cX4_street 57 = .ok (.iload_n 1, 1) := by decide +kernel
theorem dX4_street_58 : decode cX4_street 58 = .ok (.invokevirtual 82, 3) := by decide +kernel
theorem dX4_street_61 : decode cX4_street 61 = .ok (.ireturn, 1) := by decide +kernel
theorem dX4_street_62 : decode cX4_street 62 = .ok (.aload_n 0, 1) := by decide +kernel
theorem dX4_street_63 : decode cX4_street 63 = .ok (.getfield 10, 3) := by decide +kernel
theorem dX4_street_66 : decode cX4_street 66 = .ok (.iload_n 1, 1) := by decide +kernel
theorem dX4_street_67 : decode cX4_street 67 = .ok (.invokevirtual 85, 3) := by decide +kernel
theorem dX4_street_70 : decode cX4_street 70 = .ok (.ireturn, 1) := by decide +kernel
theorem dX4_street_71 : decode cX4_street 71 = .ok (.aload_n 0, 1) := by decide +kernel
theorem dX4_street_72 : decode cX4_street 72 = .ok (.getfield 10, 3) := by decide +kernel
theorem dX4_street_75 : decode cX4_street 75 = .ok (.iload_n 1, 1) := by decide +kernel
theorem dX4_street_76 : decode cX4_street 76 = .ok (.invokevirtual 88, 3) := by decide +kernel
theorem dX4_street_79 : decode cX4_street 79 = .ok (.ireturn, 1) := by decide +kernel
theorem dX4_street_80 : decode cX4_street 80 = .ok (.aload_n 0, 1) := by decide +kernel
theorem dX4_street_81 : decode cX4_street 81 = .ok (.ldc 52, 2) := by decide +kernel
theorem dX4_street_83 : decode cX4_street 83 = .ok (.invokevirtual 53, 3) := by decide +kernel
theorem dX4_street_86 : decode cX4_street 86 = .ok (.ireturn, 1) := by decide +kernel
theorem dX4_now_0 : decode cX4_now 0 = .ok (.iload_n 1, 1) := by decide +kernel
theorem dX4_now_1 : decode cX4_now 1 = .ok (.tableswitch 63 0 3 #[31, 39, 47, 55], 31) := by decide +kernel
theorem dX4_now_32 : decode cX4_now 32 = .ok (.aload_n 0, 1) := by decide +kernel
theorem dX4_now_33 : decode cX4_now 33 = .ok (.getfield 10, 3) := by decide +kernel
theorem dX4_now_36 : decode cX4_now 36 = .ok (.getfield 91, 3) := by decide +kernel
theorem dX4_now_39 : decode cX4_now 39 = .ok (.ireturn, 1) := by decide +kernel
theorem dX4_now_40 : decode cX4_now 40 = .ok (.aload_n 0, 1) := by decide +kernel
theorem dX4_now_41 : decode cX4_now 41 = .ok (.getfield 10, 3) := by decide +kernel
theorem dX4_now_44 : decode cX4_now 44 = .ok (.getfield 71, 3) := by decide +kernel
theorem dX4_now_47 : decode cX4_now 47 = .ok (.ireturn, 1) := by decide +kernel
theorem dX4_now_48 : decode cX4_now 48 = .ok (.aload_n 0, 1) := by decide +kernel
theorem dX4_now_49 : decode cX4_now 49 = .ok (.getfield 10, 3) := by decide +kernel
theorem dX4_now_52 : decode cX4_now 52 = .ok (.invokevirtual 94, 3) := by decide +kernel
theorem dX4_now_55 : decode cX4_now 55 = .ok (.ireturn, 1) := by decide +kernel
theorem dX4_now_56 : decode cX4_now 56 = .ok (.aload_n 0, 1) := by decide +kernel
theorem dX4_now_57 : decode cX4_now 57 = .ok (.getfield 10, 3) := by decide +kernel
theorem dX4_now_60 : decode cX4_now 60 = .ok (.invokevirtual 98, 3) := by decide +kernel
theorem dX4_now_63 : decode cX4_now 63 = .ok (.ireturn, 1) := by decide +kernel
theorem dX4_now_64 : decode cX4_now 64 = .ok (.aload_n 0, 1) := by decide +kernel
theorem dX4_now_65 : decode cX4_now 65 = .ok (.ldc 52, 2) := by decide +kernel
theorem dX4_now_67 : decode cX4_now 67 = .ok (.invokevirtual 53, 3) := by decide +kernel
theorem dX4_now_70 : decode cX4_now 70 = .ok (.ireturn, 1) := by decide +kernel
theorem dX4_driver_0 : decode cX4_driver 0 = .ok (.iload_n 1, 1) := by decide +kernel
theorem dX4_driver_1 : decode cX4_driver 1 = .ok (.invokestatic 101, 3) := by decide +kernel
theorem dX4_driver_4 : decode cX4_driver 4 = .ok (.ifCond .ne 10, 3) := by decide +kernel
theorem dX4_driver_7 : decode cX4_driver 7 = .ok (.aload_n 0, 1) := by decide +kernel
theorem dX4_driver_8 : decode cX4_driver 8 = .ok (.ldc 52, 2) := by decide +kernel
theorem dX4_driver_10 : decode cX4_driver 10 = .ok (.invokevirtual 53, 3) := by decide +kernel
theorem dX4_driver_13 : decode cX4_driver 13 = .ok (.ireturn, 1) := by decide +kernel
theorem dX4_driver_14 : decode cX4_driver 14 = .ok (.aload_n 0, 1) := by decide +kernel
theorem dX4_driver_15 : decode cX4_driver 15 = .ok (.getfield 10, 3) := by decide +kernel
theorem dX4_driver_18 : decode cX4_driver 18 = .ok (.getfield 104, 3) := by decide +kernel
theorem dX4_driver_21 : decode cX4_driver 21 = .ok (.bipush 8, 2) := by decide +kernel
theorem dX4_driver_23 : decode cX4_driver 23 = .ok (.if_icmp .lt 10, 3) := by decide +kernel
theorem dX4_driver_26 : decode cX4_driver 26 = .ok (.aload_n 0, 1) := by decide +kernel
theorem dX4_driver_27 : decode cX4_driver 27 = .ok (.ldc 107, 2) := by decide +kernel
theorem dX4_driver_29 : decode cX4_driver 29 = .ok (.invokevirtual 53, 3) := by decide +kernel
theorem dX4_driver_32 : decode cX4_driver 32 = .ok (.ireturn, 1) := by decide +kernel
theorem dX4_driver_33 : decode cX4_driver 33 = .ok (.aload_n 0, 1) := by decide +kernel
theorem dX4_driver_34 : decode cX4_driver 34 = .ok (.getfield 10, 3) := by decide +kernel
theorem dX4_driver_37 : decode cX4_driver 37 = .ok (.iload_n 1, 1) := by decide +kernel
theorem dX4_driver_38 : decode cX4_driver 38 = .ok (.invokevirtual 108, 3) := by decide +kernel
theorem dX4_driver_41 : decode cX4_driver 41 = .ok (.ireturn, 1) := by decide +kernel
theorem dX4_of_0 : decode cX4_of 0 = .ok (.aload_n 0, 1) := by decide +kernel
theorem dX4_of_1 : decode cX4_of 1 = .ok (.getfield 10, 3) := by decide +kernel
theorem dX4_of_4 : decode cX4_of 4 = .ok (.iload_n 1, 1) := by decide +kernel
theorem dX4_of_5 : decode cX4_of 5 = .ok (.invokevirtual 111, 3) := by decide +kernel
theorem dX4_of_8 : decode cX4_of 8 = .ok (.ifCond .ne 10, 3) := by decide +kernel
theorem dX4_of_11 : decode cX4_of 11 = .ok (.aload_n 0, 1) := by decide +kernel
theorem dX4_of_12 : decode cX4_of 12 = .ok (.ldc 52, 2) := by decide +kernel
theorem dX4_of_14 : decode cX4_of 14 = .ok (.invokevirtual 53, 3) := by decide +kernel
theorem dX4_of_17 : decode cX4_of 17 = .ok (.ireturn, 1) := by decide +kernel
theorem dX4_of_18 : decode cX4_of 18 = .ok (.aload_n 0, 1) := by decide +kernel
theorem dX4_of_19 : decode cX4_of 19 = .ok (.getfield 10, 3) := by decide +kernel
theorem dX4_of_22 : decode cX4_of 22 = .ok (.getfield 114, 3) := by decide +kernel
theorem dX4_of_25 : decode cX4_of 25 = .ok (.iload_n 1, 1) := by decide +kernel
theorem dX4_of_26 : decode cX4_of 26 = .ok (.iaload, 1) := by decide +kernel
theorem dX4_of_27 : decode cX4_of 27 = .ok (.istore_n 3, 1) := by decide +kernel
theorem dX4_of_28 : decode cX4_of 28 = .ok (.aload_n 0, 1) := by decide +kernel
theorem dX4_of_29 : decode cX4_of 29 = .ok (.getfield 10, 3) := by decide +kernel
theorem dX4_of_32 : decode cX4_of 32 = .ok (.getfield 117, 3) := by decide +kernel
theorem dX4_of_35 : decode cX4_of 35 = .ok (.iload_n 1, 1) := by decide +kernel
theorem dX4_of_36 : decode cX4_of 36 = .ok (.iaload, 1) := by decide +kernel
theorem dX4_of_37 : decode cX4_of 37 = .ok (.istore 4, 2) := by decide +kernel
theorem dX4_of_39 : decode cX4_of 39 = .ok (.aload_n 0, 1) := by decide +kernel
theorem dX4_of_40 : decode cX4_of 40 = .ok (.getfield 10, 3) := by decide +kernel
theorem dX4_of_43 : decode cX4_of 43 = .ok (.getfield 120, 3) := by decide +kernel
theorem dX4_of_46 : decode cX4_of 46 = .ok (.iload_n 1, 1) := by decide +kernel
theorem dX4_of_47 : decode cX4_of 47 = .ok (.iaload, 1) := by decide +kernel
theorem dX4_of_48 : decode cX4_of 48 = .ok (.istore 5, 2) := by decide +kernel
theorem dX4_of_50 : decode cX4_of 50 = .ok (.iload_n 2, 1) := by decide +kernel
theorem dX4_of_51 : decode cX4_of 51 = .ok (.tableswitch 76 0 5 #[37, 39, 42, 45, 50, 63], 37) := by decide +kernel
theorem dX4_of_88 : decode cX4_of 88 = .ok (.iload_n 3, 1) := by decide +kernel
theorem dX4_of_89 : decode cX4_of 89 = .ok (.ireturn, 1) := by decide +kernel
theorem dX4_of_90 : decode cX4_of 90 = .ok (.iload 4, 2) := by decide +kernel
theorem dX4_of_92 : decode cX4_of 92 = .ok (.ireturn, 1) := by decide +kernel
theorem dX4_of_93 : decode cX4_of 93 = .ok (.iload 5, 2) := by decide +kernel
theorem dX4_of_95 : decode cX4_of 95 = .ok (.ireturn, 1) := by decide +kernel
theorem dX4_of_96 : decode cX4_of 96 = .ok (.iload_n 3, 1) := by decide +kernel
theorem dX4_of_97 : decode cX4_of 97 = .ok (.invokestatic 123, 3) := by decide +kernel
theorem dX4_of_100 : decode cX4_of 100 = .ok (.ireturn, 1) := by decide +kernel
theorem dX4_of_101 : decode cX4_of 101 = .ok (.aload_n 0, 1) := by decide +kernel
theorem dX4_of_102 : decode cX4_of 102 = .ok (.getfield 10, 3) := by decide +kernel
theorem dX4_of_105 : decode cX4_of 105 = .ok (.iload_n 3, 1) := by decide +kernel
theorem dX4_of_106 : decode cX4_of 106 = .ok (.iload 4, 2) := by decide +kernel
theorem dX4_of_108 : decode cX4_of 108 = .ok (.iload 5, 2) := by decide +kernel
theorem dX4_of_110 : decode cX4_of 110 = .ok (.invokevirtual 128, 3) := by decide +kernel
theorem dX4_of_113 : decode cX4_of 113 = .ok (.ireturn, 1) := by decide +kernel
theorem dX4_of_114 : decode cX4_of 114 = .ok (.aload_n 0, 1) := by decide +kernel
theorem dX4_of_115 : decode cX4_of 115 = .ok (.getfield 10, 3) := by decide +kernel
theorem dX4_of_118 : decode cX4_of 118 = .ok (.iload_n 3, 1) := by decide +kernel
theorem dX4_of_119 : decode cX4_of 119 = .ok (.iload 4, 2) := by decide +kernel
theorem dX4_of_121 : decode cX4_of 121 = .ok (.iload 5, 2) := by decide +kernel
theorem dX4_of_123 : decode cX4_of 123 = .ok (.invokevirtual 132, 3) := by decide +kernel
theorem dX4_of_126 : decode cX4_of 126 = .ok (.ireturn, 1) := by decide +kernel
theorem dX4_of_127 : decode cX4_of 127 = .ok (.aload_n 0, 1) := by decide +kernel
theorem dX4_of_128 : decode cX4_of 128 = .ok (.ldc 52, 2) := by decide +kernel
theorem dX4_of_130 : decode cX4_of 130 = .ok (.invokevirtual 53, 3) := by decide +kernel
theorem dX4_of_133 : decode cX4_of 133 = .ok (.ireturn, 1) := by decide +kernel
theorem dX4_set_0 : decode cX4_set 0 = .ok (.aload_n 0, 1) := by decide +kernel
theorem dX4_set_1 : decode cX4_set 1 = .ok (.getfield 10, 3) := by decide +kernel
theorem dX4_set_4 : decode cX4_set 4 = .ok (.iload_n 1, 1) := by decide +kernel
theorem dX4_set_5 : decode cX4_set 5 = .ok (.invokevirtual 111, 3) := by decide +kernel
theorem dX4_set_8 : decode cX4_set 8 = .ok (.ifCond .ne 10, 3) := by decide +kernel
theorem dX4_set_11 : decode cX4_set 11 = .ok (.aload_n 0, 1) := by decide +kernel
theorem dX4_set_12 : decode cX4_set 12 = .ok (.ldc 52, 2) := by decide +kernel
theorem dX4_set_14 : decode cX4_set 14 = .ok (.invokevirtual 53, 3) := by decide +kernel
theorem dX4_set_17 : decode cX4_set 17 = .ok (.ireturn, 1) := by decide +kernel
theorem dX4_set_18 : decode cX4_set 18 = .ok (.iload_n 2, 1) := by decide +kernel
theorem dX4_set_19 : decode cX4_set 19 = .ok (.iconst 1, 1) := by decide +kernel
theorem dX4_set_20 : decode cX4_set 20 = .ok (.if_icmp .ne 38, 3) := by decide +kernel
theorem dX4_set_23 : decode cX4_set 23 = .ok (.iload_n 3, 1) := by decide +kernel
theorem dX4_set_24 : decode cX4_set 24 = .ok (.bipush 10, 2) := by decide +kernel
theorem dX4_set_26 : decode cX4_set 26 = .ok (.bipush 80, 2) := by decide +kernel
theorem dX4_set_28 : decode cX4_set 28 = .ok (.invokestatic 48, 3) := by decide +kernel
theorem dX4_set_31 : decode cX4_set 31 = .ok (.ifCond .eq 27, 3) := by decide +kernel
theorem dX4_set_34 : decode cX4_set 34 = .ok (.aload_n 0, 1) := by decide +kernel
theorem dX4_set_35 : decode cX4_set 35 = .ok (.getfield 10, 3) := by decide +kernel
theorem dX4_set_38 : decode cX4_set 38 = .ok (.getfield 117, 3) := by decide +kernel
theorem dX4_set_41 : decode cX4_set 41 = .ok (.iload_n 1, 1) := by decide +kernel
theorem dX4_set_42 : decode cX4_set 42 = .ok (.iaload, 1) := by decide +kernel
theorem dX4_set_43 : decode cX4_set 43 = .ok (.istore 4, 2) := by decide +kernel
theorem dX4_set_45 : decode cX4_set 45 = .ok (.aload_n 0, 1) := by decide +kernel
theorem dX4_set_46 : decode cX4_set 46 = .ok (.getfield 10, 3) := by decide +kernel
theorem dX4_set_49 : decode cX4_set 49 = .ok (.getfield 117, 3) := by decide +kernel
theorem dX4_set_52 : decode cX4_set 52 = .ok (.iload_n 1, 1) := by decide +kernel
theorem dX4_set_53 : decode cX4_set 53 = .ok (.iload_n 3, 1) := by decide +kernel
theorem dX4_set_54 : decode cX4_set 54 = .ok (.iastore, 1) := by decide +kernel
theorem dX4_set_55 : decode cX4_set 55 = .ok (.iload 4, 2) := by decide +kernel
theorem dX4_set_57 : decode cX4_set 57 = .ok (.ireturn, 1) := by decide +kernel
theorem dX4_set_58 : decode cX4_set 58 = .ok (.iload_n 2, 1) := by decide +kernel
theorem dX4_set_59 : decode cX4_set 59 = .ok (.iconst 2, 1) := by decide +kernel
theorem dX4_set_60 : decode cX4_set 60 = .ok (.if_icmp .ne 34, 3) := by decide +kernel
theorem dX4_set_63 : decode cX4_set 63 = .ok (.iload_n 3, 1) := by decide +kernel
theorem dX4_set_64 : decode cX4_set 64 = .ok (.invokestatic 75, 3) := by decide +kernel
theorem dX4_set_67 : decode cX4_set 67 = .ok (.ifCond .eq 27, 3) := by decide +kernel
theorem dX4_set_70 : decode cX4_set 70 = .ok (.aload_n 0, 1) := by decide +kernel
theorem dX4_set_71 : decode cX4_set 71 = .ok (.getfield 10, 3) := by decide +kernel
theorem dX4_set_74 : decode cX4_set 74 = .ok (.getfield 120, 3) := by decide +kernel
theorem dX4_set_77 : decode cX4_set 77 = .ok (.iload_n 1, 1) := by decide +kernel
theorem dX4_set_78 : decode cX4_set 78 = .ok (.iaload, 1) := by decide +kernel
theorem dX4_set_79 : decode cX4_set 79 = .ok (.istore 4, 2) := by decide +kernel
theorem dX4_set_81 : decode cX4_set 81 = .ok (.aload_n 0, 1) := by decide +kernel
theorem dX4_set_82 : decode cX4_set 82 = .ok (.getfield 10, 3) := by decide +kernel
theorem dX4_set_85 : decode cX4_set 85 = .ok (.getfield 120, 3) := by decide +kernel
theorem dX4_set_88 : decode cX4_set 88 = .ok (.iload_n 1, 1) := by decide +kernel
theorem dX4_set_89 : decode cX4_set 89 = .ok (.iload_n 3, 1) := by decide +kernel
theorem dX4_set_90 : decode cX4_set 90 = .ok (.iastore, 1) := by decide +kernel
theorem dX4_set_91 : decode cX4_set 91 = .ok (.iload 4, 2) := by decide +kernel
theorem dX4_set_93 : decode cX4_set 93 = .ok (.ireturn, 1) := by decide +kernel
theorem dX4_set_94 : decode cX4_set 94 = .ok (.aload_n 0, 1) := by decide +kernel
theorem dX4_set_95 : decode cX4_set 95 = .ok (.ldc 52, 2) := by decide +kernel
theorem dX4_set_97 : decode cX4_set 97 = .ok (.invokevirtual 53, 3) := by decide +kernel
theorem dX4_set_100 : decode cX4_set 100 = .ok (.ireturn, 1) := by decide +kernel
theorem dX4_turn_0 : decode cX4_turn 0 = .ok (.aload_n 0, 1) := by decide +kernel
theorem dX4_turn_1 : decode cX4_turn 1 = .ok (.getfield 10, 3) := by decide +kernel
theorem dX4_turn_4 : decode cX4_turn 4 = .ok (.iload_n 1, 1) := by decide +kernel
theorem dX4_turn_5 : decode cX4_turn 5 = .ok (.invokevirtual 111, 3) := by decide +kernel
theorem dX4_turn_8 : decode cX4_turn 8 = .ok (.ifCond .eq 10, 3) := by decide +kernel
theorem dX4_turn_11 : decode cX4_turn 11 = .ok (.iload_n 2, 1) := by decide +kernel
theorem dX4_turn_12 : decode cX4_turn 12 = .ok (.invokestatic 101, 3) := by decide +kernel
theorem dX4_turn_15 : decode cX4_turn 15 = .ok (.ifCond .ne 10, 3) := by decide +kernel
theorem dX4_turn_18 : decode cX4_turn 18 = .ok (.aload_n 0, 1) := by decide +kernel
theorem dX4_turn_19 : decode cX4_turn 19 = .ok (.ldc 52, 2) := by decide +kernel
theorem dX4_turn_21 : decode cX4_turn 21 = .ok (.invokevirtual 53, 3) := by decide +kernel
theorem dX4_turn_24 : decode cX4_turn 24 = .ok (.ireturn, 1) := by decide +kernel
theorem dX4_turn_25 : decode cX4_turn 25 = .ok (.aload_n 0, 1) := by decide +kernel
theorem dX4_turn_26 : decode cX4_turn 26 = .ok (.getfield 10, 3) := by decide +kernel
theorem dX4_turn_29 : decode cX4_turn 29 = .ok (.getfield 114, 3) := by decide +kernel
theorem dX4_turn_32 : decode cX4_turn 32 = .ok (.iload_n 1, 1) := by decide +kernel
theorem dX4_turn_33 : decode cX4_turn 33 = .ok (.iaload, 1) := by decide +kernel
theorem dX4_turn_34 : decode cX4_turn 34 = .ok (.istore_n 3, 1) := by decide +kernel
theorem dX4_turn_35 : decode cX4_turn 35 = .ok (.aload_n 0, 1) := by decide +kernel
theorem dX4_turn_36 : decode cX4_turn 36 = .ok (.getfield 10, 3) := by decide +kernel
theorem dX4_turn_39 : decode cX4_turn 39 = .ok (.getfield 114, 3) := by decide +kernel
theorem dX4_turn_42 : decode cX4_turn 42 = .ok (.iload_n 1, 1) := by decide +kernel
theorem dX4_turn_43 : decode cX4_turn 43 = .ok (.iload_n 2, 1) := by decide +kernel
theorem dX4_turn_44 : decode cX4_turn 44 = .ok (.iastore, 1) := by decide +kernel
theorem dX4_turn_45 : decode cX4_turn 45 = .ok (.iload_n 3, 1) := by decide +kernel
theorem dX4_turn_46 : decode cX4_turn 46 = .ok (.ireturn, 1) := by decide +kernel
theorem dX4_as_0 : decode cX4_as 0 = .ok (.aload_n 0, 1) := by decide +kernel
theorem dX4_as_1 : decode cX4_as 1 = .ok (.getfield 10, 3) := by decide +kernel
theorem dX4_as_4 : decode cX4_as 4 = .ok (.iload_n 1, 1) := by decide +kernel
theorem dX4_as_5 : decode cX4_as 5 = .ok (.invokevirtual 111, 3) := by decide +kernel
theorem dX4_as_8 : decode cX4_as 8 = .ok (.ifCond .eq 10, 3) := by decide +kernel
theorem dX4_as_11 : decode cX4_as 11 = .ok (.iload_n 2, 1) := by decide +kernel
theorem dX4_as_12 : decode cX4_as 12 = .ok (.invokestatic 101, 3) := by decide +kernel
theorem dX4_as_15 : decode cX4_as 15 = .ok (.ifCond .ne 10, 3) := by decide +kernel
theorem dX4_as_18 : decode cX4_as 18 = .ok (.aload_n 0, 1) := by decide +kernel
theorem dX4_as_19 : decode cX4_as 19 = .ok (.ldc 52, 2) := by decide +kernel
theorem dX4_as_21 : decode cX4_as 21 = .ok (.invokevirtual 53, 3) := by decide +kernel
theorem dX4_as_24 : decode cX4_as 24 = .ok (.ireturn, 1) := by decide +kernel
theorem dX4_as_25 : decode cX4_as 25 = .ok (.aload_n 0, 1) := by decide +kernel
theorem dX4_as_26 : decode cX4_as 26 = .ok (.getfield 10, 3) := by decide +kernel
theorem dX4_as_29 : decode cX4_as 29 = .ok (.getfield 114, 3) := by decide +kernel
theorem dX4_as_32 : decode cX4_as 32 = .ok (.iload_n 1, 1) := by decide +kernel
theorem dX4_as_33 : decode cX4_as 33 = .ok (.iaload, 1) := by decide +kernel
theorem dX4_as_34 : decode cX4_as 34 = .ok (.iload_n 2, 1) := by decide +kernel
theorem dX4_as_35 : decode cX4_as 35 = .ok (.invokestatic 135, 3) := by decide +kernel
theorem dX4_as_38 : decode cX4_as 38 = .ok (.ifCond .ne 10, 3) := by decide +kernel
theorem dX4_as_41 : decode cX4_as 41 = .ok (.aload_n 0, 1) := by decide +kernel
theorem dX4_as_42 : decode cX4_as 42 = .ok (.ldc 138, 2) := by decide +kernel
theorem dX4_as_44 : decode cX4_as 44 = .ok (.invokevirtual 53, 3) := by decide +kernel
theorem dX4_as_47 : decode cX4_as 47 = .ok (.ireturn, 1) := by decide +kernel
theorem dX4_as_48 : decode cX4_as 48 = .ok (.aload_n 0, 1) := by decide +kernel
theorem dX4_as_49 : decode cX4_as 49 = .ok (.getfield 10, 3) := by decide +kernel
theorem dX4_as_52 : decode cX4_as 52 = .ok (.getfield 117, 3) := by decide +kernel
theorem dX4_as_55 : decode cX4_as 55 = .ok (.iload_n 1, 1) := by decide +kernel
theorem dX4_as_56 : decode cX4_as 56 = .ok (.iaload, 1) := by decide +kernel
theorem dX4_as_57 : decode cX4_as 57 = .ok (.ireturn, 1) := by decide +kernel
theorem dX4_slows_0 : decode cX4_slows 0 = .ok (.aload_n 0, 1) := by decide +kernel
theorem dX4_slows_1 : decode cX4_slows 1 = .ok (.getfield 10, 3) := by decide +kernel
theorem dX4_slows_4 : decode cX4_slows 4 = .ok (.iload_n 1, 1) := by decide +kernel
theorem dX4_slows_5 : decode cX4_slows 5 = .ok (.invokevirtual 111, 3) := by decide +kernel
theorem dX4_slows_8 : decode cX4_slows 8 = .ok (.ifCond .eq 23, 3) := by decide +kernel
theorem dX4_slows_11 : decode cX4_slows 11 = .ok (.iload_n 2, 1) := by decide +kernel
theorem dX4_slows_12 : decode cX4_slows 12 = .ok (.iconst 1, 1) := by decide +kernel
theorem dX4_slows_13 : decode cX4_slows 13 = .ok (.iconst 4, 1) := by decide +kernel
theorem dX4_slows_14 : decode cX4_slows 14 = .ok (.invokestatic 48, 3) := by decide +kernel
theorem dX4_slows_17 : decode cX4_slows 17 = .ok (.ifCond .eq 14, 3) := by decide +kernel
theorem dX4_slows_20 : decode cX4_slows 20 = .ok (.iload_n 3, 1) := by decide +kernel
theorem dX4_slows_21 : decode cX4_slows 21 = .ok (.iconst 0, 1) := by decide +kernel
theorem dX4_slows_22 : decode cX4_slows 22 = .ok (.sipush 999, 3) := by decide +kernel
theorem dX4_slows_25 : decode cX4_slows 25 = .ok (.invokestatic 48, 3) := by decide +kernel
theorem dX4_slows_28 : decode cX4_slows 28 = .ok (.ifCond .ne 10, 3) := by decide +kernel
theorem dX4_slows_31 : decode cX4_slows 31 = .ok (.aload_n 0, 1) := by decide +kernel
theorem dX4_slows_32 : decode cX4_slows 32 = .ok (.ldc 52, 2) := by decide +kernel
theorem dX4_slows_34 : decode cX4_slows 34 = .ok (.invokevirtual 53, 3) := by decide +kernel
theorem dX4_slows_37 : decode cX4_slows 37 = .ok (.ireturn, 1) := by decide +kernel
theorem dX4_slows_38 : decode cX4_slows 38 = .ok (.aload_n 0, 1) := by decide +kernel
theorem dX4_slows_39 : decode cX4_slows 39 = .ok (.getfield 10, 3) := by decide +kernel
theorem dX4_slows_42 : decode cX4_slows 42 = .ok (.getfield 114, 3) := by decide +kernel
theorem dX4_slows_45 : decode cX4_slows 45 = .ok (.iload_n 1, 1) := by decide +kernel
theorem dX4_slows_46 : decode cX4_slows 46 = .ok (.iaload, 1) := by decide +kernel
theorem dX4_slows_47 : decode cX4_slows 47 = .ok (.aload_n 0, 1) := by decide +kernel
theorem dX4_slows_48 : decode cX4_slows 48 = .ok (.getfield 10, 3) := by decide +kernel
theorem dX4_slows_51 : decode cX4_slows 51 = .ok (.getfield 117, 3) := by decide +kernel
theorem dX4_slows_54 : decode cX4_slows 54 = .ok (.iload_n 1, 1) := by decide +kernel
theorem dX4_slows_55 : decode cX4_slows 55 = .ok (.iaload, 1) := by decide +kernel
theorem dX4_slows_56 : decode cX4_slows 56 = .ok (.iload_n 2, 1) := by decide +kernel
theorem dX4_slows_57 : decode cX4_slows 57 = .ok (.aload_n 0, 1) := by decide +kernel
theorem dX4_slows_58 : decode cX4_slows 58 = .ok (.getfield 10, 3) := by decide +kernel
theorem dX4_slows_61 : decode cX4_slows 61 = .ok (.getfield 71, 3) := by decide +kernel
theorem dX4_slows_64 : decode cX4_slows 64 = .ok (.iload_n 3, 1) := by decide +kernel
theorem dX4_slows_65 : decode cX4_slows 65 = .ok (.invokestatic 139, 3) := by decide +kernel
theorem dX4_slows_68 : decode cX4_slows 68 = .ok (.ireturn, 1) := by decide +kernel
theorem dX4_quick_0 : decode cX4_quick 0 = .ok (.aload_n 0, 1) := by decide +kernel
theorem dX4_quick_1 : decode cX4_quick 1 = .ok (.getfield 10, 3) := by decide +kernel
theorem dX4_quick_4 : decode cX4_quick 4 = .ok (.iload_n 1, 1) := by decide +kernel
theorem dX4_quick_5 : decode cX4_quick 5 = .ok (.invokevirtual 111, 3) := by decide +kernel
theorem dX4_quick_8 : decode cX4_quick 8 = .ok (.ifCond .eq 11, 3) := by decide +kernel
theorem dX4_quick_11 : decode cX4_quick 11 = .ok (.iload_n 2, 1) := by decide +kernel
theorem dX4_quick_12 : decode cX4_quick 12 = .ok (.iload_n 3, 1) := by decide +kernel
theorem dX4_quick_13 : decode cX4_quick 13 = .ok (.invokestatic 44, 3) := by decide +kernel
theorem dX4_quick_16 : decode cX4_quick 16 = .ok (.ifCond .ne 10, 3) := by decide +kernel
theorem dX4_quick_19 : decode cX4_quick 19 = .ok (.aload_n 0, 1) := by decide +kernel
theorem dX4_quick_20 : decode cX4_quick 20 = .ok (.ldc 52, 2) := by decide +kernel
theorem dX4_quick_22 : decode cX4_quick 22 = .ok (.invokevirtual 53, 3) := by decide +kernel
theorem dX4_quick_25 : decode cX4_quick 25 = .ok (.ireturn, 1) := by decide +kernel
theorem dX4_quick_26 : decode cX4_quick 26 = .ok (.aload_n 0, 1) := by decide +kernel
theorem dX4_quick_27 : decode cX4_quick 27 = .ok (.getfield 10, 3) := by decide +kernel
theorem dX4_quick_30 : decode cX4_quick 30 = .ok (.aload_n 0, 1) := by decide +kernel
theorem dX4_quick_31 : decode cX4_quick 31 = .ok (.getfield 10, 3) := by decide +kernel
theorem dX4_quick_34 : decode cX4_quick 34 = .ok (.getfield 114, 3) := by decide +kernel
theorem dX4_quick_37 : decode cX4_quick 37 = .ok (.iload_n 1, 1) := by decide +kernel
theorem dX4_quick_38 : decode cX4_quick 38 = .ok (.iaload, 1) := by decide +kernel
theorem dX4_quick_39 : decode cX4_quick 39 = .ok (.aload_n 0, 1) := by decide +kernel
theorem dX4_quick_40 : decode cX4_quick 40 = .ok (.getfield 10, 3) := by decide +kernel
theorem dX4_quick_43 : decode cX4_quick 43 = .ok (.getfield 117, 3) := by decide +kernel
theorem dX4_quick_46 : decode cX4_quick 46 = .ok (.iload_n 1, 1) := by decide +kernel
theorem dX4_quick_47 : decode cX4_quick 47 = .ok (.iaload, 1) := by decide +kernel
theorem dX4_quick_48 : decode cX4_quick 48 = .ok (.iload_n 2, 1) := by decide +kernel
theorem dX4_quick_49 : decode cX4_quick 49 = .ok (.iload_n 3, 1) := by decide +kernel
theorem dX4_quick_50 : decode cX4_quick 50 = .ok (.invokevirtual 143, 3) := by decide +kernel
theorem dX4_quick_53 : decode cX4_quick 53 = .ok (.ireturn, 1) := by decide +kernel
theorem dX4_takes_0 : decode cX4_takes 0 = .ok (.aload_n 0, 1) := by decide +kernel
theorem dX4_takes_1 : decode cX4_takes 1 = .ok (.getfield 10, 3) := by decide +kernel
theorem dX4_takes_4 : decode cX4_takes 4 = .ok (.iload_n 1, 1) := by decide +kernel
theorem dX4_takes_5 : decode cX4_takes 5 = .ok (.invokevirtual 111, 3) := by decide +kernel
theorem dX4_takes_8 : decode cX4_takes 8 = .ok (.ifCond .eq 10, 3) := by decide +kernel
theorem dX4_takes_11 : decode cX4_takes 11 = .ok (.iload_n 2, 1) := by decide +kernel
theorem dX4_takes_12 : decode cX4_takes 12 = .ok (.invokestatic 75, 3) := by decide +kernel
theorem dX4_takes_15 : decode cX4_takes 15 = .ok (.ifCond .ne 10, 3) := by decide +kernel
theorem dX4_takes_18 : decode cX4_takes 18 = .ok (.aload_n 0, 1) := by decide +kernel
theorem dX4_takes_19 : decode cX4_takes 19 = .ok (.ldc 52, 2) := by decide +kernel
theorem dX4_takes_21 : decode cX4_takes 21 = .ok (.invokevirtual 53, 3) := by decide +kernel
theorem dX4_takes_24 : decode cX4_takes 24 = .ok (.ireturn, 1) := by decide +kernel
theorem dX4_takes_25 : decode cX4_takes 25 = .ok (.aload_n 0, 1) := by decide +kernel
theorem dX4_takes_26 : decode cX4_takes 26 = .ok (.getfield 10, 3) := by decide +kernel
theorem dX4_takes_29 : decode cX4_takes 29 = .ok (.aload_n 0, 1) := by decide +kernel
theorem dX4_takes_30 : decode cX4_takes 30 = .ok (.getfield 10, 3) := by decide +kernel
theorem dX4_takes_33 : decode cX4_takes 33 = .ok (.getfield 114, 3) := by decide +kernel
theorem dX4_takes_36 : decode cX4_takes 36 = .ok (.iload_n 1, 1) := by decide +kernel
theorem dX4_takes_37 : decode cX4_takes 37 = .ok (.iaload, 1) := by decide +kernel
theorem dX4_takes_38 : decode cX4_takes 38 = .ok (.aload_n 0, 1) := by decide +kernel
theorem dX4_takes_39 : decode cX4_takes 39 = .ok (.getfield 10, 3) := by decide +kernel
theorem dX4_takes_42 : decode cX4_takes 42 = .ok (.getfield 117, 3) := by decide +kernel
theorem dX4_takes_45 : decode cX4_takes 45 = .ok (.iload_n 1, 1) := by decide +kernel
theorem dX4_takes_46 : decode cX4_takes 46 = .ok (.iaload, 1) := by decide +kernel
theorem dX4_takes_47 : decode cX4_takes 47 = .ok (.iload_n 2, 1) := by decide +kernel
theorem dX4_takes_48 : decode cX4_takes 48 = .ok (.invokevirtual 128, 3) := by decide +kernel
theorem dX4_takes_51 : decode cX4_takes 51 = .ok (.ireturn, 1) := by decide +kernel
theorem dX4_shaken_0 : decode cX4_shaken 0 = .ok (.aload_n 0, 1) := by decide +kernel
theorem dX4_shaken_1 : decode cX4_shaken 1 = .ok (.getfield 10, 3) := by decide +kernel
theorem dX4_shaken_4 : decode cX4_shaken 4 = .ok (.iload_n 1, 1) := by decide +kernel
theorem dX4_shaken_5 : decode cX4_shaken 5 = .ok (.invokevirtual 111, 3) := by decide +kernel
theorem dX4_shaken_8 : decode cX4_shaken 8 = .ok (.ifCond .eq 10, 3) := by decide +kernel
theorem dX4_shaken_11 : decode cX4_shaken 11 = .ok (.iload_n 2, 1) := by decide +kernel
theorem dX4_shaken_12 : decode cX4_shaken 12 = .ok (.invokestatic 75, 3) := by decide +kernel
theorem dX4_shaken_15 : decode cX4_shaken 15 = .ok (.ifCond .ne 10, 3) := by decide +kernel
theorem dX4_shaken_18 : decode cX4_shaken 18 = .ok (.aload_n 0, 1) := by decide +kernel
theorem dX4_shaken_19 : decode cX4_shaken 19 = .ok (.ldc 52, 2) := by decide +kernel
theorem dX4_shaken_21 : decode cX4_shaken 21 = .ok (.invokevirtual 53, 3) := by decide +kernel
theorem dX4_shaken_24 : decode cX4_shaken 24 = .ok (.ireturn, 1) := by decide +kernel
theorem dX4_shaken_25 : decode cX4_shaken 25 = .ok (.aload_n 0, 1) := by decide +kernel
theorem dX4_shaken_26 : decode cX4_shaken 26 = .ok (.getfield 10, 3) := by decide +kernel
theorem dX4_shaken_29 : decode cX4_shaken 29 = .ok (.aload_n 0, 1) := by decide +kernel
theorem dX4_shaken_30 : decode cX4_shaken 30 = .ok (.getfield 10, 3) := by decide +kernel
theorem dX4_shaken_33 : decode cX4_shaken 33 = .ok (.getfield 114, 3) := by decide +kernel
theorem dX4_shaken_36 : decode cX4_shaken 36 = .ok (.iload_n 1, 1) := by decide +kernel
theorem dX4_shaken_37 : decode cX4_shaken 37 = .ok (.iaload, 1) := by decide +kernel
theorem dX4_shaken_38 : decode cX4_shaken 38 = .ok (.aload_n 0, 1) := by decide +kernel
theorem dX4_shaken_39 : decode cX4_shaken 39 = .ok (.getfield 10, 3) := by decide +kernel
theorem dX4_shaken_42 : decode cX4_shaken 42 = .ok (.getfield 117, 3) := by decide +kernel
theorem dX4_shaken_45 : decode cX4_shaken 45 = .ok (.iload_n 1, 1) := by decide +kernel
theorem dX4_shaken_46 : decode cX4_shaken 46 = .ok (.iaload, 1) := by decide +kernel
theorem dX4_shaken_47 : decode cX4_shaken 47 = .ok (.iload_n 2, 1) := by decide +kernel
theorem dX4_shaken_48 : decode cX4_shaken 48 = .ok (.invokevirtual 132, 3) := by decide +kernel
theorem dX4_shaken_51 : decode cX4_shaken 51 = .ok (.ireturn, 1) := by decide +kernel
theorem dX4_days_0 : decode cX4_days 0 = .ok (.iload_n 1, 1) := by decide +kernel
theorem dX4_days_1 : decode cX4_days 1 = .ok (.iconst 1, 1) := by decide +kernel
theorem dX4_days_2 : decode cX4_days 2 = .ok (.bipush 100, 2) := by decide +kernel
theorem dX4_days_4 : decode cX4_days 4 = .ok (.invokestatic 48, 3) := by decide +kernel
theorem dX4_days_7 : decode cX4_days 7 = .ok (.ifCond .ne 10, 3) := by decide +kernel
theorem dX4_days_10 : decode cX4_days 10 = .ok (.aload_n 0, 1) := by decide +kernel
theorem dX4_days_11 : decode cX4_days 11 = .ok (.ldc 52, 2) := by decide +kernel
theorem dX4_days_13 : decode cX4_days 13 = .ok (.invokevirtual 53, 3) := by decide +kernel
theorem dX4_days_16 : decode cX4_days 16 = .ok (.ireturn, 1) := by decide +kernel
theorem dX4_days_17 : decode cX4_days 17 = .ok (.aload_n 0, 1) := by decide +kernel
theorem dX4_days_18 : decode cX4_days 18 = .ok (.getfield 10, 3) := by decide +kernel
theorem dX4_days_21 : decode cX4_days 21 = .ok (.getfield 91, 3) := by decide +kernel
theorem dX4_days_24 : decode cX4_days 24 = .ok (.iload_n 1, 1) := by decide +kernel
theorem dX4_days_25 : decode cX4_days 25 = .ok (.iadd, 1) := by decide +kernel
theorem dX4_days_26 : decode cX4_days 26 = .ok (.sipush 9999, 3) := by decide +kernel
theorem dX4_days_29 : decode cX4_days 29 = .ok (.if_icmp .le 10, 3) := by decide +kernel
theorem dX4_days_32 : decode cX4_days 32 = .ok (.aload_n 0, 1) := by decide +kernel
theorem dX4_days_33 : decode cX4_days 33 = .ok (.ldc 147, 2) := by decide +kernel
theorem dX4_days_35 : decode cX4_days 35 = .ok (.invokevirtual 53, 3) := by decide +kernel
theorem dX4_days_38 : decode cX4_days 38 = .ok (.ireturn, 1) := by decide +kernel
theorem dX4_days_39 : decode cX4_days 39 = .ok (.aload_n 0, 1) := by decide +kernel
theorem dX4_days_40 : decode cX4_days 40 = .ok (.getfield 10, 3) := by decide +kernel
theorem dX4_days_43 : decode cX4_days 43 = .ok (.iload_n 1, 1) := by decide +kernel
theorem dX4_days_44 : decode cX4_days 44 = .ok (.invokevirtual 148, 3) := by decide +kernel
theorem dX4_days_47 : decode cX4_days 47 = .ok (.aload_n 0, 1) := by decide +kernel
theorem dX4_days_48 : decode cX4_days 48 = .ok (.getfield 10, 3) := by decide +kernel
theorem dX4_days_51 : decode cX4_days 51 = .ok (.invokevirtual 94, 3) := by decide +kernel
theorem dX4_days_54 : decode cX4_days 54 = .ok (.ireturn, 1) := by decide +kernel
theorem dX4_on_0 : decode cX4_on 0 = .ok (.aload_n 0, 1) := by decide +kernel
theorem dX4_on_1 : decode cX4_on 1 = .ok (.getfield 10, 3) := by decide +kernel
theorem dX4_on_4 : decode cX4_on 4 = .ok (.iload_n 1, 1) := by decide +kernel
theorem dX4_on_5 : decode cX4_on 5 = .ok (.invokevirtual 111, 3) := by decide +kernel
theorem dX4_on_8 : decode cX4_on 8 = .ok (.ifCond .eq 13, 3) := by decide +kernel
theorem dX4_on_11 : decode cX4_on 11 = .ok (.iload_n 2, 1) := by decide +kernel
theorem dX4_on_12 : decode cX4_on 12 = .ok (.iconst 0, 1) := by decide +kernel
theorem dX4_on_13 : decode cX4_on 13 = .ok (.bipush 100, 2) := by decide +kernel
theorem dX4_on_15 : decode cX4_on 15 = .ok (.invokestatic 48, 3) := by decide +kernel
theorem dX4_on_18 : decode cX4_on 18 = .ok (.ifCond .ne 10, 3) := by decide +kernel
theorem dX4_on_21 : decode cX4_on 21 = .ok (.aload_n 0, 1) := by decide +kernel
theorem dX4_on_22 : decode cX4_on 22 = .ok (.ldc 52, 2) := by decide +kernel
theorem dX4_on_24 : decode cX4_on 24 = .ok (.invokevirtual 53, 3) := by decide +kernel
theorem dX4_on_27 : decode cX4_on 27 = .ok (.ireturn, 1) := by decide +kernel
theorem dX4_on_28 : decode cX4_on 28 = .ok (.aload_n 0, 1) := by decide +kernel
theorem dX4_on_29 : decode cX4_on 29 = .ok (.getfield 19, 3) := by decide +kernel
theorem dX4_on_32 : decode cX4_on 32 = .ok (.aload_n 0, 1) := by decide +kernel
theorem dX4_on_33 : decode cX4_on 33 = .ok (.getfield 10, 3) := by decide +kernel
theorem dX4_on_36 : decode cX4_on 36 = .ok (.invokevirtual 152, 3) := by decide +kernel
theorem dX4_on_39 : decode cX4_on 39 = .ok (.aload_n 0, 1) := by decide +kernel
theorem dX4_on_40 : decode cX4_on 40 = .ok (.getfield 19, 3) := by decide +kernel
theorem dX4_on_43 : decode cX4_on 43 = .ok (.iload_n 2, 1) := by decide +kernel
theorem dX4_on_44 : decode cX4_on 44 = .ok (.invokevirtual 148, 3) := by decide +kernel
theorem dX4_on_47 : decode cX4_on 47 = .ok (.aload_n 0, 1) := by decide +kernel
theorem dX4_on_48 : decode cX4_on 48 = .ok (.getfield 19, 3) := by decide +kernel
theorem dX4_on_51 : decode cX4_on 51 = .ok (.getfield 120, 3) := by decide +kernel
theorem dX4_on_54 : decode cX4_on 54 = .ok (.iload_n 1, 1) := by decide +kernel
theorem dX4_on_55 : decode cX4_on 55 = .ok (.iaload, 1) := by decide +kernel
theorem dX4_on_56 : decode cX4_on 56 = .ok (.ireturn, 1) := by decide +kernel
theorem dX4_then_0 : decode cX4_then 0 = .ok (.iload_n 1, 1) := by decide +kernel
theorem dX4_then_1 : decode cX4_then 1 = .ok (.iconst 0, 1) := by decide +kernel
theorem dX4_then_2 : decode cX4_then 2 = .ok (.bipush 100, 2) := by decide +kernel
theorem dX4_then_4 : decode cX4_then 4 = .ok (.invokestatic 48, 3) := by decide +kernel
theorem dX4_then_7 : decode cX4_then 7 = .ok (.ifCond .eq 12, 3) := by decide +kernel
theorem dX4_then_10 : decode cX4_then 10 = .ok (.iload_n 2, 1) := by decide +kernel
theorem dX4_then_11 : decode cX4_then 11 = .ok (.iconst 0, 1) := by decide +kernel
theorem dX4_then_12 : decode cX4_then 12 = .ok (.iconst 1, 1) := by decide +kernel
theorem dX4_then_13 : decode cX4_then 13 = .ok (.invokestatic 48, 3) := by decide +kernel
theorem dX4_then_16 : decode cX4_then 16 = .ok (.ifCond .ne 10, 3) := by decide +kernel
theorem dX4_then_19 : decode cX4_then 19 = .ok (.aload_n 0, 1) := by decide +kernel
theorem dX4_then_20 : decode cX4_then 20 = .ok (.ldc 52, 2) := by decide +kernel
theorem dX4_then_22 : decode cX4_then 22 = .ok (.invokevirtual 53, 3) := by decide +kernel
theorem dX4_then_25 : decode cX4_then 25 = .ok (.ireturn, 1) := by decide +kernel
theorem dX4_then_26 : decode cX4_then 26 = .ok (.aload_n 0, 1) := by decide +kernel
theorem dX4_then_27 : decode cX4_then 27 = .ok (.getfield 19, 3) := by decide +kernel
theorem dX4_then_30 : decode cX4_then 30 = .ok (.aload_n 0, 1) := by decide +kernel
theorem dX4_then_31 : decode cX4_then 31 = .ok (.getfield 10, 3) := by decide +kernel
theorem dX4_then_34 : decode cX4_then 34 = .ok (.invokevirtual 152, 3) := by decide +kernel
theorem dX4_then_37 : decode cX4_then 37 = .ok (.aload_n 0, 1) := by decide +kernel
theorem dX4_then_38 : decode cX4_then 38 = .ok (.getfield 19, 3) := by decide +kernel
theorem dX4_then_41 : decode cX4_then 41 = .ok (.iload_n 1, 1) := by decide +kernel
theorem dX4_then_42 : decode cX4_then 42 = .ok (.invokevirtual 148, 3) := by decide +kernel
theorem dX4_then_45 : decode cX4_then 45 = .ok (.iload_n 2, 1) := by decide +kernel
theorem dX4_then_46 : decode cX4_then 46 = .ok (.ifCond .ne 13, 3) := by decide +kernel
theorem dX4_then_49 : decode cX4_then 49 = .ok (.aload_n 0, 1) := by decide +kernel
theorem dX4_then_50 : decode cX4_then 50 = .ok (.getfield 19, 3) := by decide +kernel
theorem dX4_then_53 : decode cX4_then 53 = .ok (.invokevirtual 94, 3) := by decide +kernel
theorem dX4_then_56 : decode cX4_then 56 = .ok (.goto 10, 3) := by decide +kernel
theorem dX4_then_59 : decode cX4_then 59 = .ok (.aload_n 0, 1) := by decide +kernel
theorem dX4_then_60 : decode cX4_then 60 = .ok (.getfield 19, 3) := by decide +kernel
theorem dX4_then_63 : decode cX4_then 63 = .ok (.invokevirtual 98, 3) := by decide +kernel
theorem dX4_then_66 : decode cX4_then 66 = .ok (.ireturn, 1) := by decide +kernel
theorem dX4_leaves_0 : decode cX4_leaves 0 = .ok (.aload_n 0, 1) := by decide +kernel
theorem dX4_leaves_1 : decode cX4_leaves 1 = .ok (.getfield 10, 3) := by decide +kernel
theorem dX4_leaves_4 : decode cX4_leaves 4 = .ok (.iload_n 1, 1) := by decide +kernel
theorem dX4_leaves_5 : decode cX4_leaves 5 = .ok (.invokevirtual 111, 3) := by decide +kernel
theorem dX4_leaves_8 : decode cX4_leaves 8 = .ok (.ifCond .ne 10, 3) := by decide +kernel
theorem dX4_leaves_11 : decode cX4_leaves 11 = .ok (.aload_n 0, 1) := by decide +kernel
theorem dX4_leaves_12 : decode cX4_leaves 12 = .ok (.ldc 52, 2) := by decide +kernel
theorem dX4_leaves_14 : decode cX4_leaves 14 = .ok (.invokevirtual 53, 3) := by decide +kernel
theorem dX4_leaves_17 : decode cX4_leaves 17 = .ok (.ireturn, 1) := by decide +kernel
theorem dX4_leaves_18 : decode cX4_leaves 18 = .ok (.aload_n 0, 1) := by decide +kernel
theorem dX4_leaves_19 : decode cX4_leaves 19 = .ok (.getfield 19, 3) := by decide +kernel
theorem dX4_leaves_22 : decode cX4_leaves 22 = .ok (.aload_n 0, 1) := by decide +kernel
theorem dX4_leaves_23 : decode cX4_leaves 23 = .ok (.getfield 10, 3) := by decide +kernel
theorem dX4_leaves_26 : decode cX4_leaves 26 = .ok (.invokevirtual 152, 3) := by decide +kernel
theorem dX4_leaves_29 : decode cX4_leaves 29 = .ok (.iconst 1, 1) := by decide +kernel
theorem dX4_leaves_30 : decode cX4_leaves 30 = .ok (.istore_n 2, 1) := by decide +kernel
theorem dX4_leaves_31 : decode cX4_leaves 31 = .ok (.iload_n 2, 1) := by decide +kernel
theorem dX4_leaves_32 : decode cX4_leaves 32 = .ok (.bipush 100, 2) := by decide +kernel
theorem dX4_leaves_34 : decode cX4_leaves 34 = .ok (.if_icmp .gt 49, 3) := by decide +kernel
theorem dX4_leaves_37 : decode cX4_leaves 37 = .ok (.aload_n 0, 1) := by decide +kernel
theorem dX4_leaves_38 : decode cX4_leaves 38 = .ok (.getfield 19, 3) := by decide +kernel
theorem dX4_leaves_41 : decode cX4_leaves 41 = .ok (.iload_n 2, 1) := by decide +kernel
theorem dX4_leaves_42 : decode cX4_leaves 42 = .ok (.iconst 1, 1) := by decide +kernel
theorem dX4_leaves_43 : decode cX4_leaves 43 = .ok (.if_icmp .ne 7, 3) := by decide +kernel
theorem dX4_leaves_46 : decode cX4_leaves 46 = .ok (.iconst 1, 1) := by decide +kernel
theorem dX4_leaves_47 : decode cX4_leaves 47 = .ok (.goto 4, 3) := by decide +kernel
theorem dX4_leaves_50 : decode cX4_leaves 50 = .ok (.iconst 0, 1) := by decide +kernel
theorem dX4_leaves_51 : decode cX4_leaves 51 = .ok (.invokevirtual 156, 3) := by decide +kernel
theorem dX4_leaves_54 : decode cX4_leaves 54 = .ok (.aload_n 0, 1) := by decide +kernel
theorem dX4_leaves_55 : decode cX4_leaves 55 = .ok (.getfield 19, 3) := by decide +kernel
theorem dX4_leaves_58 : decode cX4_leaves 58 = .ok (.getfield 120, 3) := by decide +kernel
theorem dX4_leaves_61 : decode cX4_leaves 61 = .ok (.iload_n 1, 1) := by decide +kernel
theorem dX4_leaves_62 : decode cX4_leaves 62 = .ok (.iaload, 1) := by decide +kernel
theorem dX4_leaves_63 : decode cX4_leaves 63 = .ok (.aload_n 0, 1) := by decide +kernel
theorem dX4_leaves_64 : decode cX4_leaves 64 = .ok (.getfield 10, 3) := by decide +kernel
theorem dX4_leaves_67 : decode cX4_leaves 67 = .ok (.getfield 120, 3) := by decide +kernel
theorem dX4_leaves_70 : decode cX4_leaves 70 = .ok (.iload_n 1, 1) := by decide +kernel
theorem dX4_leaves_71 : decode cX4_leaves 71 = .ok (.iaload, 1) := by decide +kernel
theorem dX4_leaves_72 : decode cX4_leaves 72 = .ok (.if_icmp .eq 5, 3) := by decide +kernel
theorem dX4_leaves_75 : decode cX4_leaves 75 = .ok (.iload_n 2, 1) := by decide +kernel
theorem dX4_leaves_76 : decode cX4_leaves 76 = .ok (.ireturn, 1) := by decide +kernel
theorem dX4_leaves_77 : decode cX4_leaves 77 = .ok (.iinc 2 1, 3) := by decide +kernel
theorem dX4_leaves_80 : decode cX4_leaves 80 = .ok (.goto (-49), 3) := by decide +kernel
theorem dX4_leaves_83 : decode cX4_leaves 83 = .ok (.aload_n 0, 1) := by decide +kernel
theorem dX4_leaves_84 : decode cX4_leaves 84 = .ok (.ldc 160, 2) := by decide +kernel
theorem dX4_leaves_86 : decode cX4_leaves 86 = .ok (.invokevirtual 53, 3) := by decide +kernel
theorem dX4_leaves_89 : decode cX4_leaves 89 = .ok (.ireturn, 1) := by decide +kernel
theorem dX4_tame_0 : decode cX4_tame 0 = .ok (.aload_n 0, 1) := by decide +kernel
theorem dX4_tame_1 : decode cX4_tame 1 = .ok (.getfield 10, 3) := by decide +kernel
theorem dX4_tame_4 : decode cX4_tame 4 = .ok (.iload_n 1, 1) := by decide +kernel
theorem dX4_tame_5 : decode cX4_tame 5 = .ok (.invokevirtual 111, 3) := by decide +kernel
theorem dX4_tame_8 : decode cX4_tame 8 = .ok (.ifCond .eq 10, 3) := by decide +kernel
theorem dX4_tame_11 : decode cX4_tame 11 = .ok (.iload_n 2, 1) := by decide +kernel
theorem dX4_tame_12 : decode cX4_tame 12 = .ok (.invokestatic 75, 3) := by decide +kernel
theorem dX4_tame_15 : decode cX4_tame 15 = .ok (.ifCond .ne 10, 3) := by decide +kernel
theorem dX4_tame_18 : decode cX4_tame 18 = .ok (.aload_n 0, 1) := by decide +kernel
theorem dX4_tame_19 : decode cX4_tame 19 = .ok (.ldc 52, 2) := by decide +kernel
theorem dX4_tame_21 : decode cX4_tame 21 = .ok (.invokevirtual 53, 3) := by decide +kernel
theorem dX4_tame_24 : decode cX4_tame 24 = .ok (.ireturn, 1) := by decide +kernel
theorem dX4_tame_25 : decode cX4_tame 25 = .ok (.iconst (-1), 1) := by decide +kernel
theorem dX4_tame_26 : decode cX4_tame 26 = .ok (.istore_n 3, 1) := by decide +kernel
theorem dX4_tame_27 : decode cX4_tame 27 = .ok (.iconst 0, 1) := by decide +kernel
theorem dX4_tame_28 : decode cX4_tame 28 = .ok (.istore 4, 2) := by decide +kernel
theorem dX4_tame_30 : decode cX4_tame 30 = .ok (.aload_n 0, 1) := by decide +kernel
theorem dX4_tame_31 : decode cX4_tame 31 = .ok (.getfield 19, 3) := by decide +kernel
theorem dX4_tame_34 : decode cX4_tame 34 = .ok (.aload_n 0, 1) := by decide +kernel
theorem dX4_tame_35 : decode cX4_tame 35 = .ok (.getfield 10, 3) := by decide +kernel
theorem dX4_tame_38 : decode cX4_tame 38 = .ok (.invokevirtual 152, 3) := by decide +kernel
theorem dX4_tame_41 : decode cX4_tame 41 = .ok (.iconst 0, 1) := by decide +kernel
theorem dX4_tame_42 : decode cX4_tame 42 = .ok (.istore 5, 2) := by decide +kernel
theorem dX4_tame_44 : decode cX4_tame 44 = .ok (.iload 5, 2) := by decide +kernel
theorem dX4_tame_46 : decode cX4_tame 46 = .ok (.bipush 20, 2) := by decide +kernel
theorem dX4_tame_48 : decode cX4_tame 48 = .ok (.if_icmp .ge 94, 3) := by decide +kernel
theorem dX4_tame_51 : decode cX4_tame 51 = .ok (.aload_n 0, 1) := by decide +kernel
theorem dX4_tame_52 : decode cX4_tame 52 = .ok (.getfield 10, 3) := by decide +kernel
theorem dX4_tame_55 : decode cX4_tame 55 = .ok (.getfield 57, 3) := by decide +kernel
theorem dX4_tame_58 : decode cX4_tame 58 = .ok (.iload_n 2, 1) := by decide +kernel
theorem dX4_tame_59 : decode cX4_tame 59 = .ok (.iload 5, 2) := by decide +kernel
theorem dX4_tame_61 : decode cX4_tame 61 = .ok (.invokestatic 60, 3) := by decide +kernel
theorem dX4_tame_64 : decode cX4_tame 64 = .ok (.iaload, 1) := by decide +kernel
theorem dX4_tame_65 : decode cX4_tame 65 = .ok (.ifCond .ne 71, 3) := by decide +kernel
theorem dX4_tame_68 : decode cX4_tame 68 = .ok (.aload_n 0, 1) := by decide +kernel
theorem dX4_tame_69 : decode cX4_tame 69 = .ok (.getfield 19, 3) := by decide +kernel
theorem dX4_tame_72 : decode cX4_tame 72 = .ok (.iload_n 2, 1) := by decide +kernel
theorem dX4_tame_73 : decode cX4_tame 73 = .ok (.iload 5, 2) := by decide +kernel
theorem dX4_tame_75 : decode cX4_tame 75 = .ok (.iconst 1, 1) := by decide +kernel
theorem dX4_tame_76 : decode cX4_tame 76 = .ok (.invokevirtual 64, 3) := by decide +kernel
theorem dX4_tame_79 : decode cX4_tame 79 = .ok (.aload_n 0, 1) := by decide +kernel
theorem dX4_tame_80 : decode cX4_tame 80 = .ok (.getfield 19, 3) := by decide +kernel
theorem dX4_tame_83 : decode cX4_tame 83 = .ok (.aload_n 0, 1) := by decide +kernel
theorem dX4_tame_84 : decode cX4_tame 84 = .ok (.getfield 10, 3) := by decide +kernel
theorem dX4_tame_87 : decode cX4_tame 87 = .ok (.getfield 114, 3) := by decide +kernel
theorem dX4_tame_90 : decode cX4_tame 90 = .ok (.iload_n 1, 1) := by decide +kernel
theorem dX4_tame_91 : decode cX4_tame 91 = .ok (.iaload, 1) := by decide +kernel
theorem dX4_tame_92 : decode cX4_tame 92 = .ok (.aload_n 0, 1) := by decide +kernel
theorem dX4_tame_93 : decode cX4_tame 93 = .ok (.getfield 10, 3) := by decide +kernel
theorem dX4_tame_96 : decode cX4_tame 96 = .ok (.getfield 117, 3) := by decide +kernel
theorem dX4_tame_99 : decode cX4_tame 99 = .ok (.iload_n 1, 1) := by decide +kernel
theorem dX4_tame_100 : decode cX4_tame 100 = .ok (.iaload, 1) := by decide +kernel
theorem dX4_tame_101 : decode cX4_tame 101 = .ok (.iload_n 2, 1) := by decide +kernel
theorem dX4_tame_102 : decode cX4_tame 102 = .ok (.invokevirtual 161, 3) := by decide +kernel
theorem dX4_tame_105 : decode cX4_tame 105 = .ok (.istore 6, 2) := by decide +kernel
theorem dX4_tame_107 : decode cX4_tame 107 = .ok (.aload_n 0, 1) := by decide +kernel
theorem dX4_tame_108 : decode cX4_tame 108 = .ok (.getfield 19, 3) := by decide +kernel
theorem dX4_tame_111 : decode cX4_tame 111 = .ok (.iload_n 2, 1) := by decide +kernel
theorem dX4_tame_112 : decode cX4_tame 112 = .ok (.iload 5, 2) := by decide +kernel
theorem dX4_tame_114 : decode cX4_tame 114 = .ok (.iconst 0, 1) := by decide +kernel
theorem dX4_tame_115 : decode cX4_tame 115 = .ok (.invokevirtual 64, 3) := by decide +kernel
theorem dX4_tame_118 : decode cX4_tame 118 = .ok (.iload_n 3, 1) := by decide +kernel
theorem dX4_tame_119 : decode cX4_tame 119 = .ok (.ifCond .lt 10, 3) := by decide +kernel
theorem dX4_tame_122 : decode cX4_tame 122 = .ok (.iload 6, 2) := by decide +kernel
theorem dX4_tame_124 : decode cX4_tame 124 = .ok (.iload 4, 2) := by decide +kernel
theorem dX4_tame_126 : decode cX4_tame 126 = .ok (.if_icmp .ge 10, 3) := by decide +kernel
theorem dX4_tame_129 : decode cX4_tame 129 = .ok (.iload 5, 2) := by decide +kernel
theorem dX4_tame_131 : decode cX4_tame 131 = .ok (.istore_n 3, 1) := by decide +kernel
theorem dX4_tame_132 : decode cX4_tame 132 = .ok (.iload 6, 2) := by decide +kernel
theorem dX4_tame_134 : decode cX4_tame 134 = .ok (.istore 4, 2) := by decide +kernel
theorem dX4_tame_136 : decode cX4_tame 136 = .ok (.iinc 5 1, 3) := by decide +kernel
theorem dX4_tame_139 : decode cX4_tame 139 = .ok (.goto (-95), 3) := by decide +kernel
theorem dX4_tame_142 : decode cX4_tame 142 = .ok (.iload_n 3, 1) := by decide +kernel
theorem dX4_tame_143 : decode cX4_tame 143 = .ok (.ifCond .ge 12, 3) := by decide +kernel
theorem dX4_tame_146 : decode cX4_tame 146 = .ok (.aload_n 0, 1) := by decide +kernel
theorem dX4_tame_147 : decode cX4_tame 147 = .ok (.ldc 160, 2) := by decide +kernel
theorem dX4_tame_149 : decode cX4_tame 149 = .ok (.invokevirtual 53, 3) := by decide +kernel
theorem dX4_tame_152 : decode cX4_tame 152 = .ok (.goto 4, 3) := by decide +kernel
theorem dX4_tame_155 : decode cX4_tame 155 = .ok (.iload_n 3, 1) := by decide +kernel
theorem dX4_tame_156 : decode cX4_tame 156 = .ok (.ireturn, 1) := by decide +kernel
theorem dX4_clear_0 : decode cX4_clear 0 = .ok (.iload_n 1, 1) := by decide +kernel
theorem dX4_clear_1 : decode cX4_clear 1 = .ok (.invokestatic 75, 3) := by decide +kernel
theorem dX4_clear_4 : decode cX4_clear 4 = .ok (.ifCond .eq 13, 3) := by decide +kernel
theorem dX4_clear_7 : decode cX4_clear 7 = .ok (.iload_n 2, 1) := by decide +kernel
theorem dX4_clear_8 : decode cX4_clear 8 = .ok (.iconst 0, 1) := by decide +kernel
theorem dX4_clear_9 : decode cX4_clear 9 = .ok (.bipush 20, 2) := by decide +kernel
theorem dX4_clear_11 : decode cX4_clear 11 = .ok (.invokestatic 48, 3) := by decide +kernel
theorem dX4_clear_14 : decode cX4_clear 14 = .ok (.ifCond .ne 10, 3) := by decide +kernel
theorem dX4_clear_17 : decode cX4_clear 17 = .ok (.aload_n 0, 1) := by decide +kernel
theorem dX4_clear_18 : decode cX4_clear 18 = .ok (.ldc 52, 2) := by decide +kernel
theorem dX4_clear_20 : decode cX4_clear 20 = .ok (.invokevirtual 53, 3) := by decide +kernel
theorem dX4_clear_23 : decode cX4_clear 23 = .ok (.ireturn, 1) := by decide +kernel
theorem dX4_clear_24 : decode cX4_clear 24 = .ok (.iconst (-1), 1) := by decide +kernel
theorem dX4_clear_25 : decode cX4_clear 25 = .ok (.istore_n 3, 1) := by decide +kernel
theorem dX4_clear_26 : decode cX4_clear 26 = .ok (.iconst 0, 1) := by decide +kernel
theorem dX4_clear_27 : decode cX4_clear 27 = .ok (.istore 4, 2) := by decide +kernel
theorem dX4_clear_29 : decode cX4_clear 29 = .ok (.iconst 0, 1) := by decide +kernel
theorem dX4_clear_30 : decode cX4_clear 30 = .ok (.istore 5, 2) := by decide +kernel
theorem dX4_clear_32 : decode cX4_clear 32 = .ok (.iload 5, 2) := by decide +kernel
theorem dX4_clear_34 : decode cX4_clear 34 = .ok (.bipush 20, 2) := by decide +kernel
theorem dX4_clear_36 : decode cX4_clear 36 = .ok (.if_icmp .ge 83, 3) := by decide +kernel
theorem dX4_clear_39 : decode cX4_clear 39 = .ok (.aload_n 0, 1) := by decide +kernel
theorem dX4_clear_40 : decode cX4_clear 40 = .ok (.getfield 10, 3) := by decide +kernel
theorem dX4_clear_43 : decode cX4_clear 43 = .ok (.getfield 57, 3) := by decide +kernel
theorem dX4_clear_46 : decode cX4_clear 46 = .ok (.iload_n 1, 1) := by decide +kernel
theorem dX4_clear_47 : decode cX4_clear 47 = .ok (.iload 5, 2) := by decide +kernel
theorem dX4_clear_49 : decode cX4_clear 49 = .ok (.invokestatic 60, 3) := by decide +kernel
theorem dX4_clear_52 : decode cX4_clear 52 = .ok (.iaload, 1) := by decide +kernel
theorem dX4_clear_53 : decode cX4_clear 53 = .ok (.ifCond .eq 60, 3) := by decide +kernel
theorem dX4_clear_56 : decode cX4_clear 56 = .ok (.aload_n 0, 1) := by decide +kernel
theorem dX4_clear_57 : decode cX4_clear 57 = .ok (.getfield 19, 3) := by decide +kernel
theorem dX4_clear_60 : decode cX4_clear 60 = .ok (.aload_n 0, 1) := by decide +kernel
theorem dX4_clear_61 : decode cX4_clear 61 = .ok (.getfield 10, 3) := by decide +kernel
theorem dX4_clear_64 : decode cX4_clear 64 = .ok (.invokevirtual 152, 3) := by decide +kernel
theorem dX4_clear_67 : decode cX4_clear 67 = .ok (.aload_n 0, 1) := by decide +kernel
theorem dX4_clear_68 : decode cX4_clear 68 = .ok (.getfield 19, 3) := by decide +kernel
theorem dX4_clear_71 : decode cX4_clear 71 = .ok (.iload_n 1, 1) := by decide +kernel
theorem dX4_clear_72 : decode cX4_clear 72 = .ok (.iload 5, 2) := by decide +kernel
theorem dX4_clear_74 : decode cX4_clear 74 = .ok (.iconst 0, 1) := by decide +kernel
theorem dX4_clear_75 : decode cX4_clear 75 = .ok (.invokevirtual 64, 3) := by decide +kernel
theorem dX4_clear_78 : decode cX4_clear 78 = .ok (.aload_n 0, 1) := by decide +kernel
theorem dX4_clear_79 : decode cX4_clear 79 = .ok (.getfield 19, 3) := by decide +kernel
theorem dX4_clear_82 : decode cX4_clear 82 = .ok (.iload_n 2, 1) := by decide +kernel
theorem dX4_clear_83 : decode cX4_clear 83 = .ok (.invokevirtual 148, 3) := by decide +kernel
theorem dX4_clear_86 : decode cX4_clear 86 = .ok (.aload_n 0, 1) := by decide +kernel
theorem dX4_clear_87 : decode cX4_clear 87 = .ok (.getfield 19, 3) := by decide +kernel
theorem dX4_clear_90 : decode cX4_clear 90 = .ok (.invokevirtual 94, 3) := by decide +kernel
theorem dX4_clear_93 : decode cX4_clear 93 = .ok (.istore 6, 2) := by decide +kernel
theorem dX4_clear_95 : decode cX4_clear 95 = .ok (.iload_n 3, 1) := by decide +kernel
theorem dX4_clear_96 : decode cX4_clear 96 = .ok (.ifCond .lt 10, 3) := by decide +kernel
theorem dX4_clear_99 : decode cX4_clear 99 = .ok (.iload 6, 2) := by decide +kernel
theorem dX4_clear_101 : decode cX4_clear 101 = .ok (.iload 4, 2) := by decide +kernel
theorem dX4_clear_103 : decode cX4_clear 103 = .ok (.if_icmp .ge 10, 3) := by decide +kernel
theorem dX4_clear_106 : decode cX4_clear 106 = .ok (.iload 5, 2) := by decide +kernel
theorem dX4_clear_108 : decode cX4_clear 108 = .ok (.istore_n 3, 1) := by decide +kernel
theorem dX4_clear_109 : decode cX4_clear 109 = .ok (.iload 6, 2) := by decide +kernel
theorem dX4_clear_111 : decode cX4_clear 111 = .ok (.istore 4, 2) := by decide +kernel
theorem dX4_clear_113 : decode cX4_clear 113 = .ok (.iinc 5 1, 3) := by decide +kernel
theorem dX4_clear_116 : decode cX4_clear 116 = .ok (.goto (-84), 3) := by decide +kernel
theorem dX4_clear_119 : decode cX4_clear 119 = .ok (.iload_n 3, 1) := by decide +kernel
theorem dX4_clear_120 : decode cX4_clear 120 = .ok (.ifCond .ge 12, 3) := by decide +kernel
theorem dX4_clear_123 : decode cX4_clear 123 = .ok (.aload_n 0, 1) := by decide +kernel
theorem dX4_clear_124 : decode cX4_clear 124 = .ok (.ldc 160, 2) := by decide +kernel
theorem dX4_clear_126 : decode cX4_clear 126 = .ok (.invokevirtual 53, 3) := by decide +kernel
theorem dX4_clear_129 : decode cX4_clear 129 = .ok (.goto 4, 3) := by decide +kernel
theorem dX4_clear_132 : decode cX4_clear 132 = .ok (.iload_n 3, 1) := by decide +kernel
theorem dX4_clear_133 : decode cX4_clear 133 = .ok (.ireturn, 1) := by decide +kernel
theorem dX4_lower_0 : decode cX4_lower 0 = .ok (.iload_n 1, 1) := by decide +kernel
theorem dX4_lower_1 : decode cX4_lower 1 = .ok (.iconst 0, 1) := by decide +kernel
theorem dX4_lower_2 : decode cX4_lower 2 = .ok (.bipush 20, 2) := by decide +kernel
theorem dX4_lower_4 : decode cX4_lower 4 = .ok (.invokestatic 48, 3) := by decide +kernel
theorem dX4_lower_7 : decode cX4_lower 7 = .ok (.ifCond .eq 13, 3) := by decide +kernel
theorem dX4_lower_10 : decode cX4_lower 10 = .ok (.iload_n 2, 1) := by decide +kernel
theorem dX4_lower_11 : decode cX4_lower 11 = .ok (.iconst 0, 1) := by decide +kernel
theorem dX4_lower_12 : decode cX4_lower 12 = .ok (.ldc 164, 2) := by decide +kernel
theorem dX4_lower_14 : decode cX4_lower 14 = .ok (.invokestatic 48, 3) := by decide +kernel
theorem dX4_lower_17 : decode cX4_lower 17 = .ok (.ifCond .ne 10, 3) := by decide +kernel
theorem dX4_lower_20 : decode cX4_lower 20 = .ok (.aload_n 0, 1) := by decide +kernel
theorem dX4_lower_21 : decode cX4_lower 21 = .ok (.ldc 52, 2) := by decide +kernel
theorem dX4_lower_23 : decode cX4_lower 23 = .ok (.invokevirtual 53, 3) := by decide +kernel
theorem dX4_lower_26 : decode cX4_lower 26 = .ok (.ireturn, 1) := by decide +kernel
theorem dX4_lower_27 : decode cX4_lower 27 = .ok (.bipush 6, 2) := by decide +kernel
theorem dX4_lower_29 : decode cX4_lower 29 = .ok (.istore_n 3, 1) := by decide +kernel
theorem dX4_lower_30 : decode cX4_lower 30 = .ok (.iload_n 3, 1) := by decide +kernel
theorem dX4_lower_31 : decode cX4_lower 31 = .ok (.iconst 1, 1) := by decide +kernel
theorem dX4_lower_32 : decode cX4_lower 32 = .ok (.if_icmp .lt 49, 3) := by decide +kernel
theorem dX4_lower_35 : decode cX4_lower 35 = .ok (.aload_n 0, 1) := by decide +kernel
theorem dX4_lower_36 : decode cX4_lower 36 = .ok (.getfield 19, 3) := by decide +kernel
theorem dX4_lower_39 : decode cX4_lower 39 = .ok (.aload_n 0, 1) := by decide +kernel
theorem dX4_lower_40 : decode cX4_lower 40 = .ok (.getfield 10, 3) := by decide +kernel
theorem dX4_lower_43 : decode cX4_lower 43 = .ok (.invokevirtual 152, 3) := by decide +kernel
theorem dX4_lower_46 : decode cX4_lower 46 = .ok (.aload_n 0, 1) := by decide +kernel
theorem dX4_lower_47 : decode cX4_lower 47 = .ok (.getfield 19, 3) := by decide +kernel
theorem dX4_lower_50 : decode cX4_lower 50 = .ok (.iload_n 3, 1) := by decide +kernel
theorem dX4_lower_51 : decode cX4_lower 51 = .ok (.putfield 71, 3) := by decide +kernel
theorem dX4_lower_54 : decode cX4_lower 54 = .ok (.aload_n 0, 1) := by decide +kernel
theorem dX4_lower_55 : decode cX4_lower 55 = .ok (.getfield 19, 3) := by decide +kernel
theorem dX4_lower_58 : decode cX4_lower 58 = .ok (.iload_n 1, 1) := by decide +kernel
theorem dX4_lower_59 : decode cX4_lower 59 = .ok (.invokevirtual 148, 3) := by decide +kernel
theorem dX4_lower_62 : decode cX4_lower 62 = .ok (.aload_n 0, 1) := by decide +kernel
theorem dX4_lower_63 : decode cX4_lower 63 = .ok (.getfield 19, 3) := by decide +kernel
theorem dX4_lower_66 : decode cX4_lower 66 = .ok (.invokevirtual 94, 3) := by decide +kernel
theorem dX4_lower_69 : decode cX4_lower 69 = .ok (.iload_n 2, 1) := by decide +kernel
theorem dX4_lower_70 : decode cX4_lower 70 = .ok (.if_icmp .gt 5, 3) := by decide +kernel
theorem dX4_lower_73 : decode cX4_lower 73 = .ok (.iload_n 3, 1) := by decide +kernel
theorem dX4_lower_74 : decode cX4_lower 74 = .ok (.ireturn, 1) := by decide +kernel
theorem dX4_lower_75 : decode cX4_lower 75 = .ok (.iinc 3 (-1), 3) := by decide +kernel
theorem dX4_lower_78 : decode cX4_lower 78 = .ok (.goto (-48), 3) := by decide +kernel
theorem dX4_lower_81 : decode cX4_lower 81 = .ok (.aload_n 0, 1) := by decide +kernel
theorem dX4_lower_82 : decode cX4_lower 82 = .ok (.ldc 160, 2) := by decide +kernel
theorem dX4_lower_84 : decode cX4_lower 84 = .ok (.invokevirtual 53, 3) := by decide +kernel
theorem dX4_lower_87 : decode cX4_lower 87 = .ok (.ireturn, 1) := by decide +kernel
theorem dX4_kind_0 : decode cX4_kind 0 = .ok (.aload_n 0, 1) := by decide +kernel
theorem dX4_kind_1 : decode cX4_kind 1 = .ok (.getfield 10, 3) := by decide +kernel
theorem dX4_kind_4 : decode cX4_kind 4 = .ok (.iload_n 1, 1) := by decide +kernel
theorem dX4_kind_5 : decode cX4_kind 5 = .ok (.invokevirtual 111, 3) := by decide +kernel
theorem dX4_kind_8 : decode cX4_kind 8 = .ok (.ifCond .eq 10, 3) := by decide +kernel
theorem dX4_kind_11 : decode cX4_kind 11 = .ok (.iload_n 2, 1) := by decide +kernel
theorem dX4_kind_12 : decode cX4_kind 12 = .ok (.invokestatic 75, 3) := by decide +kernel
theorem dX4_kind_15 : decode cX4_kind 15 = .ok (.ifCond .ne 10, 3) := by decide +kernel
theorem dX4_kind_18 : decode cX4_kind 18 = .ok (.aload_n 0, 1) := by decide +kernel
theorem dX4_kind_19 : decode cX4_kind 19 = .ok (.ldc 52, 2) := by decide +kernel
theorem dX4_kind_21 : decode cX4_kind 21 = .ok (.invokevirtual 53, 3) := by decide +kernel
theorem dX4_kind_24 : decode cX4_kind 24 = .ok (.ireturn, 1) := by decide +kernel
theorem dX4_kind_25 : decode cX4_kind 25 = .ok (.iconst 0, 1) := by decide +kernel
theorem dX4_kind_26 : decode cX4_kind 26 = .ok (.istore_n 3, 1) := by decide +kernel
theorem dX4_kind_27 : decode cX4_kind 27 = .ok (.aload_n 0, 1) := by decide +kernel
theorem dX4_kind_28 : decode cX4_kind 28 = .ok (.getfield 10, 3) := by decide +kernel
theorem dX4_kind_31 : decode cX4_kind 31 = .ok (.iconst 0, 1) := by decide +kernel
theorem dX4_kind_32 : decode cX4_kind 32 = .ok (.aload_n 0, 1) := by decide +kernel
theorem dX4_kind_33 : decode cX4_kind 33 = .ok (.getfield 10, 3) := by decide +kernel
theorem dX4_kind_36 : decode cX4_kind 36 = .ok (.getfield 117, 3) := by decide +kernel
theorem dX4_kind_39 : decode cX4_kind 39 = .ok (.iload_n 1, 1) := by decide +kernel
theorem dX4_kind_40 : decode cX4_kind 40 = .ok (.iaload, 1) := by decide +kernel
theorem dX4_kind_41 : decode cX4_kind 41 = .ok (.iload_n 2, 1) := by decide +kernel
theorem dX4_kind_42 : decode cX4_kind 42 = .ok (.invokevirtual 128, 3) := by decide +kernel
theorem dX4_kind_45 : decode cX4_kind 45 = .ok (.istore 4, 2) := by decide +kernel
theorem dX4_kind_47 : decode cX4_kind 47 = .ok (.iconst 1, 1) := by decide +kernel
theorem dX4_kind_48 : decode cX4_kind 48 = .ok (.istore 5, 2) := by decide +kernel
theorem dX4_kind_50 : decode cX4_kind 50 = .ok (.iload 5, 2) := by decide +kernel
theorem dX4_kind_52 : decode cX4_kind 52 = .ok (.bipush 6, 2) := by decide +kernel
theorem dX4_kind_54 : decode cX4_kind 54 = .ok (.if_icmp .ge 44, 3) := by decide +kernel
theorem dX4_kind_57 : decode cX4_kind 57 = .ok (.aload_n 0, 1) := by decide +kernel
theorem dX4_kind_58 : decode cX4_kind 58 = .ok (.getfield 10, 3) := by decide +kernel
theorem dX4_kind_61 : decode cX4_kind 61 = .ok (.iload 5, 2) := by decide +kernel
theorem dX4_kind_63 : decode cX4_kind 63 = .ok (.aload_n 0, 1) := by decide +kernel
theorem dX4_kind_64 : decode cX4_kind 64 = .ok (.getfield 10, 3) := by decide +kernel
theorem dX4_kind_67 : decode cX4_kind 67 = .ok (.getfield 117, 3) := by decide +kernel
theorem dX4_kind_70 : decode cX4_kind 70 = .ok (.iload_n 1, 1) := by decide +kernel
theorem dX4_kind_71 : decode cX4_kind 71 = .ok (.iaload, 1) := by decide +kernel
theorem dX4_kind_72 : decode cX4_kind 72 = .ok (.iload_n 2, 1) := by decide +kernel
theorem dX4_kind_73 : decode cX4_kind 73 = .ok (.invokevirtual 128, 3) := by decide +kernel
theorem dX4_kind_76 : decode cX4_kind 76 = .ok (.istore 6, 2) := by decide +kernel
theorem dX4_kind_78 : decode cX4_kind 78 = .ok (.iload 6, 2) := by decide +kernel
theorem dX4_kind_80 : decode cX4_kind 80 = .ok (.iload 4, 2) := by decide +kernel
theorem dX4_kind_82 : decode cX4_kind 82 = .ok (.if_icmp .ge 10, 3) := by decide +kernel
theorem dX4_kind_85 : decode cX4_kind 85 = .ok (.iload 5, 2) := by decide +kernel
theorem dX4_kind_87 : decode cX4_kind 87 = .ok (.istore_n 3, 1) := by decide +kernel
theorem dX4_kind_88 : decode cX4_kind 88 = .ok (.iload 6, 2) := by decide +kernel
theorem dX4_kind_90 : decode cX4_kind 90 = .ok (.istore 4, 2) := by decide +kernel
theorem dX4_kind_92 : decode cX4_kind 92 = .ok (.iinc 5 1, 3) := by decide +kernel
theorem dX4_kind_95 : decode cX4_kind 95 = .ok (.goto (-45), 3) := by decide +kernel
theorem dX4_kind_98 : decode cX4_kind 98 = .ok (.iload_n 3, 1) := by decide +kernel
theorem dX4_kind_99 : decode cX4_kind 99 = .ok (.ireturn, 1) := by decide +kernel
theorem dX4_wish_0 : decode cX4_wish 0 = .ok (.aload_n 0, 1) := by decide +kernel
theorem dX4_wish_1 : decode cX4_wish 1 = .ok (.getfield 10, 3) := by decide +kernel
theorem dX4_wish_4 : decode cX4_wish 4 = .ok (.iload_n 1, 1) := by decide +kernel
theorem dX4_wish_5 : decode cX4_wish 5 = .ok (.invokevirtual 111, 3) := by decide +kernel
theorem dX4_wish_8 : decode cX4_wish 8 = .ok (.ifCond .eq 21, 3) := by decide +kernel
theorem dX4_wish_11 : decode cX4_wish 11 = .ok (.iload_n 2, 1) := by decide +kernel
theorem dX4_wish_12 : decode cX4_wish 12 = .ok (.invokestatic 75, 3) := by decide +kernel
theorem dX4_wish_15 : decode cX4_wish 15 = .ok (.ifCond .eq 14, 3) := by decide +kernel
theorem dX4_wish_18 : decode cX4_wish 18 = .ok (.iload_n 3, 1) := by decide +kernel
theorem dX4_wish_19 : decode cX4_wish 19 = .ok (.iconst 0, 1) := by decide +kernel
theorem dX4_wish_20 : decode cX4_wish 20 = .ok (.sipush 9999, 3) := by decide +kernel
theorem dX4_wish_23 : decode cX4_wish 23 = .ok (.invokestatic 48, 3) := by decide +kernel
theorem dX4_wish_26 : decode cX4_wish 26 = .ok (.ifCond .ne 10, 3) := by decide +kernel
theorem dX4_wish_29 : decode cX4_wish 29 = .ok (.aload_n 0, 1) := by decide +kernel
theorem dX4_wish_30 : decode cX4_wish 30 = .ok (.ldc 52, 2) := by decide +kernel
theorem dX4_wish_32 : decode cX4_wish 32 = .ok (.invokevirtual 53, 3) := by decide +kernel
theorem dX4_wish_35 : decode cX4_wish 35 = .ok (.ireturn, 1) := by decide +kernel
theorem dX4_wish_36 : decode cX4_wish 36 = .ok (.aload_n 0, 1) := by decide +kernel
theorem dX4_wish_37 : decode cX4_wish 37 = .ok (.getfield 10, 3) := by decide +kernel
theorem dX4_wish_40 : decode cX4_wish 40 = .ok (.getfield 114, 3) := by decide +kernel
theorem dX4_wish_43 : decode cX4_wish 43 = .ok (.iload_n 1, 1) := by decide +kernel
theorem dX4_wish_44 : decode cX4_wish 44 = .ok (.iaload, 1) := by decide +kernel
theorem dX4_wish_45 : decode cX4_wish 45 = .ok (.istore 4, 2) := by decide +kernel
theorem dX4_wish_47 : decode cX4_wish 47 = .ok (.iconst (-1), 1) := by decide +kernel
theorem dX4_wish_48 : decode cX4_wish 48 = .ok (.istore 5, 2) := by decide +kernel
theorem dX4_wish_50 : decode cX4_wish 50 = .ok (.iconst 0, 1) := by decide +kernel
theorem dX4_wish_51 : decode cX4_wish 51 = .ok (.istore 6, 2) := by decide +kernel
theorem dX4_wish_53 : decode cX4_wish 53 = .ok (.bipush 10, 2) := by decide +kernel
theorem dX4_wish_55 : decode cX4_wish 55 = .ok (.istore 7, 2) := by decide +kernel
theorem dX4_wish_57 : decode cX4_wish 57 = .ok (.iload 7, 2) := by decide +kernel
theorem dX4_wish_59 : decode cX4_wish 59 = .ok (.bipush 80, 2) := by decide +kernel
theorem dX4_wish_61 : decode cX4_wish 61 = .ok (.if_icmp .gt 59, 3) := by decide +kernel
theorem dX4_wish_64 : decode cX4_wish 64 = .ok (.aload_n 0, 1) := by decide +kernel
theorem dX4_wish_65 : decode cX4_wish 65 = .ok (.getfield 10, 3) := by decide +kernel
theorem dX4_wish_68 : decode cX4_wish 68 = .ok (.iload 4, 2) := by decide +kernel
theorem dX4_wish_70 : decode cX4_wish 70 = .ok (.iload 7, 2) := by decide +kernel
theorem dX4_wish_72 : decode cX4_wish 72 = .ok (.iload_n 2, 1) := by decide +kernel
theorem dX4_wish_73 : decode cX4_wish 73 = .ok (.invokevirtual 128, 3) := by decide +kernel
theorem dX4_wish_76 : decode cX4_wish 76 = .ok (.iload_n 3, 1) := by decide +kernel
theorem dX4_wish_77 : decode cX4_wish 77 = .ok (.if_icmp .gt 37, 3) := by decide +kernel
theorem dX4_wish_80 : decode cX4_wish 80 = .ok (.aload_n 0, 1) := by decide +kernel
theorem dX4_wish_81 : decode cX4_wish 81 = .ok (.getfield 10, 3) := by decide +kernel
theorem dX4_wish_84 : decode cX4_wish 84 = .ok (.iload 4, 2) := by decide +kernel
theorem dX4_wish_86 : decode cX4_wish 86 = .ok (.iload 7, 2) := by decide +kernel
theorem dX4_wish_88 : decode cX4_wish 88 = .ok (.iload_n 2, 1) := by decide +kernel
theorem dX4_wish_89 : decode cX4_wish 89 = .ok (.invokevirtual 132, 3) := by decide +kernel
theorem dX4_wish_92 : decode cX4_wish 92 = .ok (.istore 8, 2) := by decide +kernel
theorem dX4_wish_94 : decode cX4_wish 94 = .ok (.iload 5, 2) := by decide +kernel
theorem dX4_wish_96 : decode cX4_wish 96 = .ok (.ifCond .lt 10, 3) := by decide +kernel
theorem dX4_wish_99 : decode cX4_wish 99 = .ok (.iload 8, 2) := by decide +kernel
theorem dX4_wish_101 : decode cX4_wish 101 = .ok (.iload 6, 2) := by decide +kernel
theorem dX4_wish_103 : decode cX4_wish 103 = .ok (.if_icmp .ge 11, 3) := by decide +kernel
theorem dX4_wish_106 : decode cX4_wish 106 = .ok (.iload 7, 2) := by decide +kernel
theorem dX4_wish_108 : decode cX4_wish 108 = .ok (.istore 5, 2) := by decide +kernel
theorem dX4_wish_110 : decode cX4_wish 110 = .ok (.iload 8, 2) := by decide +kernel
theorem dX4_wish_112 : decode cX4_wish 112 = .ok (.istore 6, 2) := by decide +kernel
theorem dX4_wish_114 : decode cX4_wish 114 = .ok (.iinc 7 1, 3) := by decide +kernel
theorem dX4_wish_117 : decode cX4_wish 117 = .ok (.goto (-60), 3) := by decide +kernel
theorem dX4_wish_120 : decode cX4_wish 120 = .ok (.iload 5, 2) := by decide +kernel
theorem dX4_wish_122 : decode cX4_wish 122 = .ok (.ifCond .ge 12, 3) := by decide +kernel
theorem dX4_wish_125 : decode cX4_wish 125 = .ok (.aload_n 0, 1) := by decide +kernel
theorem dX4_wish_126 : decode cX4_wish 126 = .ok (.ldc 160, 2) := by decide +kernel
theorem dX4_wish_128 : decode cX4_wish 128 = .ok (.invokevirtual 53, 3) := by decide +kernel
theorem dX4_wish_131 : decode cX4_wish 131 = .ok (.goto 5, 3) := by decide +kernel
theorem dX4_wish_134 : decode cX4_wish 134 = .ok (.iload 5, 2) := by decide +kernel
theorem dX4_wish_136 : decode cX4_wish 136 = .ok (.ireturn, 1) := by decide +kernel
theorem dX4_drives_0 : decode cX4_drives 0 = .ok (.iload_n 1, 1) := by decide +kernel
theorem dX4_drives_1 : decode cX4_drives 1 = .ok (.iconst 0, 1) := by decide +kernel
theorem dX4_drives_2 : decode cX4_drives 2 = .ok (.bipush 19, 2) := by decide +kernel
theorem dX4_drives_4 : decode cX4_drives 4 = .ok (.invokestatic 48, 3) := by decide +kernel
theorem dX4_drives_7 : decode cX4_drives 7 = .ok (.ifCond .ne 10, 3) := by decide +kernel
theorem dX4_drives_10 : decode cX4_drives 10 = .ok (.aload_n 0, 1) := by decide +kernel
theorem dX4_drives_11 : decode cX4_drives 11 = .ok (.ldc 52, 2) := by decide +kernel
theorem dX4_drives_13 : decode cX4_drives 13 = .ok (.invokevirtual 53, 3) := by decide +kernel
theorem dX4_drives_16 : decode cX4_drives 16 = .ok (.ireturn, 1) := by decide +kernel
theorem dX4_drives_17 : decode cX4_drives 17 = .ok (.iconst 0, 1) := by decide +kernel
theorem dX4_drives_18 : decode cX4_drives 18 = .ok (.istore_n 2, 1) := by decide +kernel
theorem dX4_drives_19 : decode cX4_drives 19 = .ok (.iconst (-1), 1) := by decide +kernel
theorem dX4_drives_20 : decode cX4_drives 20 = .ok (.istore_n 3, 1) := by decide +kernel
theorem dX4_drives_21 : decode cX4_drives 21 = .ok (.iconst 0, 1) := by decide +kernel
theorem dX4_drives_22 : decode cX4_drives 22 = .ok (.istore 4, 2) := by decide +kernel
theorem dX4_drives_24 : decode cX4_drives 24 = .ok (.iload 4, 2) := by decide +kernel
theorem dX4_drives_26 : decode cX4_drives 26 = .ok (.iconst 3, 1) := by decide +kernel
theorem dX4_drives_27 : decode cX4_drives 27 = .ok (.if_icmp .ge 64, 3) := by decide +kernel
theorem dX4_drives_30 : decode cX4_drives 30 = .ok (.aload_n 0, 1) := by decide +kernel
theorem dX4_drives_31 : decode cX4_drives 31 = .ok (.getfield 19, 3) := by decide +kernel
theorem dX4_drives_34 : decode cX4_drives 34 = .ok (.aload_n 0, 1) := by decide +kernel
theorem dX4_drives_35 : decode cX4_drives 35 = .ok (.getfield 10, 3) := by decide +kernel
theorem dX4_drives_38 : decode cX4_drives 38 = .ok (.invokevirtual 152, 3) := by decide +kernel
theorem dX4_drives_41 : decode cX4_drives 41 = .ok (.aload_n 0, 1) := by decide +kernel
theorem dX4_drives_42 : decode cX4_drives 42 = .ok (.getfield 19, 3) := by decide +kernel
theorem dX4_drives_45 : decode cX4_drives 45 = .ok (.iload 4, 2) := by decide +kernel
theorem dX4_drives_47 : decode cX4_drives 47 = .ok (.iload_n 1, 1) := by decide +kernel
theorem dX4_drives_48 : decode cX4_drives 48 = .ok (.iconst 1, 1) := by decide +kernel
theorem dX4_drives_49 : decode cX4_drives 49 = .ok (.invokevirtual 64, 3) := by decide +kernel
theorem dX4_drives_52 : decode cX4_drives 52 = .ok (.aload_n 0, 1) := by decide +kernel
theorem dX4_drives_53 : decode cX4_drives 53 = .ok (.getfield 19, 3) := by decide +kernel
theorem dX4_drives_56 : decode cX4_drives 56 = .ok (.iconst 1, 1) := by decide +kernel
theorem dX4_drives_57 : decode cX4_drives 57 = .ok (.invokevirtual 148, 3) := by decide +kernel
theorem dX4_drives_60 : decode cX4_drives 60 = .ok (.aload_n 0, 1) := by decide +kernel
theorem dX4_drives_61 : decode cX4_drives 61 = .ok (.getfield 19, 3) := by decide +kernel
theorem dX4_drives_64 : decode cX4_drives 64 = .ok (.aload_n 0, 1) := by decide +kernel
theorem dX4_drives_65 : decode cX4_drives 65 = .ok (.getfield 10, 3) := by decide +kernel
theorem dX4_drives_68 : decode cX4_drives 68 = .ok (.invokevirtual 165, 3) := by decide +kernel
theorem dX4_drives_71 : decode cX4_drives 71 = .ok (.istore 5, 2) := by decide +kernel
theorem dX4_drives_73 : decode cX4_drives 73 = .ok (.iload 5, 2) := by decide +kernel
theorem dX4_drives_75 : decode cX4_drives 75 = .ok (.iload_n 3, 1) := by decide +kernel
theorem dX4_drives_76 : decode cX4_drives 76 = .ok (.if_icmp .le 9, 3) := by decide +kernel
theorem dX4_drives_79 : decode cX4_drives 79 = .ok (.iload 4, 2) := by decide +kernel
theorem dX4_drives_81 : decode cX4_drives 81 = .ok (.istore_n 2, 1) := by decide +kernel
theorem dX4_drives_82 : decode cX4_drives 82 = .ok (.iload 5, 2) := by decide +kernel
theorem dX4_drives_84 : decode cX4_drives 84 = .ok (.istore_n 3, 1) := by decide +kernel
theorem dX4_drives_85 : decode cX4_drives 85 = .ok (.iinc 4 1, 3) := by decide +kernel
theorem dX4_drives_88 : decode cX4_drives 88 = .ok (.goto (-64), 3) := by decide +kernel
theorem dX4_drives_91 : decode cX4_drives 91 = .ok (.iload_n 2, 1) := by decide +kernel
theorem dX4_drives_92 : decode cX4_drives 92 = .ok (.ireturn, 1) := by decide +kernel
theorem dX4_slowest_0 : decode cX4_slowest 0 = .ok (.iconst (-1), 1) := by decide +kernel
theorem dX4_slowest_1 : decode cX4_slowest 1 = .ok (.istore_n 1, 1) := by decide +kernel
theorem dX4_slowest_2 : decode cX4_slowest 2 = .ok (.iconst 0, 1) := by decide +kernel
theorem dX4_slowest_3 : decode cX4_slowest 3 = .ok (.istore_n 2, 1) := by decide +kernel
theorem dX4_slowest_4 : decode cX4_slowest 4 = .ok (.iconst 0, 1) := by decide +kernel
theorem dX4_slowest_5 : decode cX4_slowest 5 = .ok (.istore_n 3, 1) := by decide +kernel
theorem dX4_slowest_6 : decode cX4_slowest 6 = .ok (.iload_n 3, 1) := by decide +kernel
theorem dX4_slowest_7 : decode cX4_slowest 7 = .ok (.aload_n 0, 1) := by decide +kernel
theorem dX4_slowest_8 : decode cX4_slowest 8 = .ok (.getfield 10, 3) := by decide +kernel
theorem dX4_slowest_11 : decode cX4_slowest 11 = .ok (.getfield 104, 3) := by decide +kernel
theorem dX4_slowest_14 : decode cX4_slowest 14 = .ok (.if_icmp .ge 34, 3) := by decide +kernel
theorem dX4_slowest_17 : decode cX4_slowest 17 = .ok (.aload_n 0, 1) := by decide +kernel
theorem dX4_slowest_18 : decode cX4_slowest 18 = .ok (.getfield 10, 3) := by decide +kernel
theorem dX4_slowest_21 : decode cX4_slowest 21 = .ok (.iload_n 3, 1) := by decide +kernel
theorem dX4_slowest_22 : decode cX4_slowest 22 = .ok (.invokevirtual 169, 3) := by decide +kernel
theorem dX4_slowest_25 : decode cX4_slowest 25 = .ok (.istore 4, 2) := by decide +kernel
theorem dX4_slowest_27 : decode cX4_slowest 27 = .ok (.iload_n 1, 1) := by decide +kernel
theorem dX4_slowest_28 : decode cX4_slowest 28 = .ok (.ifCond .lt 9, 3) := by decide +kernel
theorem dX4_slowest_31 : decode cX4_slowest 31 = .ok (.iload 4, 2) := by decide +kernel
theorem dX4_slowest_33 : decode cX4_slowest 33 = .ok (.iload_n 2, 1) := by decide +kernel
theorem dX4_slowest_34 : decode cX4_slowest 34 = .ok (.if_icmp .le 8, 3) := by decide +kernel
theorem dX4_slowest_37 : decode cX4_slowest 37 = .ok (.iload_n 3, 1) := by decide +kernel
theorem dX4_slowest_38 : decode cX4_slowest 38 = .ok (.istore_n 1, 1) := by decide +kernel
theorem dX4_slowest_39 : decode cX4_slowest 39 = .ok (.iload 4, 2) := by decide +kernel
theorem dX4_slowest_41 : decode cX4_slowest 41 = .ok (.istore_n 2, 1) := by decide +kernel
theorem dX4_slowest_42 : decode cX4_slowest 42 = .ok (.iinc 3 1, 3) := by decide +kernel
theorem dX4_slowest_45 : decode cX4_slowest 45 = .ok (.goto (-39), 3) := by decide +kernel
theorem dX4_slowest_48 : decode cX4_slowest 48 = .ok (.iload_n 1, 1) := by decide +kernel
theorem dX4_slowest_49 : decode cX4_slowest 49 = .ok (.ifCond .ge 12, 3) := by decide +kernel
theorem dX4_slowest_52 : decode cX4_slowest 52 = .ok (.aload_n 0, 1) := by decide +kernel
theorem dX4_slowest_53 : decode cX4_slowest 53 = .ok (.ldc 160, 2) := by decide +kernel
theorem dX4_slowest_55 : decode cX4_slowest 55 = .ok (.invokevirtual 53, 3) := by decide +kernel
theorem dX4_slowest_58 : decode cX4_slowest 58 = .ok (.goto 4, 3) := by decide +kernel
theorem dX4_slowest_61 : decode cX4_slowest 61 = .ok (.iload_n 1, 1) := by decide +kernel
theorem dX4_slowest_62 : decode cX4_slowest 62 = .ok (.ireturn, 1) := by decide +kernel
theorem dX4_feed_0 : decode cX4_feed 0 = .ok (.iload_n 2, 1) := by decide +kernel
theorem dX4_feed_1 : decode cX4_feed 1 = .ok (.iconst 1, 1) := by decide +kernel
theorem dX4_feed_2 : decode cX4_feed 2 = .ok (.iconst 4, 1) := by decide +kernel
theorem dX4_feed_3 : decode cX4_feed 3 = .ok (.invokestatic 48, 3) := by decide +kernel
theorem dX4_feed_6 : decode cX4_feed 6 = .ok (.ifCond .ne 10, 3) := by decide +kernel
theorem dX4_feed_9 : decode cX4_feed 9 = .ok (.aload_n 0, 1) := by decide +kernel
theorem dX4_feed_10 : decode cX4_feed 10 = .ok (.ldc 52, 2) := by decide +kernel
theorem dX4_feed_12 : decode cX4_feed 12 = .ok (.invokevirtual 53, 3) := by decide +kernel
theorem dX4_feed_15 : decode cX4_feed 15 = .ok (.ireturn, 1) := by decide +kernel
theorem dX4_feed_16 : decode cX4_feed 16 = .ok (.aload_n 0, 1) := by decide +kernel
theorem dX4_feed_17 : decode cX4_feed 17 = .ok (.getfield 25, 3) := by decide +kernel
theorem dX4_feed_20 : decode cX4_feed 20 = .ok (.getfield 172, 3) := by decide +kernel
theorem dX4_feed_23 : decode cX4_feed 23 = .ok (.iload_n 2, 1) := by decide +kernel
theorem dX4_feed_24 : decode cX4_feed 24 = .ok (.iadd, 1) := by decide +kernel
theorem dX4_feed_25 : decode cX4_feed 25 = .ok (.bipush 120, 2) := by decide +kernel
theorem dX4_feed_27 : decode cX4_feed 27 = .ok (.if_icmp .le 10, 3) := by decide +kernel
theorem dX4_feed_30 : decode cX4_feed 30 = .ok (.aload_n 0, 1) := by decide +kernel
theorem dX4_feed_31 : decode cX4_feed 31 = .ok (.ldc 107, 2) := by decide +kernel
theorem dX4_feed_33 : decode cX4_feed 33 = .ok (.invokevirtual 53, 3) := by decide +kernel
theorem dX4_feed_36 : decode cX4_feed 36 = .ok (.ireturn, 1) := by decide +kernel
theorem dX4_feed_37 : decode cX4_feed 37 = .ok (.aload_n 0, 1) := by decide +kernel
theorem dX4_feed_38 : decode cX4_feed 38 = .ok (.getfield 25, 3) := by decide +kernel
theorem dX4_feed_41 : decode cX4_feed 41 = .ok (.iload_n 1, 1) := by decide +kernel
theorem dX4_feed_42 : decode cX4_feed 42 = .ok (.iload_n 2, 1) := by decide +kernel
theorem dX4_feed_43 : decode cX4_feed 43 = .ok (.invokevirtual 175, 3) := by decide +kernel
theorem dX4_feed_46 : decode cX4_feed 46 = .ok (.aload_n 0, 1) := by decide +kernel
theorem dX4_feed_47 : decode cX4_feed 47 = .ok (.getfield 25, 3) := by decide +kernel
theorem dX4_feed_50 : decode cX4_feed 50 = .ok (.getfield 172, 3) := by decide +kernel
theorem dX4_feed_53 : decode cX4_feed 53 = .ok (.ireturn, 1) := by decide +kernel
theorem dX4_wipe_0 : decode cX4_wipe 0 = .ok (.aload_n 0, 1) := by decide +kernel
theorem dX4_wipe_1 : decode cX4_wipe 1 = .ok (.getfield 25, 3) := by decide +kernel
theorem dX4_wipe_4 : decode cX4_wipe 4 = .ok (.getfield 172, 3) := by decide +kernel
theorem dX4_wipe_7 : decode cX4_wipe 7 = .ok (.istore_n 1, 1) := by decide +kernel
theorem dX4_wipe_8 : decode cX4_wipe 8 = .ok (.aload_n 0, 1) := by decide +kernel
theorem dX4_wipe_9 : decode cX4_wipe 9 = .ok (.getfield 25, 3) := by decide +kernel
theorem dX4_wipe_12 : decode cX4_wipe 12 = .ok (.iconst 0, 1) := by decide +kernel
theorem dX4_wipe_13 : decode cX4_wipe 13 = .ok (.putfield 172, 3) := by decide +kernel
theorem dX4_wipe_16 : decode cX4_wipe 16 = .ok (.iload_n 1, 1) := by decide +kernel
theorem dX4_wipe_17 : decode cX4_wipe 17 = .ok (.ireturn, 1) := by decide +kernel
theorem dX4_town_0 : decode cX4_town 0 = .ok (.aload_n 0, 1) := by decide +kernel
theorem dX4_town_1 : decode cX4_town 1 = .ok (.getfield 19, 3) := by decide +kernel
theorem dX4_town_4 : decode cX4_town 4 = .ok (.aload_n 0, 1) := by decide +kernel
theorem dX4_town_5 : decode cX4_town 5 = .ok (.getfield 10, 3) := by decide +kernel
theorem dX4_town_8 : decode cX4_town 8 = .ok (.invokevirtual 152, 3) := by decide +kernel
theorem dX4_town_11 : decode cX4_town 11 = .ok (.aload_n 0, 1) := by decide +kernel
theorem dX4_town_12 : decode cX4_town 12 = .ok (.getfield 25, 3) := by decide +kernel
theorem dX4_town_15 : decode cX4_town 15 = .ok (.aload_n 0, 1) := by decide +kernel
theorem dX4_town_16 : decode cX4_town 16 = .ok (.getfield 19, 3) := by decide +kernel
theorem dX4_town_19 : decode cX4_town 19 = .ok (.invokevirtual 179, 3) := by decide +kernel
theorem dX4_town_22 : decode cX4_town 22 = .ok (.istore_n 1, 1) := by decide +kernel
theorem dX4_town_23 : decode cX4_town 23 = .ok (.aload_n 0, 1) := by decide +kernel
theorem dX4_town_24 : decode cX4_town 24 = .ok (.getfield 25, 3) := by decide +kernel
theorem dX4_town_27 : decode cX4_town 27 = .ok (.iconst 0, 1) := by decide +kernel
theorem dX4_town_28 : decode cX4_town 28 = .ok (.putfield 172, 3) := by decide +kernel
theorem dX4_town_31 : decode cX4_town 31 = .ok (.iload_n 1, 1) := by decide +kernel
theorem dX4_town_32 : decode cX4_town 32 = .ok (.ifCond .lt 14, 3) := by decide +kernel
theorem dX4_town_35 : decode cX4_town 35 = .ok (.aload_n 0, 1) := by decide +kernel
theorem dX4_town_36 : decode cX4_town 36 = .ok (.getfield 10, 3) := by decide +kernel
theorem dX4_town_39 : decode cX4_town 39 = .ok (.aload_n 0, 1) := by decide +kernel
theorem dX4_town_40 : decode cX4_town 40 = .ok (.getfield 19, 3) := by decide +kernel
theorem dX4_town_43 : decode cX4_town 43 = .ok (.invokevirtual 152, 3) := by decide +kernel
theorem dX4_town_46 : decode cX4_town 46 = .ok (.iload_n 1, 1) := by decide +kernel
theorem dX4_town_47 : decode cX4_town 47 = .ok (.ireturn, 1) := by decide +kernel
theorem dX4_sheet_0 : decode cX4_sheet 0 = .ok (.iload_n 1, 1) := by decide +kernel
theorem dX4_sheet_1 : decode cX4_sheet 1 = .ok (.iconst 0, 1) := by decide +kernel
theorem dX4_sheet_2 : decode cX4_sheet 2 = .ok (.iconst 3, 1) := by decide +kernel
theorem dX4_sheet_3 : decode cX4_sheet 3 = .ok (.invokestatic 48, 3) := by decide +kernel
theorem dX4_sheet_6 : decode cX4_sheet 6 = .ok (.ifCond .eq 25, 3) := by decide +kernel
theorem dX4_sheet_9 : decode cX4_sheet 9 = .ok (.iload_n 2, 1) := by decide +kernel
theorem dX4_sheet_10 : decode cX4_sheet 10 = .ok (.ifCond .eq 28, 3) := by decide +kernel
theorem dX4_sheet_13 : decode cX4_sheet 13 = .ok (.iload_n 2, 1) := by decide +kernel
theorem dX4_sheet_14 : decode cX4_sheet 14 = .ok (.bipush 8, 2) := by decide +kernel
theorem dX4_sheet_16 : decode cX4_sheet 16 = .ok (.if_icmp .eq 22, 3) := by decide +kernel
theorem dX4_sheet_19 : decode cX4_sheet 19 = .ok (.iload_n 2, 1) := by decide +kernel
theorem dX4_sheet_20 : decode cX4_sheet 20 = .ok (.bipush 16, 2) := by decide +kernel
theorem dX4_sheet_22 : decode cX4_sheet 22 = .ok (.if_icmp .eq 16, 3) := by decide +kernel
theorem dX4_sheet_25 : decode cX4_sheet 25 = .ok (.iload_n 2, 1) := by decide +kernel
theorem dX4_sheet_26 : decode cX4_sheet 26 = .ok (.bipush 64, 2) := by decide +kernel
theorem dX4_sheet_28 : decode cX4_sheet 28 = .ok (.if_icmp .eq 10, 3) := by decide +kernel
theorem dX4_sheet_31 : decode cX4_sheet 31 = .ok (.aload_n 0, 1) := by decide +kernel
theorem dX4_sheet_32 : decode cX4_sheet 32 = .ok (.ldc 52, 2) := by decide +kernel
theorem dX4_sheet_34 : decode cX4_sheet 34 = .ok (.invokevirtual 53, 3) := by decide +kernel
theorem dX4_sheet_37 : decode cX4_sheet 37 = .ok (.ireturn, 1) := by decide +kernel
theorem dX4_sheet_38 : decode cX4_sheet 38 = .ok (.iload_n 3, 1) := by decide +kernel
theorem dX4_sheet_39 : decode cX4_sheet 39 = .ok (.ifCond .ge 10, 3) := by decide +kernel
theorem dX4_sheet_42 : decode cX4_sheet 42 = .ok (.aload_n 0, 1) := by decide +kernel
theorem dX4_sheet_43 : decode cX4_sheet 43 = .ok (.ldc 182, 2) := by decide +kernel
theorem dX4_sheet_45 : decode cX4_sheet 45 = .ok (.invokevirtual 53, 3) := by decide +kernel
theorem dX4_sheet_48 : decode cX4_sheet 48 = .ok (.ireturn, 1) := by decide +kernel
theorem dX4_sheet_49 : decode cX4_sheet 49 = .ok (.iload_n 3, 1) := by decide +kernel
theorem dX4_sheet_50 : decode cX4_sheet 50 = .ok (.bipush 40, 2) := by decide +kernel
theorem dX4_sheet_52 : decode cX4_sheet 52 = .ok (.if_icmp .le 10, 3) := by decide +kernel
theorem dX4_sheet_55 : decode cX4_sheet 55 = .ok (.aload_n 0, 1) := by decide +kernel
theorem dX4_sheet_56 : decode cX4_sheet 56 = .ok (.ldc 52, 2) := by decide +kernel
theorem dX4_sheet_58 : decode cX4_sheet 58 = .ok (.invokevirtual 53, 3) := by decide +kernel
theorem dX4_sheet_61 : decode cX4_sheet 61 = .ok (.ireturn, 1) := by decide +kernel
theorem dX4_sheet_62 : decode cX4_sheet 62 = .ok (.aload_n 0, 1) := by decide +kernel
theorem dX4_sheet_63 : decode cX4_sheet 63 = .ok (.getfield 31, 3) := by decide +kernel
theorem dX4_sheet_66 : decode cX4_sheet 66 = .ok (.iload_n 1, 1) := by decide +kernel
theorem dX4_sheet_67 : decode cX4_sheet 67 = .ok (.aaload, 1) := by decide +kernel
theorem dX4_sheet_68 : decode cX4_sheet 68 = .ok (.iload_n 2, 1) := by decide +kernel
theorem dX4_sheet_69 : decode cX4_sheet 69 = .ok (.iload_n 2, 1) := by decide +kernel
theorem dX4_sheet_70 : decode cX4_sheet 70 = .ok (.ifCond .ne 7, 3) := by decide +kernel
theorem dX4_sheet_73 : decode cX4_sheet 73 = .ok (.iconst 0, 1) := by decide +kernel
theorem dX4_sheet_74 : decode cX4_sheet 74 = .ok (.goto 4, 3) := by decide +kernel
theorem dX4_sheet_77 : decode cX4_sheet 77 = .ok (.iload_n 3, 1) := by decide +kernel
theorem dX4_sheet_78 : decode cX4_sheet 78 = .ok (.invokevirtual 183, 3) := by decide +kernel
theorem dX4_sheet_81 : decode cX4_sheet 81 = .ok (.aload_n 0, 1) := by decide +kernel
theorem dX4_sheet_82 : decode cX4_sheet 82 = .ok (.getfield 31, 3) := by decide +kernel
theorem dX4_sheet_85 : decode cX4_sheet 85 = .ok (.iload_n 1, 1) := by decide +kernel
theorem dX4_sheet_86 : decode cX4_sheet 86 = .ok (.aaload, 1) := by decide +kernel
theorem dX4_sheet_87 : decode cX4_sheet 87 = .ok (.getfield 186, 3) := by decide +kernel
theorem dX4_sheet_90 : decode cX4_sheet 90 = .ok (.ireturn, 1) := by decide +kernel
theorem dX4_write_0 : decode cX4_write 0 = .ok (.aload_n 0, 1) := by decide +kernel
theorem dX4_write_1 : decode cX4_write 1 = .ok (.iload_n 1, 1) := by decide +kernel
theorem dX4_write_2 : decode cX4_write 2 = .ok (.invokevirtual 189, 3) := by decide +kernel
theorem dX4_write_5 : decode cX4_write 5 = .ok (.istore 5, 2) := by decide +kernel
theorem dX4_write_7 : decode cX4_write 7 = .ok (.iload 5, 2) := by decide +kernel
theorem dX4_write_9 : decode cX4_write 9 = .ok (.ifCond .eq 11, 3) := by decide +kernel
theorem dX4_write_12 : decode cX4_write 12 = .ok (.aload_n 0, 1) := by decide +kernel
theorem dX4_write_13 : decode cX4_write 13 = .ok (.iload 5, 2) := by decide +kernel
theorem dX4_write_15 : decode cX4_write 15 = .ok (.invokevirtual 53, 3) := by decide +kernel
theorem dX4_write_18 : decode cX4_write 18 = .ok (.i2l, 1) := by decide +kernel
theorem dX4_write_19 : decode cX4_write 19 = .ok (.lreturn, 1) := by decide +kernel
theorem dX4_write_20 : decode cX4_write 20 = .ok (.iload_n 2, 1) := by decide +kernel
theorem dX4_write_21 : decode cX4_write 21 = .ok (.ifCond .lt 16, 3) := by decide +kernel
theorem dX4_write_24 : decode cX4_write 24 = .ok (.iload_n 2, 1) := by decide +kernel
theorem dX4_write_25 : decode cX4_write 25 = .ok (.aload_n 0, 1) := by decide +kernel
theorem dX4_write_26 : decode cX4_write 26 = .ok (.getfield 31, 3) := by decide +kernel
theorem dX4_write_29 : decode cX4_write 29 = .ok (.iload_n 1, 1) := by decide +kernel
theorem dX4_write_30 : decode cX4_write 30 = .ok (.aaload, 1) := by decide +kernel
theorem dX4_write_31 : decode cX4_write 31 = .ok (.getfield 186, 3) := by decide +kernel
theorem dX4_write_34 : decode cX4_write 34 = .ok (.if_icmp .lt 11, 3) := by decide +kernel
theorem dX4_write_37 : decode cX4_write 37 = .ok (.aload_n 0, 1) := by decide +kernel
theorem dX4_write_38 : decode cX4_write 38 = .ok (.ldc 52, 2) := by decide +kernel
theorem dX4_write_40 : decode cX4_write 40 = .ok (.invokevirtual 53, 3) := by decide +kernel
theorem dX4_write_43 : decode cX4_write 43 = .ok (.i2l, 1) := by decide +kernel
theorem dX4_write_44 : decode cX4_write 44 = .ok (.lreturn, 1) := by decide +kernel
theorem dX4_write_45 : decode cX4_write 45 = .ok (.aload_n 0, 1) := by decide +kernel
theorem dX4_write_46 : decode cX4_write 46 = .ok (.getfield 31, 3) := by decide +kernel
theorem dX4_write_49 : decode cX4_write 49 = .ok (.iload_n 1, 1) := by decide +kernel
theorem dX4_write_50 : decode cX4_write 50 = .ok (.aaload, 1) := by decide +kernel
theorem dX4_write_51 : decode cX4_write 51 = .ok (.getfield 192, 3) := by decide +kernel
theorem dX4_write_54 : decode cX4_write 54 = .ok (.iload_n 2, 1) := by decide +kernel
theorem dX4_write_55 : decode cX4_write 55 = .ok (.laload, 1) := by decide +kernel
theorem dX4_write_56 : decode cX4_write 56 = .ok (.lstore 6, 2) := by decide +kernel
theorem dX4_write_58 : decode cX4_write 58 = .ok (.aload_n 0, 1) := by decide +kernel
theorem dX4_write_59 : decode cX4_write 59 = .ok (.getfield 31, 3) := by decide +kernel
theorem dX4_write_62 : decode cX4_write 62 = .ok (.iload_n 1, 1) := by decide +kernel
theorem dX4_write_63 : decode cX4_write 63 = .ok (.aaload, 1) := by decide +kernel
theorem dX4_write_64 : decode cX4_write 64 = .ok (.iload_n 2, 1) := by decide +kernel
theorem dX4_write_65 : decode cX4_write 65 = .ok (.lload_n 3, 1) := by decide +kernel
theorem dX4_write_66 : decode cX4_write 66 = .ok (.invokevirtual 196, 3) := by decide +kernel
theorem dX4_write_69 : decode cX4_write 69 = .ok (.lload 6, 2) := by decide +kernel
theorem dX4_write_71 : decode cX4_write 71 = .ok (.lreturn, 1) := by decide +kernel
theorem dX4_copy_0 : decode cX4_copy 0 = .ok (.iload_n 1, 1) := by decide +kernel
theorem dX4_copy_1 : decode cX4_copy 1 = .ok (.iconst 0, 1) := by decide +kernel
theorem dX4_copy_2 : decode cX4_copy 2 = .ok (.iconst 3, 1) := by decide +kernel
theorem dX4_copy_3 : decode cX4_copy 3 = .ok (.invokestatic 48, 3) := by decide +kernel
theorem dX4_copy_6 : decode cX4_copy 6 = .ok (.ifCond .eq 12, 3) := by decide +kernel
theorem dX4_copy_9 : decode cX4_copy 9 = .ok (.iload_n 3, 1) := by decide +kernel
theorem dX4_copy_10 : decode cX4_copy 10 = .ok (.iconst 0, 1) := by decide +kernel
theorem dX4_copy_11 : decode cX4_copy 11 = .ok (.iconst 3, 1) := by decide +kernel
theorem dX4_copy_12 : decode cX4_copy 12 = .ok (.invokestatic 48, 3) := by decide +kernel
theorem dX4_copy_15 : decode cX4_copy 15 = .ok (.ifCond .ne 10, 3) := by decide +kernel
theorem dX4_copy_18 : decode cX4_copy 18 = .ok (.aload_n 0, 1) := by decide +kernel
theorem dX4_copy_19 : decode cX4_copy 19 = .ok (.ldc 52, 2) := by decide +kernel
theorem dX4_copy_21 : decode cX4_copy 21 = .ok (.invokevirtual 53, 3) := by decide +kernel
theorem dX4_copy_24 : decode cX4_copy 24 = .ok (.ireturn, 1) := by decide +kernel
theorem dX4_copy_25 : decode cX4_copy 25 = .ok (.aload_n 0, 1) := by decide +kernel
theorem dX4_copy_26 : decode cX4_copy 26 = .ok (.getfield 31, 3) := by decide +kernel
theorem dX4_copy_29 : decode cX4_copy 29 = .ok (.iload_n 1, 1) := by decide +kernel
theorem dX4_copy_30 : decode cX4_copy 30 = .ok (.aaload, 1) := by decide +kernel
theorem dX4_copy_31 : decode cX4_copy 31 = .ok (.astore 6, 2) := by decide +kernel
theorem dX4_copy_33 : decode cX4_copy 33 = .ok (.aload_n 0, 1) := by decide +kernel
theorem dX4_copy_34 : decode cX4_copy 34 = .ok (.getfield 31, 3) := by decide +kernel
theorem dX4_copy_37 : decode cX4_copy 37 = .ok (.iload_n 3, 1) := by decide +kernel
theorem dX4_copy_38 : decode cX4_copy 38 = .ok (.aaload, 1) := by decide +kernel
theorem dX4_copy_39 : decode cX4_copy 39 = .ok (.astore 7, 2) := by decide +kernel
theorem dX4_copy_41 : decode cX4_copy 41 = .ok (.aload 6, 2) := by decide +kernel
theorem dX4_copy_43 : decode cX4_copy 43 = .ok (.getfield 200, 3) := by decide +kernel
theorem dX4_copy_46 : decode cX4_copy 46 = .ok (.ifCond .eq 11, 3) := by decide +kernel
theorem dX4_copy_49 : decode cX4_copy 49 = .ok (.aload 7, 2) := by decide +kernel
theorem dX4_copy_51 : decode cX4_copy 51 = .ok (.getfield 200, 3) := by decide +kernel
theorem dX4_copy_54 : decode cX4_copy 54 = .ok (.ifCond .ne 10, 3) := by decide +kernel
theorem dX4_copy_57 : decode cX4_copy 57 = .ok (.aload_n 0, 1) := by decide +kernel
theorem dX4_copy_58 : decode cX4_copy 58 = .ok (.ldc 203, 2) := by decide +kernel
theorem dX4_copy_60 : decode cX4_copy 60 = .ok (.invokevirtual 53, 3) := by decide +kernel
theorem dX4_copy_63 : decode cX4_copy 63 = .ok (.ireturn, 1) := by decide +kernel
theorem dX4_copy_64 : decode cX4_copy 64 = .ok (.aload 6, 2) := by decide +kernel
theorem dX4_copy_66 : decode cX4_copy 66 = .ok (.getfield 200, 3) := by decide +kernel
theorem dX4_copy_69 : decode cX4_copy 69 = .ok (.aload 7, 2) := by decide +kernel
theorem dX4_copy_71 : decode cX4_copy 71 = .ok (.getfield 200, 3) := by decide +kernel
theorem dX4_copy_74 : decode cX4_copy 74 = .ok (.if_icmp .eq 10, 3) := by decide +kernel
theorem dX4_copy_77 : decode cX4_copy 77 = .ok (.aload_n 0, 1) := by decide +kernel
theorem dX4_copy_78 : decode cX4_copy 78 = .ok (.ldc 138, 2) := by decide +kernel
theorem dX4_copy_80 : decode cX4_copy 80 = .ok (.invokevirtual 53, 3) := by decide +kernel
theorem dX4_copy_83 : decode cX4_copy 83 = .ok (.ireturn, 1) := by decide +kernel
theorem dX4_copy_84 : decode cX4_copy 84 = .ok (.aload 6, 2) := by decide +kernel
theorem dX4_copy_86 : decode cX4_copy 86 = .ok (.iload_n 2, 1) := by decide +kernel
theorem dX4_copy_87 : decode cX4_copy 87 = .ok (.iload 5, 2) := by decide +kernel
theorem dX4_copy_89 : decode cX4_copy 89 = .ok (.invokevirtual 204, 3) := by decide +kernel
theorem dX4_copy_92 : decode cX4_copy 92 = .ok (.ifCond .eq 15, 3) := by decide +kernel
theorem dX4_copy_95 : decode cX4_copy 95 = .ok (.aload 7, 2) := by decide +kernel
theorem dX4_copy_97 : decode cX4_copy 97 = .ok (.iload 4, 2) := by decide +kernel
theorem dX4_copy_99 : decode cX4_copy 99 = .ok (.iload 5, 2) := by decide +kernel
theorem dX4_copy_101 : decode cX4_copy 101 = .ok (.invokevirtual 204, 3) := by decide +kernel
theorem dX4_copy_104 : decode cX4_copy 104 = .ok (.ifCond .ne 10, 3) := by decide +kernel
theorem dX4_copy_107 : decode cX4_copy 107 = .ok (.aload_n 0, 1) := by decide +kernel
theorem dX4_copy_108 : decode cX4_copy 108 = .ok (.ldc 52, 2) := by decide +kernel
theorem dX4_copy_110 : decode cX4_copy 110 = .ok (.invokevirtual 53, 3) := by decide +kernel
theorem dX4_copy_113 : decode cX4_copy 113 = .ok (.ireturn, 1) := by decide +kernel
theorem dX4_copy_114 : decode cX4_copy 114 = .ok (.aload 6, 2) := by decide +kernel
theorem dX4_copy_116 : decode cX4_copy 116 = .ok (.getfield 192, 3) := by decide +kernel
theorem dX4_copy_119 : decode cX4_copy 119 = .ok (.iload_n 2, 1) := by decide +kernel
theorem dX4_copy_120 : decode cX4_copy 120 = .ok (.aload 7, 2) := by decide +kernel
theorem dX4_copy_122 : decode cX4_copy 122 = .ok (.getfield 192, 3) := by decide +kernel
theorem dX4_copy_125 : decode cX4_copy 125 = .ok (.iload 4, 2) := by decide +kernel
theorem dX4_copy_127 : decode cX4_copy 127 = .ok (.iload 5, 2) := by decide +kernel
theorem dX4_copy_129 : decode cX4_copy 129 = .ok (.invokestatic 207, 3) := by decide +kernel
theorem dX4_copy_132 : decode cX4_copy 132 = .ok (.iload 5, 2) := by decide +kernel
theorem dX4_copy_134 : decode cX4_copy 134 = .ok (.ireturn, 1) := by decide +kernel
theorem dX4_lays_0 : decode cX4_lays 0 = .ok (.aload_n 0, 1) := by decide +kernel
theorem dX4_lays_1 : decode cX4_lays 1 = .ok (.iload_n 1, 1) := by decide +kernel
theorem dX4_lays_2 : decode cX4_lays 2 = .ok (.invokevirtual 189, 3) := by decide +kernel
theorem dX4_lays_5 : decode cX4_lays 5 = .ok (.istore_n 3, 1) := by decide +kernel
theorem dX4_lays_6 : decode cX4_lays 6 = .ok (.iload_n 3, 1) := by decide +kernel
theorem dX4_lays_7 : decode cX4_lays 7 = .ok (.ifCond .eq 9, 3) := by decide +kernel
theorem dX4_lays_10 : decode cX4_lays 10 = .ok (.aload_n 0, 1) := by decide +kernel
theorem dX4_lays_11 : decode cX4_lays 11 = .ok (.iload_n 3, 1) := by decide +kernel
theorem dX4_lays_12 : decode cX4_lays 12 = .ok (.invokevirtual 53, 3) := by decide +kernel
theorem dX4_lays_15 : decode cX4_lays 15 = .ok (.ireturn, 1) := by decide +kernel
theorem dX4_lays_16 : decode cX4_lays 16 = .ok (.iload_n 2, 1) := by decide +kernel
theorem dX4_lays_17 : decode cX4_lays 17 = .ok (.invokestatic 75, 3) := by decide +kernel
theorem dX4_lays_20 : decode cX4_lays 20 = .ok (.ifCond .ne 10, 3) := by decide +kernel
theorem dX4_lays_23 : decode cX4_lays 23 = .ok (.aload_n 0, 1) := by decide +kernel
theorem dX4_lays_24 : decode cX4_lays 24 = .ok (.ldc 52, 2) := by decide +kernel
theorem dX4_lays_26 : decode cX4_lays 26 = .ok (.invokevirtual 53, 3) := by decide +kernel
theorem dX4_lays_29 : decode cX4_lays 29 = .ok (.ireturn, 1) := by decide +kernel
theorem dX4_lays_30 : decode cX4_lays 30 = .ok (.iconst 0, 1) := by decide +kernel
theorem dX4_lays_31 : decode cX4_lays 31 = .ok (.istore 4, 2) := by decide +kernel
theorem dX4_lays_33 : decode cX4_lays 33 = .ok (.aload_n 0, 1) := by decide +kernel
theorem dX4_lays_34 : decode cX4_lays 34 = .ok (.getfield 31, 3) := by decide +kernel
theorem dX4_lays_37 : decode cX4_lays 37 = .ok (.iload_n 1, 1) := by decide +kernel
theorem dX4_lays_38 : decode cX4_lays 38 = .ok (.aaload, 1) := by decide +kernel
theorem dX4_lays_39 : decode cX4_lays 39 = .ok (.getfield 186, 3) := by decide +kernel
theorem dX4_lays_42 : decode cX4_lays 42 = .ok (.bipush 20, 2) := by decide +kernel
theorem dX4_lays_44 : decode cX4_lays 44 = .ok (.invokestatic 213, 3) := by decide +kernel
theorem dX4_lays_47 : decode cX4_lays 47 = .ok (.istore 5, 2) := by decide +kernel
theorem dX4_lays_49 : decode cX4_lays 49 = .ok (.iconst 0, 1) := by decide +kernel
theorem dX4_lays_50 : decode cX4_lays 50 = .ok (.istore 6, 2) := by decide +kernel
theorem dX4_lays_52 : decode cX4_lays 52 = .ok (.iload 6, 2) := by decide +kernel
theorem dX4_lays_54 : decode cX4_lays 54 = .ok (.iload 5, 2) := by decide +kernel
theorem dX4_lays_56 : decode cX4_lays 56 = .ok (.if_icmp .ge 55, 3) := by decide +kernel
theorem dX4_lays_59 : decode cX4_lays 59 = .ok (.aload_n 0, 1) := by decide +kernel
theorem dX4_lays_60 : decode cX4_lays 60 = .ok (.getfield 31, 3) := by decide +kernel
theorem dX4_lays_63 : decode cX4_lays 63 = .ok (.iload_n 1, 1) := by decide +kernel
theorem dX4_lays_64 : decode cX4_lays 64 = .ok (.aaload, 1) := by decide +kernel
theorem dX4_lays_65 : decode cX4_lays 65 = .ok (.getfield 192, 3) := by decide +kernel
theorem dX4_lays_68 : decode cX4_lays 68 = .ok (.iload 6, 2) := by decide +kernel
theorem dX4_lays_70 : decode cX4_lays 70 = .ok (.laload, 1) := by decide +kernel
theorem dX4_lays_71 : decode cX4_lays 71 = .ok (.lstore 7, 2) := by decide +kernel
theorem dX4_lays_73 : decode cX4_lays 73 = .ok (.lload 7, 2) := by decide +kernel
theorem dX4_lays_75 : decode cX4_lays 75 = .ok (.lconst 0, 1) := by decide +kernel
theorem dX4_lays_76 : decode cX4_lays 76 = .ok (.lcmp, 1) := by decide +kernel
theorem dX4_lays_77 : decode cX4_lays 77 = .ok (.ifCond .lt 28, 3) := by decide +kernel
theorem dX4_lays_80 : decode cX4_lays 80 = .ok (.lload 7, 2) := by decide +kernel
theorem dX4_lays_82 : decode cX4_lays 82 = .ok (.ldc2_w 218, 3) := by decide +kernel
theorem dX4_lays_85 : decode cX4_lays 85 = .ok (.lcmp, 1) := by decide +kernel
theorem dX4_lays_86 : decode cX4_lays 86 = .ok (.ifCond .gt 19, 3) := by decide +kernel
theorem dX4_lays_89 : decode cX4_lays 89 = .ok (.aload_n 0, 1) := by decide +kernel
theorem dX4_lays_90 : decode cX4_lays 90 = .ok (.getfield 10, 3) := by decide +kernel
theorem dX4_lays_93 : decode cX4_lays 93 = .ok (.iload_n 2, 1) := by decide +kernel
theorem dX4_lays_94 : decode cX4_lays 94 = .ok (.iload 6, 2) := by decide +kernel
theorem dX4_lays_96 : decode cX4_lays 96 = .ok (.lload 7, 2) := by decide +kernel
theorem dX4_lays_98 : decode cX4_lays 98 = .ok (.l2i, 1) := by decide +kernel
theorem dX4_lays_99 : decode cX4_lays 99 = .ok (.invokevirtual 64, 3) := by decide +kernel
theorem dX4_lays_102 : decode cX4_lays 102 = .ok (.iinc 4 1, 3) := by decide +kernel
theorem dX4_lays_105 : decode cX4_lays 105 = .ok (.iinc 6 1, 3) := by decide +kernel
theorem dX4_lays_108 : decode cX4_lays 108 = .ok (.goto (-56), 3) := by decide +kernel
theorem dX4_lays_111 : decode cX4_lays 111 = .ok (.iload 4, 2) := by decide +kernel
theorem dX4_lays_113 : decode cX4_lays 113 = .ok (.ireturn, 1) := by decide +kernel
theorem dX4_book_0 : decode cX4_book 0 = .ok (.aload_n 0, 1) := by decide +kernel
theorem dX4_book_1 : decode cX4_book 1 = .ok (.iload_n 1, 1) := by decide +kernel
theorem dX4_book_2 : decode cX4_book 2 = .ok (.invokevirtual 189, 3) := by decide +kernel
theorem dX4_book_5 : decode cX4_book 5 = .ok (.istore 4, 2) := by decide +kernel
theorem dX4_book_7 : decode cX4_book 7 = .ok (.iload 4, 2) := by decide +kernel
theorem dX4_book_9 : decode cX4_book 9 = .ok (.ifCond .eq 10, 3) := by decide +kernel
theorem dX4_book_12 : decode cX4_book 12 = .ok (.aload_n 0, 1) := by decide +kernel
theorem dX4_book_13 : decode cX4_book 13 = .ok (.iload 4, 2) := by decide +kernel
theorem dX4_book_15 : decode cX4_book 15 = .ok (.invokevirtual 53, 3) := by decide +kernel
theorem dX4_book_18 : decode cX4_book 18 = .ok (.ireturn, 1) := by decide +kernel
theorem dX4_book_19 : decode cX4_book 19 = .ok (.aload_n 0, 1) := by decide +kernel
theorem dX4_book_20 : decode cX4_book 20 = .ok (.getfield 10, 3) := by decide +kernel
theorem dX4_book_23 : decode cX4_book 23 = .ok (.iload_n 2, 1) := by decide +kernel
theorem dX4_book_24 : decode cX4_book 24 = .ok (.invokevirtual 111, 3) := by decide +kernel
theorem dX4_book_27 : decode cX4_book 27 = .ok (.ifCond .eq 10, 3) := by decide +kernel
theorem dX4_book_30 : decode cX4_book 30 = .ok (.iload_n 3, 1) := by decide +kernel
theorem dX4_book_31 : decode cX4_book 31 = .ok (.invokestatic 75, 3) := by decide +kernel
theorem dX4_book_34 : decode cX4_book 34 = .ok (.ifCond .ne 10, 3) := by decide +kernel
theorem dX4_book_37 : decode cX4_book 37 = .ok (.aload_n 0, 1) := by decide +kernel
theorem dX4_book_38 : decode cX4_book 38 = .ok (.ldc 52, 2) := by decide +kernel
theorem dX4_book_40 : decode cX4_book 40 = .ok (.invokevirtual 53, 3) := by decide +kernel
theorem dX4_book_43 : decode cX4_book 43 = .ok (.ireturn, 1) := by decide +kernel
theorem dX4_book_44 : decode cX4_book 44 = .ok (.aload_n 0, 1) := by decide +kernel
theorem dX4_book_45 : decode cX4_book 45 = .ok (.getfield 31, 3) := by decide +kernel
theorem dX4_book_48 : decode cX4_book 48 = .ok (.iload_n 1, 1) := by decide +kernel
theorem dX4_book_49 : decode cX4_book 49 = .ok (.aaload, 1) := by decide +kernel
theorem dX4_book_50 : decode cX4_book 50 = .ok (.getfield 186, 3) := by decide +kernel
theorem dX4_book_53 : decode cX4_book 53 = .ok (.bipush 20, 2) := by decide +kernel
theorem dX4_book_55 : decode cX4_book 55 = .ok (.invokestatic 213, 3) := by decide +kernel
theorem dX4_book_58 : decode cX4_book 58 = .ok (.istore 5, 2) := by decide +kernel
theorem dX4_book_60 : decode cX4_book 60 = .ok (.iconst 0, 1) := by decide +kernel
theorem dX4_book_61 : decode cX4_book 61 = .ok (.istore 6, 2) := by decide +kernel
theorem dX4_book_63 : decode cX4_book 63 = .ok (.iload 6, 2) := by decide +kernel
theorem dX4_book_65 : decode cX4_book 65 = .ok (.iload 5, 2) := by decide +kernel
theorem dX4_book_67 : decode cX4_book 67 = .ok (.if_icmp .ge 49, 3) := by decide +kernel
theorem dX4_book_70 : decode cX4_book 70 = .ok (.aload_n 0, 1) := by decide +kernel
theorem dX4_book_71 : decode cX4_book 71 = .ok (.getfield 31, 3) := by decide +kernel
theorem dX4_book_74 : decode cX4_book 74 = .ok (.iload_n 1, 1) := by decide +kernel
theorem dX4_book_75 : decode cX4_book 75 = .ok (.aaload, 1) := by decide +kernel
theorem dX4_book_76 : decode cX4_book 76 = .ok (.iload 6, 2) := by decide +kernel
theorem dX4_book_78 : decode cX4_book 78 = .ok (.aload_n 0, 1) := by decide +kernel
theorem dX4_book_79 : decode cX4_book 79 = .ok (.getfield 10, 3) := by decide +kernel
theorem dX4_book_82 : decode cX4_book 82 = .ok (.aload_n 0, 1) := by decide +kernel
theorem dX4_book_83 : decode cX4_book 83 = .ok (.getfield 10, 3) := by decide +kernel
theorem dX4_book_86 : decode cX4_book 86 = .ok (.getfield 114, 3) := by decide +kernel
theorem dX4_book_89 : decode cX4_book 89 = .ok (.iload_n 2, 1) := by decide +kernel
theorem dX4_book_90 : decode cX4_book 90 = .ok (.iaload, 1) := by decide +kernel
theorem dX4_book_91 : decode cX4_book 91 = .ok (.aload_n 0, 1) := by decide +kernel
theorem dX4_book_92 : decode cX4_book 92 = .ok (.getfield 10, 3) := by decide +kernel
theorem dX4_book_95 : decode cX4_book 95 = .ok (.getfield 117, 3) := by decide +kernel
theorem dX4_book_98 : decode cX4_book 98 = .ok (.iload_n 2, 1) := by decide +kernel
theorem dX4_book_99 : decode cX4_book 99 = .ok (.iaload, 1) := by decide +kernel
theorem dX4_book_100 : decode cX4_book 100 = .ok (.iload_n 3, 1) := by decide +kernel
theorem dX4_book_101 : decode cX4_book 101 = .ok (.iload 6, 2) := by decide +kernel
theorem dX4_book_103 : decode cX4_book 103 = .ok (.invokevirtual 143, 3) := by decide +kernel
theorem dX4_book_106 : decode cX4_book 106 = .ok (.i2l, 1) := by decide +kernel
theorem dX4_book_107 : decode cX4_book 107 = .ok (.invokevirtual 196, 3) := by decide +kernel
theorem dX4_book_110 : decode cX4_book 110 = .ok (.iinc 6 1, 3) := by decide +kernel
theorem dX4_book_113 : decode cX4_book 113 = .ok (.goto (-50), 3) := by decide +kernel
theorem dX4_book_116 : decode cX4_book 116 = .ok (.iload 5, 2) := by decide +kernel
theorem dX4_book_118 : decode cX4_book 118 = .ok (.ireturn, 1) := by decide +kernel
theorem dX4_read_0 : decode cX4_read 0 = .ok (.aload_n 0, 1) := by decide +kernel
theorem dX4_read_1 : decode cX4_read 1 = .ok (.iload_n 1, 1) := by decide +kernel
theorem dX4_read_2 : decode cX4_read 2 = .ok (.invokevirtual 189, 3) := by decide +kernel
theorem dX4_read_5 : decode cX4_read 5 = .ok (.istore 4, 2) := by decide +kernel
theorem dX4_read_7 : decode cX4_read 7 = .ok (.iload 4, 2) := by decide +kernel
theorem dX4_read_9 : decode cX4_read 9 = .ok (.ifCond .eq 10, 3) := by decide +kernel
theorem dX4_read_12 : decode cX4_read 12 = .ok (.aload_n 0, 1) := by decide +kernel
theorem dX4_read_13 : decode cX4_read 13 = .ok (.iload 4, 2) := by decide +kernel
theorem dX4_read_15 : decode cX4_read 15 = .ok (.invokevirtual 53, 3) := by decide +kernel
theorem dX4_read_18 : decode cX4_read 18 = .ok (.ireturn, 1) := by decide +kernel
theorem dX4_read_19 : decode cX4_read 19 = .ok (.aload_n 0, 1) := by decide +kernel
theorem dX4_read_20 : decode cX4_read 20 = .ok (.getfield 10, 3) := by decide +kernel
theorem dX4_read_23 : decode cX4_read 23 = .ok (.iload_n 2, 1) := by decide +kernel
theorem dX4_read_24 : decode cX4_read 24 = .ok (.invokevirtual 111, 3) := by decide +kernel
theorem dX4_read_27 : decode cX4_read 27 = .ok (.ifCond .eq 10, 3) := by decide +kernel
theorem dX4_read_30 : decode cX4_read 30 = .ok (.iload_n 3, 1) := by decide +kernel
theorem dX4_read_31 : decode cX4_read 31 = .ok (.invokestatic 75, 3) := by decide +kernel
theorem dX4_read_34 : decode cX4_read 34 = .ok (.ifCond .ne 10, 3) := by decide +kernel
theorem dX4_read_37 : decode cX4_read 37 = .ok (.aload_n 0, 1) := by decide +kernel
theorem dX4_read_38 : decode cX4_read 38 = .ok (.ldc 52, 2) := by decide +kernel
theorem dX4_read_40 : decode cX4_read 40 = .ok (.invokevirtual 53, 3) := by decide +kernel
theorem dX4_read_43 : decode cX4_read 43 = .ok (.ireturn, 1) := by decide +kernel
theorem dX4_read_44 : decode cX4_read 44 = .ok (.aload_n 0, 1) := by decide +kernel
theorem dX4_read_45 : decode cX4_read 45 = .ok (.getfield 31, 3) := by decide +kernel
theorem dX4_read_48 : decode cX4_read 48 = .ok (.iload_n 1, 1) := by decide +kernel
theorem dX4_read_49 : decode cX4_read 49 = .ok (.aaload, 1) := by decide +kernel
theorem dX4_read_50 : decode cX4_read 50 = .ok (.getfield 186, 3) := by decide +kernel
theorem dX4_read_53 : decode cX4_read 53 = .ok (.bipush 20, 2) := by decide +kernel
theorem dX4_read_55 : decode cX4_read 55 = .ok (.if_icmp .le 10, 3) := by decide +kernel
theorem dX4_read_58 : decode cX4_read 58 = .ok (.aload_n 0, 1) := by decide +kernel
theorem dX4_read_59 : decode cX4_read 59 = .ok (.ldc 182, 2) := by decide +kernel
theorem dX4_read_61 : decode cX4_read 61 = .ok (.invokevirtual 53, 3) := by decide +kernel
theorem dX4_read_64 : decode cX4_read 64 = .ok (.ireturn, 1) := by decide +kernel
theorem dX4_read_65 : decode cX4_read 65 = .ok (.iconst 0, 1) := by decide +kernel
theorem dX4_read_66 : decode cX4_read 66 = .ok (.istore 5, 2) := by decide +kernel
theorem dX4_read_68 : decode cX4_read 68 = .ok (.iconst 0, 1) := by decide +kernel
theorem dX4_read_69 : decode cX4_read 69 = .ok (.istore 6, 2) := by decide +kernel
theorem dX4_read_71 : decode cX4_read 71 = .ok (.iload 6, 2) := by decide +kernel
theorem dX4_read_73 : decode cX4_read 73 = .ok (.bipush 6, 2) := by decide +kernel
theorem dX4_read_75 : decode cX4_read 75 = .ok (.if_icmp .ge 50, 3) := by decide +kernel
theorem dX4_read_78 : decode cX4_read 78 = .ok (.bipush 10, 2) := by decide +kernel
theorem dX4_read_80 : decode cX4_read 80 = .ok (.istore 7, 2) := by decide +kernel
theorem dX4_read_82 : decode cX4_read 82 = .ok (.iload 7, 2) := by decide +kernel
theorem dX4_read_84 : decode cX4_read 84 = .ok (.bipush 80, 2) := by decide +kernel
theorem dX4_read_86 : decode cX4_read 86 = .ok (.if_icmp .gt 33, 3) := by decide +kernel
theorem dX4_read_89 : decode cX4_read 89 = .ok (.aload_n 0, 1) := by decide +kernel
theorem dX4_read_90 : decode cX4_read 90 = .ok (.getfield 10, 3) := by decide +kernel
theorem dX4_read_93 : decode cX4_read 93 = .ok (.aload_n 0, 1) := by decide +kernel
theorem dX4_read_94 : decode cX4_read 94 = .ok (.getfield 31, 3) := by decide +kernel
theorem dX4_read_97 : decode cX4_read 97 = .ok (.iload_n 1, 1) := by decide +kernel
theorem dX4_read_98 : decode cX4_read 98 = .ok (.aaload, 1) := by decide +kernel
theorem dX4_read_99 : decode cX4_read 99 = .ok (.iload 6, 2) := by decide +kernel
theorem dX4_read_101 : decode cX4_read 101 = .ok (.iload 7, 2) := by decide +kernel
theorem dX4_read_103 : decode cX4_read 103 = .ok (.iload_n 3, 1) := by decide +kernel
theorem dX4_read_104 : decode cX4_read 104 = .ok (.invokevirtual 220, 3) := by decide +kernel
theorem dX4_read_107 : decode cX4_read 107 = .ok (.ifCond .eq 6, 3) := by decide +kernel
theorem dX4_read_110 : decode cX4_read 110 = .ok (.iinc 5 1, 3) := by decide +kernel
theorem dX4_read_113 : decode cX4_read 113 = .ok (.iinc 7 1, 3) := by decide +kernel
theorem dX4_read_116 : decode cX4_read 116 = .ok (.goto (-34), 3) := by decide +kernel
theorem dX4_read_119 : decode cX4_read 119 = .ok (.iinc 6 1, 3) := by decide +kernel
theorem dX4_read_122 : decode cX4_read 122 = .ok (.goto (-51), 3) := by decide +kernel
theorem dX4_read_125 : decode cX4_read 125 = .ok (.iload 5, 2) := by decide +kernel
theorem dX4_read_127 : decode cX4_read 127 = .ok (.ireturn, 1) := by decide +kernel
theorem dX4_image_0 : decode cX4_image 0 = .ok (.aload_n 0, 1) := by decide +kernel
theorem dX4_image_1 : decode cX4_image 1 = .ok (.getfield 16, 3) := by decide +kernel
theorem dX4_image_4 : decode cX4_image 4 = .ok (.aload_n 0, 1) := by decide +kernel
theorem dX4_image_5 : decode cX4_image 5 = .ok (.getfield 10, 3) := by decide +kernel
theorem dX4_image_8 : decode cX4_image 8 = .ok (.invokevirtual 152, 3) := by decide +kernel
theorem dX4_image_11 : decode cX4_image 11 = .ok (.aload_n 0, 1) := by decide +kernel
theorem dX4_image_12 : decode cX4_image 12 = .ok (.iconst 1, 1) := by decide +kernel
theorem dX4_image_13 : decode cX4_image 13 = .ok (.putfield 40, 3) := by decide +kernel
theorem dX4_image_16 : decode cX4_image 16 = .ok (.iconst 1, 1) := by decide +kernel
theorem dX4_image_17 : decode cX4_image 17 = .ok (.ireturn, 1) := by decide +kernel
theorem dX4_undo_0 : decode cX4_undo 0 = .ok (.aload_n 0, 1) := by decide +kernel
theorem dX4_undo_1 : decode cX4_undo 1 = .ok (.getfield 40, 3) := by decide +kernel
theorem dX4_undo_4 : decode cX4_undo 4 = .ok (.ifCond .ne 10, 3) := by decide +kernel
theorem dX4_undo_7 : decode cX4_undo 7 = .ok (.aload_n 0, 1) := by decide +kernel
theorem dX4_undo_8 : decode cX4_undo 8 = .ok (.ldc 160, 2) := by decide +kernel
theorem dX4_undo_10 : decode cX4_undo 10 = .ok (.invokevirtual 53, 3) := by decide +kernel
theorem dX4_undo_13 : decode cX4_undo 13 = .ok (.ireturn, 1) := by decide +kernel
theorem dX4_undo_14 : decode cX4_undo 14 = .ok (.aload_n 0, 1) := by decide +kernel
theorem dX4_undo_15 : decode cX4_undo 15 = .ok (.getfield 10, 3) := by decide +kernel
theorem dX4_undo_18 : decode cX4_undo 18 = .ok (.aload_n 0, 1) := by decide +kernel
theorem dX4_undo_19 : decode cX4_undo 19 = .ok (.getfield 16, 3) := by decide +kernel
theorem dX4_undo_22 : decode cX4_undo 22 = .ok (.invokevirtual 152, 3) := by decide +kernel
theorem dX4_undo_25 : decode cX4_undo 25 = .ok (.aload_n 0, 1) := by decide +kernel
theorem dX4_undo_26 : decode cX4_undo 26 = .ok (.getfield 10, 3) := by decide +kernel
theorem dX4_undo_29 : decode cX4_undo 29 = .ok (.getfield 104, 3) := by decide +kernel
theorem dX4_undo_32 : decode cX4_undo 32 = .ok (.ireturn, 1) := by decide +kernel
theorem dX4_tear_0 : decode cX4_tear 0 = .ok (.aload_n 0, 1) := by decide +kernel
theorem dX4_tear_1 : decode cX4_tear 1 = .ok (.getfield 40, 3) := by decide +kernel
theorem dX4_tear_4 : decode cX4_tear 4 = .ok (.ifCond .eq 7, 3) := by decide +kernel
theorem dX4_tear_7 : decode cX4_tear 7 = .ok (.iconst 1, 1) := by decide +kernel
theorem dX4_tear_8 : decode cX4_tear 8 = .ok (.goto 4, 3) := by decide +kernel
theorem dX4_tear_11 : decode cX4_tear 11 = .ok (.iconst 0, 1) := by decide +kernel
theorem dX4_tear_12 : decode cX4_tear 12 = .ok (.istore_n 1, 1) := by decide +kernel
theorem dX4_tear_13 : decode cX4_tear 13 = .ok (.aload_n 0, 1) := by decide +kernel
theorem dX4_tear_14 : decode cX4_tear 14 = .ok (.iconst 0, 1) := by decide +kernel
theorem dX4_tear_15 : decode cX4_tear 15 = .ok (.putfield 40, 3) := by decide +kernel
theorem dX4_tear_18 : decode cX4_tear 18 = .ok (.iload_n 1, 1) := by decide +kernel
theorem dX4_tear_19 : decode cX4_tear 19 = .ok (.ireturn, 1) := by decide +kernel
theorem dX4_count_0 : decode cX4_count 0 = .ok (.iload_n 1, 1) := by decide +kernel
theorem dX4_count_1 : decode cX4_count 1 = .ok (.tableswitch 63 0 3 #[31, 39, 47, 55], 31) := by decide +kernel
theorem dX4_count_32 : decode cX4_count 32 = .ok (.aload_n 0, 1) := by decide +kernel
theorem dX4_count_33 : decode cX4_count 33 = .ok (.getfield 10, 3) := by decide +kernel
theorem dX4_count_36 : decode cX4_count 36 = .ok (.getfield 104, 3) := by decide +kernel
theorem dX4_count_39 : decode cX4_count 39 = .ok (.ireturn, 1) := by decide +kernel
theorem dX4_count_40 : decode cX4_count 40 = .ok (.aload_n 0, 1) := by decide +kernel
theorem dX4_count_41 : decode cX4_count 41 = .ok (.getfield 25, 3) := by decide +kernel
theorem dX4_count_44 : decode cX4_count 44 = .ok (.getfield 172, 3) := by decide +kernel
theorem dX4_count_47 : decode cX4_count 47 = .ok (.ireturn, 1) := by decide +kernel
theorem dX4_count_48 : decode cX4_count 48 = .ok (.aload_n 0, 1) := by decide +kernel
theorem dX4_count_49 : decode cX4_count 49 = .ok (.getfield 10, 3) := by decide +kernel
theorem dX4_count_52 : decode cX4_count 52 = .ok (.invokevirtual 224, 3) := by decide +kernel
theorem dX4_count_55 : decode cX4_count 55 = .ok (.ireturn, 1) := by decide +kernel
theorem dX4_count_56 : decode cX4_count 56 = .ok (.aload_n 0, 1) := by decide +kernel
theorem dX4_count_57 : decode cX4_count 57 = .ok (.getfield 10, 3) := by decide +kernel
theorem dX4_count_60 : decode cX4_count 60 = .ok (.invokevirtual 227, 3) := by decide +kernel
theorem dX4_count_63 : decode cX4_count 63 = .ok (.ireturn, 1) := by decide +kernel
theorem dX4_count_64 : decode cX4_count 64 = .ok (.aload_n 0, 1) := by decide +kernel
theorem dX4_count_65 : decode cX4_count 65 = .ok (.ldc 52, 2) := by decide +kernel
theorem dX4_count_67 : decode cX4_count 67 = .ok (.invokevirtual 53, 3) := by decide +kernel
theorem dX4_count_70 : decode cX4_count 70 = .ok (.ireturn, 1) := by decide +kernel
theorem dX4_status_0 : decode cX4_status 0 = .ok (.iload_n 1, 1) := by decide +kernel
theorem dX4_status_1 : decode cX4_status 1 = .ok (.iconst (-1), 1) := by decide +kernel
theorem dX4_status_2 : decode cX4_status 2 = .ok (.bipush 6, 2) := by decide +kernel
theorem dX4_status_4 : decode cX4_status 4 = .ok (.invokestatic 48, 3) := by decide +kernel
theorem dX4_status_7 : decode cX4_status 7 = .ok (.ifCond .ne 10, 3) := by decide +kernel
theorem dX4_status_10 : decode cX4_status 10 = .ok (.aload_n 0, 1) := by decide +kernel
theorem dX4_status_11 : decode cX4_status 11 = .ok (.ldc 52, 2) := by decide +kernel
theorem dX4_status_13 : decode cX4_status 13 = .ok (.invokevirtual 53, 3) := by decide +kernel
theorem dX4_status_16 : decode cX4_status 16 = .ok (.ireturn, 1) := by decide +kernel
theorem dX4_status_17 : decode cX4_status 17 = .ok (.iload_n 1, 1) := by decide +kernel
theorem dX4_status_18 : decode cX4_status 18 = .ok (.ifCond .lt 10, 3) := by decide +kernel
theorem dX4_status_21 : decode cX4_status 21 = .ok (.aload_n 0, 1) := by decide +kernel
theorem dX4_status_22 : decode cX4_status 22 = .ok (.getfield 36, 3) := by decide +kernel
theorem dX4_status_25 : decode cX4_status 25 = .ok (.iload_n 1, 1) := by decide +kernel
theorem dX4_status_26 : decode cX4_status 26 = .ok (.iaload, 1) := by decide +kernel
theorem dX4_status_27 : decode cX4_status 27 = .ok (.ireturn, 1) := by decide +kernel
theorem dX4_status_28 : decode cX4_status 28 = .ok (.iconst 0, 1) := by decide +kernel
theorem dX4_status_29 : decode cX4_status 29 = .ok (.istore_n 2, 1) := by decide +kernel
theorem dX4_status_30 : decode cX4_status 30 = .ok (.iconst 0, 1) := by decide +kernel
theorem dX4_status_31 : decode cX4_status 31 = .ok (.istore_n 3, 1) := by decide +kernel
theorem dX4_status_32 : decode cX4_status 32 = .ok (.iload_n 3, 1) := by decide +kernel
theorem dX4_status_33 : decode cX4_status 33 = .ok (.bipush 7, 2) := by decide +kernel
theorem dX4_status_35 : decode cX4_status 35 = .ok (.if_icmp .ge 18, 3) := by decide +kernel
theorem dX4_status_38 : decode cX4_status 38 = .ok (.iload_n 2, 1) := by decide +kernel
theorem dX4_status_39 : decode cX4_status 39 = .ok (.aload_n 0, 1) := by decide +kernel
theorem dX4_status_40 : decode cX4_status 40 = .ok (.getfield 36, 3) := by decide +kernel
theorem dX4_status_43 : decode cX4_status 43 = .ok (.iload_n 3, 1) := by decide +kernel
theorem dX4_status_44 : decode cX4_status 44 = .ok (.iaload, 1) := by decide +kernel
theorem dX4_status_45 : decode cX4_status 45 = .ok (.iadd, 1) := by decide +kernel
theorem dX4_status_46 : decode cX4_status 46 = .ok (.istore_n 2, 1) := by decide +kernel
theorem dX4_status_47 : decode cX4_status 47 = .ok (.iinc 3 1, 3) := by decide +kernel
theorem dX4_status_50 : decode cX4_status 50 = .ok (.goto (-18), 3) := by decide +kernel
theorem dX4_status_53 : decode cX4_status 53 = .ok (.iload_n 2, 1) := by decide +kernel
theorem dX4_status_54 : decode cX4_status 54 = .ok (.ireturn, 1) := by decide +kernel
theorem dX4_tell_0 : decode cX4_tell 0 = .ok (.ldc 52, 2) := by decide +kernel
theorem dX4_tell_2 : decode cX4_tell 2 = .ok (.iload_n 1, 1) := by decide +kernel
theorem dX4_tell_3 : decode cX4_tell 3 = .ok (.isub, 1) := by decide +kernel
theorem dX4_tell_4 : decode cX4_tell 4 = .ok (.istore_n 2, 1) := by decide +kernel
theorem dX4_tell_5 : decode cX4_tell 5 = .ok (.iload_n 2, 1) := by decide +kernel
theorem dX4_tell_6 : decode cX4_tell 6 = .ok (.iconst 0, 1) := by decide +kernel
theorem dX4_tell_7 : decode cX4_tell 7 = .ok (.bipush 6, 2) := by decide +kernel
theorem dX4_tell_9 : decode cX4_tell 9 = .ok (.invokestatic 48, 3) := by decide +kernel
theorem dX4_tell_12 : decode cX4_tell 12 = .ok (.ifCond .eq 13, 3) := by decide +kernel
theorem dX4_tell_15 : decode cX4_tell 15 = .ok (.aload_n 0, 1) := by decide +kernel
theorem dX4_tell_16 : decode cX4_tell 16 = .ok (.getfield 36, 3) := by decide +kernel
theorem dX4_tell_19 : decode cX4_tell 19 = .ok (.iload_n 2, 1) := by decide +kernel
theorem dX4_tell_20 : decode cX4_tell 20 = .ok (.dup2, 1) := by decide +kernel
theorem dX4_tell_21 : decode cX4_tell 21 = .ok (.iaload, 1) := by decide +kernel
theorem dX4_tell_22 : decode cX4_tell 22 = .ok (.iconst 1, 1) := by decide +kernel
theorem dX4_tell_23 : decode cX4_tell 23 = .ok (.iadd, 1) := by decide +kernel
theorem dX4_tell_24 : decode cX4_tell 24 = .ok (.iastore, 1) := by decide +kernel
theorem dX4_tell_25 : decode cX4_tell 25 = .ok (.iload_n 1, 1) := by decide +kernel
theorem dX4_tell_26 : decode cX4_tell 26 = .ok (.ireturn, 1) := by decide +kernel
theorem dX4_sheetFault_0 : decode cX4_sheetFault 0 = .ok (.iload_n 1, 1) := by decide +kernel
theorem dX4_sheetFault_1 : decode cX4_sheetFault 1 = .ok (.iconst 0, 1) := by decide +kernel
theorem dX4_sheetFault_2 : decode cX4_sheetFault 2 = .ok (.iconst 3, 1) := by decide +kernel
theorem dX4_sheetFault_3 : decode cX4_sheetFault 3 = .ok (.invokestatic 48, 3) := by decide +kernel
theorem dX4_sheetFault_6 : decode cX4_sheetFault 6 = .ok (.ifCond .ne 6, 3) := by decide +kernel
theorem dX4_sheetFault_9 : decode cX4_sheetFault 9 = .ok (.ldc 52, 2) := by decide +kernel
theorem dX4_sheetFault_11 : decode cX4_sheetFault 11 = .ok (.ireturn, 1) := by decide +kernel
theorem dX4_sheetFault_12 : decode cX4_sheetFault 12 = .ok (.aload_n 0, 1) := by decide +kernel
theorem dX4_sheetFault_13 : decode cX4_sheetFault 13 = .ok (.getfield 31, 3) := by decide +kernel
theorem dX4_sheetFault_16 : decode cX4_sheetFault 16 = .ok (.iload_n 1, 1) := by decide +kernel
theorem dX4_sheetFault_17 : decode cX4_sheetFault 17 = .ok (.aaload, 1) := by decide +kernel
theorem dX4_sheetFault_18 : decode cX4_sheetFault 18 = .ok (.getfield 200, 3) := by decide +kernel
theorem dX4_sheetFault_21 : decode cX4_sheetFault 21 = .ok (.ifCond .ne 8, 3) := by decide +kernel
theorem dX4_sheetFault_24 : decode cX4_sheetFault 24 = .ok (.ldc 203, 2) := by decide +kernel
theorem dX4_sheetFault_26 : decode cX4_sheetFault 26 = .ok (.goto 4, 3) := by decide +kernel
theorem dX4_sheetFault_29 : decode cX4_sheetFault 29 = .ok (.iconst 0, 1) := by decide +kernel
theorem dX4_sheetFault_30 : decode cX4_sheetFault 30 = .ok (.ireturn, 1) := by decide +kernel
theorem dX4_isWithin_0 : decode cX4_isWithin 0 = .ok (.iload_n 0, 1) := by decide +kernel
theorem dX4_isWithin_1 : decode cX4_isWithin 1 = .ok (.iload_n 1, 1) := by decide +kernel
theorem dX4_isWithin_2 : decode cX4_isWithin 2 = .ok (.if_icmp .lt 12, 3) := by decide +kernel
theorem dX4_isWithin_5 : decode cX4_isWithin 5 = .ok (.iload_n 0, 1) := by decide +kernel
theorem dX4_isWithin_6 : decode cX4_isWithin 6 = .ok (.iload_n 2, 1) := by decide +kernel
theorem dX4_isWithin_7 : decode cX4_isWithin 7 = .ok (.if_icmp .gt 7, 3) := by decide +kernel
theorem dX4_isWithin_10 : decode cX4_isWithin 10 = .ok (.iconst 1, 1) := by decide +kernel
theorem dX4_isWithin_11 : decode cX4_isWithin 11 = .ok (.goto 4, 3) := by decide +kernel
theorem dX4_isWithin_14 : decode cX4_isWithin 14 = .ok (.iconst 0, 1) := by decide +kernel
theorem dX4_isWithin_15 : decode cX4_isWithin 15 = .ok (.ireturn, 1) := by decide +kernel
theorem dX4_isStreet_0 : decode cX4_isStreet 0 = .ok (.iload_n 0, 1) := by decide +kernel
theorem dX4_isStreet_1 : decode cX4_isStreet 1 = .ok (.ifCond .lt 12, 3) := by decide +kernel
theorem dX4_isStreet_4 : decode cX4_isStreet 4 = .ok (.iload_n 0, 1) := by decide +kernel
theorem dX4_isStreet_5 : decode cX4_isStreet 5 = .ok (.iconst 3, 1) := by decide +kernel
theorem dX4_isStreet_6 : decode cX4_isStreet 6 = .ok (.if_icmp .ge 7, 3) := by decide +kernel
theorem dX4_isStreet_9 : decode cX4_isStreet 9 = .ok (.iconst 1, 1) := by decide +kernel
theorem dX4_isStreet_10 : decode cX4_isStreet 10 = .ok (.goto 4, 3) := by decide +kernel
theorem dX4_isStreet_13 : decode cX4_isStreet 13 = .ok (.iconst 0, 1) := by decide +kernel
theorem dX4_isStreet_14 : decode cX4_isStreet 14 = .ok (.ireturn, 1) := by decide +kernel
theorem dX4_isStretch_0 : decode cX4_isStretch 0 = .ok (.iload_n 0, 1) := by decide +kernel
theorem dX4_isStretch_1 : decode cX4_isStretch 1 = .ok (.invokestatic 75, 3) := by decide +kernel
theorem dX4_isStretch_4 : decode cX4_isStretch 4 = .ok (.ifCond .eq 17, 3) := by decide +kernel
theorem dX4_isStretch_7 : decode cX4_isStretch 7 = .ok (.iload_n 1, 1) := by decide +kernel
theorem dX4_isStretch_8 : decode cX4_isStretch 8 = .ok (.ifCond .lt 13, 3) := by decide +kernel
theorem dX4_isStretch_11 : decode cX4_isStretch 11 = .ok (.iload_n 1, 1) := by decide +kernel
theorem dX4_isStretch_12 : decode cX4_isStretch 12 = .ok (.bipush 20, 2) := by decide +kernel
theorem dX4_isStretch_14 : decode cX4_isStretch 14 = .ok (.if_icmp .ge 7, 3) := by decide +kernel
theorem dX4_isStretch_17 : decode cX4_isStretch 17 = .ok (.iconst 1, 1) := by decide +kernel
theorem dX4_isStretch_18 : decode cX4_isStretch 18 = .ok (.goto 4, 3) := by decide +kernel
theorem dX4_isStretch_21 : decode cX4_isStretch 21 = .ok (.iconst 0, 1) := by decide +kernel
theorem dX4_isStretch_22 : decode cX4_isStretch 22 = .ok (.ireturn, 1) := by decide +kernel
theorem dX4_isKind_0 : decode cX4_isKind 0 = .ok (.iload_n 0, 1) := by decide +kernel
theorem dX4_isKind_1 : decode cX4_isKind 1 = .ok (.ifCond .lt 13, 3) := by decide +kernel
theorem dX4_isKind_4 : decode cX4_isKind 4 = .ok (.iload_n 0, 1) := by decide +kernel
theorem dX4_isKind_5 : decode cX4_isKind 5 = .ok (.bipush 6, 2) := by decide +kernel
theorem dX4_isKind_7 : decode cX4_isKind 7 = .ok (.if_icmp .ge 7, 3) := by decide +kernel
theorem dX4_isKind_10 : decode cX4_isKind 10 = .ok (.iconst 1, 1) := by decide +kernel
theorem dX4_isKind_11 : decode cX4_isKind 11 = .ok (.goto 4, 3) := by decide +kernel
theorem dX4_isKind_14 : decode cX4_isKind 14 = .ok (.iconst 0, 1) := by decide +kernel
theorem dX4_isKind_15 : decode cX4_isKind 15 = .ok (.ireturn, 1) := by decide +kernel
theorem dX4_placeOf_0 : decode cX4_placeOf 0 = .ok (.iload_n 0, 1) := by decide +kernel
theorem dX4_placeOf_1 : decode cX4_placeOf 1 = .ok (.bipush 20, 2) := by decide +kernel
theorem dX4_placeOf_3 : decode cX4_placeOf 3 = .ok (.imul, 1) := by decide +kernel
theorem dX4_placeOf_4 : decode cX4_placeOf 4 = .ok (.iload_n 1, 1) := by decide +kernel
theorem dX4_placeOf_5 : decode cX4_placeOf 5 = .ok (.iadd, 1) := by decide +kernel
theorem dX4_placeOf_6 : decode cX4_placeOf 6 = .ok (.ireturn, 1) := by decide +kernel
end
section
theorem dX5_init_0 : decode cX5_init 0 = .ok (.aload_n 0, 1) := by decide +kernel
theorem dX5_init_1 : decode cX5_init 1 = .ok (.invokespecial 1, 3) := by decide +kernel
theorem dX5_init_4 : decode cX5_init 4 = .ok (.aload_n 0, 1) := by decide +kernel
theorem dX5_init_5 : decode cX5_init 5 = .ok (.sipush 147, 3) := by decide +kernel
theorem dX5_init_8 : decode cX5_init 8 = .ok (.newarray .int, 2) := by decide +kernel
theorem dX5_init_10 : decode cX5_init 10 = .ok (.putfield 9, 3) := by decide +kernel
theorem dX5_init_13 : decode cX5_init 13 = .ok (.aload_n 0, 1) := by decide +kernel
theorem dX5_init_14 : decode cX5_init 14 = .ok (.sipush 147, 3) := by decide +kernel
theorem dX5_init_17 : decode cX5_init 17 = .ok (.newarray .int, 2) := by decide +kernel
theorem dX5_init_19 : decode cX5_init 19 = .ok (.putfield 13, 3) := by decide +kernel
theorem dX5_init_22 : decode cX5_init 22 = .ok (.aload_n 0, 1) := by decide +kernel
theorem dX5_init_23 : decode cX5_init 23 = .ok (.sipush 147, 3) := by decide +kernel
theorem dX5_init_26 : decode cX5_init 26 = .ok (.newarray .int, 2) := by decide +kernel
theorem dX5_init_28 : decode cX5_init 28 = .ok (.putfield 16, 3) := by decide +kernel
theorem dX5_init_31 : decode cX5_init 31 = .ok (.aload_n 0, 1) := by decide +kernel
theorem dX5_init_32 : decode cX5_init 32 = .ok (.bipush 7, 2) := by decide +kernel
theorem dX5_init_34 : decode cX5_init 34 = .ok (.newarray .int, 2) := by decide +kernel
theorem dX5_init_36 : decode cX5_init 36 = .ok (.putfield 19, 3) := by decide +kernel
theorem dX5_init_39 : decode cX5_init 39 = .ok (.aload_n 0, 1) := by decide +kernel
theorem dX5_init_40 : decode cX5_init 40 = .ok (.bipush 20, 2) := by decide +kernel
theorem dX5_init_42 : decode cX5_init 42 = .ok (.newarray .int, 2) := by decide +kernel
theorem dX5_init_44 : decode cX5_init 44 = .ok (.putfield 22, 3) := by decide +kernel
theorem dX5_init_47 : decode cX5_init 47 = .ok (.aload_n 0, 1) := by decide +kernel
theorem dX5_init_48 : decode cX5_init 48 = .ok (.bipush 120, 2) := by decide +kernel
theorem dX5_init_50 : decode cX5_init 50 = .ok (.newarray .int, 2) := by decide +kernel
theorem dX5_init_52 : decode cX5_init 52 = .ok (.putfield 25, 3) := by decide +kernel
theorem dX5_init_55 : decode cX5_init 55 = .ok (.aload_n 0, 1) := by decide +kernel
theorem dX5_init_56 : decode cX5_init 56 = .ok (.bipush 54, 2) := by decide +kernel
theorem dX5_init_58 : decode cX5_init 58 = .ok (.newarray .char, 2) := by decide +kernel
theorem dX5_init_60 : decode cX5_init 60 = .ok (.dup, 1) := by decide +kernel
theorem dX5_init_61 : decode cX5_init 61 = .ok (.iconst 0, 1) := by decide +kernel
theorem dX5_init_62 : decode cX5_init 62 = .ok (.bipush 100, 2) := by decide +kernel
theorem dX5_init_64 : decode cX5_init 64 = .ok (.castore, 1) := by decide +kernel
theorem dX5_init_65 : decode cX5_init 65 = .ok (.dup, 1) := by decide +kernel
theorem dX5_init_66 : decode cX5_init 66 = .ok (.iconst 1, 1) := by decide +kernel
theorem dX5_init_67 : decode cX5_init 67 = .ok (.bipush 114, 2) := by decide +kernel
theorem dX5_init_69 : decode cX5_init 69 = .ok (.castore, 1) := by decide +kernel
theorem dX5_init_70 : decode cX5_init 70 = .ok (.dup, 1) := by decide +kernel
theorem dX5_init_71 : decode cX5_init 71 = .ok (.iconst 2, 1) := by decide +kernel
theorem dX5_init_72 : decode cX5_init 72 = .ok (.bipush 105, 2) := by decide +kernel
theorem dX5_init_74 : decode cX5_init 74 = .ok (.castore, 1) := by decide +kernel
theorem dX5_init_75 : decode cX5_init 75 = .ok (.dup, 1) := by decide +kernel
theorem dX5_init_76 : decode cX5_init 76 = .ok (.iconst 3, 1) := by decide +kernel
theorem dX5_init_77 : decode cX5_init 77 = .ok (.bipush 118, 2) := by decide +kernel
theorem dX5_init_79 : decode cX5_init 79 = .ok (.castore, 1) := by decide +kernel
theorem dX5_init_80 : decode cX5_init 80 = .ok (.dup, 1) := by decide +kernel
theorem dX5_init_81 : decode cX5_init 81 = .ok (.iconst 4, 1) := by decide +kernel
theorem dX5_init_82 : decode cX5_init 82 = .ok (.bipush 101, 2) := by decide +kernel
theorem dX5_init_84 : decode cX5_init 84 = .ok (.castore, 1) := by decide +kernel
theorem dX5_init_85 : decode cX5_init 85 = .ok (.dup, 1) := by decide +kernel
theorem dX5_init_86 : decode cX5_init 86 = .ok (.iconst 5, 1) := by decide +kernel
theorem dX5_init_87 : decode cX5_init 87 = .ok (.bipush 114, 2) := by decide +kernel
theorem dX5_init_89 : decode cX5_init 89 = .ok (.castore, 1) := by decide +kernel
theorem dX5_init_90 : decode cX5_init 90 = .ok (.dup, 1) := by decide +kernel
theorem dX5_init_91 : decode cX5_init 91 = .ok (.bipush 6, 2) := by decide +kernel
theorem dX5_init_93 : decode cX5_init 93 = .ok (.bipush 32, 2) := by decide +kernel
theorem dX5_init_95 : decode cX5_init 95 = .ok (.castore, 1) := by decide +kernel
theorem dX5_init_96 : decode cX5_init 96 = .ok (.dup, 1) := by decide +kernel
theorem dX5_init_97 : decode cX5_init 97 = .ok (.bipush 7, 2) := by decide +kernel
theorem dX5_init_99 : decode cX5_init 99 = .ok (.bipush 32, 2) := by decide +kernel
theorem dX5_init_101 : decode cX5_init 101 = .ok (.castore, 1) := by decide +kernel
theorem dX5_init_102 : decode cX5_init 102 = .ok (.dup, 1) := by decide +kernel
theorem dX5_init_103 : decode cX5_init 103 = .ok (.bipush 8, 2) := by decide +kernel
theorem dX5_init_105 : decode cX5_init 105 = .ok (.bipush 32, 2) := by decide +kernel
theorem dX5_init_107 : decode cX5_init 107 = .ok (.castore, 1) := by decide +kernel
theorem dX5_init_108 : decode cX5_init 108 = .ok (.dup, 1) := by decide +kernel
theorem dX5_init_109 : decode cX5_init 109 = .ok (.bipush 9, 2) := by decide +kernel
theorem dX5_init_111 : decode cX5_init 111 = .ok (.bipush 98, 2) := by decide +kernel
theorem dX5_init_113 : decode cX5_init 113 = .ok (.castore, 1) := by decide +kernel
theorem dX5_init_114 : decode cX5_init 114 = .ok (.dup, 1) := by decide +kernel
theorem dX5_init_115 : decode cX5_init 115 = .ok (.bipush 10, 2) := by decide +kernel
theorem dX5_init_117 : decode cX5_init 117 = .ok (.bipush 117, 2) := by decide +kernel
theorem dX5_init_119 : decode cX5_init 119 = .ok (.castore, 1) := by decide +kernel
theorem dX5_init_120 : decode cX5_init 120 = .ok (.dup, 1) := by decide +kernel
theorem dX5_init_121 : decode cX5_init 121 = .ok (.bipush 11, 2) := by decide +kernel
theorem dX5_init_123 : decode cX5_init 123 = .ok (.bipush 115, 2) := by decide +kernel
theorem dX5_init_125 : decode cX5_init 125 = .ok (.castore, 1) := by decide +kernel
theorem dX5_init_126 : decode cX5_init 126 = .ok (.dup, 1) := by decide +kernel
theorem dX5_init_127 : decode cX5_init 127 = .ok (.bipush 12, 2) := by decide +kernel
theorem dX5_init_129 : decode cX5_init 129 = .ok (.bipush 32, 2) := by decide +kernel
theorem dX5_init_131 : decode cX5_init 131 = .ok (.castore, 1) := by decide +kernel
theorem dX5_init_132 : decode cX5_init 132 = .ok (.dup, 1) := by decide +kernel
theorem dX5_init_133 : decode cX5_init 133 = .ok (.bipush 13, 2) := by decide +kernel
theorem dX5_init_135 : decode cX5_init 135 = .ok (.bipush 32, 2) := by decide +kernel
theorem dX5_init_137 : decode cX5_init 137 = .ok (.castore, 1) := by decide +kernel
theorem dX5_init_138 : decode cX5_init 138 = .ok (.dup, 1) := by decide +kernel
theorem dX5_init_139 : decode cX5_init 139 = .ok (.bipush 14, 2) := by decide +kernel
theorem dX5_init_141 : decode cX5_init 141 = .ok (.bipush 32, 2) := by decide +kernel
theorem dX5_init_143 : decode cX5_init 143 = .ok (.castore, 1) := by decide +kernel
theorem dX5_init_144 : decode cX5_init 144 = .ok (.dup, 1) := by decide +kernel
theorem dX5_init_145 : decode cX5_init 145 = .ok (.bipush 15, 2) := by decide +kernel
theorem dX5_init_147 : decode cX5_init 147 = .ok (.bipush 32, 2) := by decide +kernel
theorem dX5_init_149 : decode cX5_init 149 = .ok (.castore, 1) := by decide +kernel
theorem dX5_init_150 : decode cX5_init 150 = .ok (.dup, 1) := by decide +kernel
theorem dX5_init_151 : decode cX5_init 151 = .ok (.bipush 16, 2) := by decide +kernel
theorem dX5_init_153 : decode cX5_init 153 = .ok (.bipush 32, 2) := by decide +kernel
theorem dX5_init_155 : decode cX5_init 155 = .ok (.castore, 1) := by decide +kernel
theorem dX5_init_156 : decode cX5_init 156 = .ok (.dup, 1) := by decide +kernel
theorem dX5_init_157 : decode cX5_init 157 = .ok (.bipush 17, 2) := by decide +kernel
theorem dX5_init_159 : decode cX5_init 159 = .ok (.bipush 32, 2) := by decide +kernel
theorem dX5_init_161 : decode cX5_init 161 = .ok (.castore, 1) := by decide +kernel
theorem dX5_init_162 : decode cX5_init 162 = .ok (.dup, 1) := by decide +kernel
theorem dX5_init_163 : decode cX5_init 163 = .ok (.bipush 18, 2) := by decide +kernel
theorem dX5_init_165 : decode cX5_init 165 = .ok (.bipush 108, 2) := by decide +kernel
theorem dX5_init_167 : decode cX5_init 167 = .ok (.castore, 1) := by decide +kernel
theorem dX5_init_168 : decode cX5_init 168 = .ok (.dup, 1) := by decide +kernel
theorem dX5_init_169 : decode cX5_init 169 = .ok (.bipush 19, 2) := by decide +kernel
theorem dX5_init_171 : decode cX5_init 171 = .ok (.bipush 111, 2) := by decide +kernel
theorem dX5_init_173 : decode cX5_init 173 = .ok (.castore, 1) := by decide +kernel
theorem dX5_init_174 : decode cX5_init 174 = .ok (.dup, 1) := by decide +kernel
theorem dX5_init_175 : decode cX5_init 175 = .ok (.bipush 20, 2) := by decide +kernel
theorem dX5_init_177 : decode cX5_init 177 = .ok (.bipush 114, 2) := by decide +kernel
theorem dX5_init_179 : decode cX5_init 179 = .ok (.castore, 1) := by decide +kernel
theorem dX5_init_180 : decode cX5_init 180 = .ok (.dup, 1) := by decide +kernel
theorem dX5_init_181 : decode cX5_init 181 = .ok (.bipush 21, 2) := by decide +kernel
theorem dX5_init_183 : decode cX5_init 183 = .ok (.bipush 114, 2) := by decide +kernel
theorem dX5_init_185 : decode cX5_init 185 = .ok (.castore, 1) := by decide +kernel
theorem dX5_init_186 : decode cX5_init 186 = .ok (.dup, 1) := by decide +kernel
theorem dX5_init_187 : decode cX5_init 187 = .ok (.bipush 22, 2) := by decide +kernel
theorem dX5_init_189 : decode cX5_init 189 = .ok (.bipush 121, 2) := by decide +kernel
theorem dX5_init_191 : decode cX5_init 191 = .ok (.castore, 1) := by decide +kernel
theorem dX5_init_192 : decode cX5_init 192 = .ok (.dup, 1) := by decide +kernel
theorem dX5_init_193 : decode cX5_init 193 = .ok (.bipush 23, 2) := by decide +kernel
theorem dX5_init_195 : decode cX5_init 195 = .ok (.bipush 32, 2) := by decide +kernel
theorem dX5_init_197 : decode cX5_init 197 = .ok (.castore, 1) := by decide +kernel
theorem dX5_init_198 : decode cX5_init 198 = .ok (.dup, 1) := by decide +kernel
theorem dX5_init_199 : decode cX5_init 199 = .ok (.bipush 24, 2) := by decide +kernel
theorem dX5_init_201 : decode cX5_init 201 = .ok (.bipush 32, 2) := by decide +kernel
theorem dX5_init_203 : decode cX5_init 203 = .ok (.castore, 1) := by decide +kernel
theorem dX5_init_204 : decode cX5_init 204 = .ok (.dup, 1) := by decide +kernel
theorem dX5_init_205 : decode cX5_init 205 = .ok (.bipush 25, 2) := by decide +kernel
theorem dX5_init_207 : decode cX5_init 207 = .ok (.bipush 32, 2) := by decide +kernel
theorem dX5_init_209 : decode cX5_init 209 = .ok (.castore, 1) := by decide +kernel
theorem dX5_init_210 : decode cX5_init 210 = .ok (.dup, 1) := by decide +kernel
theorem dX5_init_211 : decode cX5_init 211 = .ok (.bipush 26, 2) := by decide +kernel
theorem dX5_init_213 : decode cX5_init 213 = .ok (.bipush 32, 2) := by decide +kernel
theorem dX5_init_215 : decode cX5_init 215 = .ok (.castore, 1) := by decide +kernel
theorem dX5_init_216 : decode cX5_init 216 = .ok (.dup, 1) := by decide +kernel
theorem dX5_init_217 : decode cX5_init 217 = .ok (.bipush 27, 2) := by decide +kernel
theorem dX5_init_219 : decode cX5_init 219 = .ok (.bipush 108, 2) := by decide +kernel
theorem dX5_init_221 : decode cX5_init 221 = .ok (.castore, 1) := by decide +kernel
theorem dX5_init_222 : decode cX5_init 222 = .ok (.dup, 1) := by decide +kernel
theorem dX5_init_223 : decode cX5_init 223 = .ok (.bipush 28, 2) := by decide +kernel
theorem dX5_init_225 : decode cX5_init 225 = .ok (.bipush 111, 2) := by decide +kernel
theorem dX5_init_227 : decode cX5_init 227 = .ok (.castore, 1) := by decide +kernel
theorem dX5_init_228 : decode cX5_init 228 = .ok (.dup, 1) := by decide +kernel
theorem dX5_init_229 : decode cX5_init 229 = .ok (.bipush 29, 2) := by decide +kernel
theorem dX5_init_231 : decode cX5_init 231 = .ok (.bipush 99, 2) := by decide +kernel
theorem dX5_init_233 : decode cX5_init 233 = .ok (.castore, 1) := by decide +kernel
theorem dX5_init_234 : decode cX5_init 234 = .ok (.dup, 1) := by decide +kernel
theorem dX5_init_235 : decode cX5_init 235 = .ok (.bipush 30, 2) := by decide +kernel
theorem dX5_init_237 : decode cX5_init 237 = .ok (.bipush 97, 2) := by decide +kernel
theorem dX5_init_239 : decode cX5_init 239 = .ok (.castore, 1) := by decide +kernel
theorem dX5_init_240 : decode cX5_init 240 = .ok (.dup, 1) := by decide +kernel
theorem dX5_init_241 : decode cX5_init 241 = .ok (.bipush 31, 2) := by decide +kernel
theorem dX5_init_243 : decode cX5_init 243 = .ok (.bipush 108, 2) := by decide +kernel
theorem dX5_init_245 : decode cX5_init 245 = .ok (.castore, 1) := by decide +kernel
theorem dX5_init_246 : decode cX5_init 246 = .ok (.dup, 1) := by decide +kernel
theorem dX5_init_247 : decode cX5_init 247 = .ok (.bipush 32, 2) := by decide +kernel
theorem dX5_init_249 : decode cX5_init 249 = .ok (.bipush 32, 2) := by decide +kernel
theorem dX5_init_251 : decode cX5_init 251 = .ok (.castore, 1) := by decide +kernel
theorem dX5_init_252 : decode cX5_init 252 = .ok (.dup, 1) := by decide +kernel
theorem dX5_init_253 : decode cX5_init 253 = .ok (.bipush 33, 2) := by decide +kernel
theorem dX5_init_255 : decode cX5_init 255 = .ok (.bipush 32, 2) := by decide +kernel
theorem dX5_init_257 : decode cX5_init 257 = .ok (.castore, 1) := by decide +kernel
theorem dX5_init_258 : decode cX5_init 258 = .ok (.dup, 1) := by decide +kernel
theorem dX5_init_259 : decode cX5_init 259 = .ok (.bipush 34, 2) := by decide +kernel
theorem dX5_init_261 : decode cX5_init 261 = .ok (.bipush 32, 2) := by decide +kernel
theorem dX5_init_263 : decode cX5_init 263 = .ok (.castore, 1) := by decide +kernel
theorem dX5_init_264 : decode cX5_init 264 = .ok (.dup, 1) := by decide +kernel
theorem dX5_init_265 : decode cX5_init 265 = .ok (.bipush 35, 2) := by decide +kernel
theorem dX5_init_267 : decode cX5_init 267 = .ok (.bipush 32, 2) := by decide +kernel
theorem dX5_init_269 : decode cX5_init 269 = .ok (.castore, 1) := by decide +kernel
theorem dX5_init_270 : decode cX5_init 270 = .ok (.dup, 1) := by decide +kernel
theorem dX5_init_271 : decode cX5_init 271 = .ok (.bipush 36, 2) := by decide +kernel
theorem dX5_init_273 : decode cX5_init 273 = .ok (.bipush 97, 2) := by decide +kernel
theorem dX5_init_275 : decode cX5_init 275 = .ok (.castore, 1) := by decide +kernel
theorem dX5_init_276 : decode cX5_init 276 = .ok (.dup, 1) := by decide +kernel
theorem dX5_init_277 : decode cX5_init 277 = .ok (.bipush 37, 2) := by decide +kernel
theorem dX5_init_279 : decode cX5_init 279 = .ok (.bipush 109, 2) := by decide +kernel
theorem dX5_init_281 : decode cX5_init 281 = .ok (.castore, 1) := by decide +kernel
theorem dX5_init_282 : decode cX5_init 282 = .ok (.dup, 1) := by decide +kernel
theorem dX5_init_283 : decode cX5_init 283 = .ok (.bipush 38, 2) := by decide +kernel
theorem dX5_init_285 : decode cX5_init 285 = .ok (.bipush 98, 2) := by decide +kernel
theorem dX5_init_287 : decode cX5_init 287 = .ok (.castore, 1) := by decide +kernel
theorem dX5_init_288 : decode cX5_init 288 = .ok (.dup, 1) := by decide +kernel
theorem dX5_init_289 : decode cX5_init 289 = .ok (.bipush 39, 2) := by decide +kernel
theorem dX5_init_291 : decode cX5_init 291 = .ok (.bipush 117, 2) := by decide +kernel
theorem dX5_init_293 : decode cX5_init 293 = .ok (.castore, 1) := by decide +kernel
theorem dX5_init_294 : decode cX5_init 294 = .ok (.dup, 1) := by decide +kernel
theorem dX5_init_295 : decode cX5_init 295 = .ok (.bipush 40, 2) := by decide +kernel
theorem dX5_init_297 : decode cX5_init 297 = .ok (.bipush 108, 2) := by decide +kernel
theorem dX5_init_299 : decode cX5_init 299 = .ok (.castore, 1) := by decide +kernel
theorem dX5_init_300 : decode cX5_init 300 = .ok (.dup, 1) := by decide +kernel
theorem dX5_init_301 : decode cX5_init 301 = .ok (.bipush 41, 2) := by decide +kernel
theorem dX5_init_303 : decode cX5_init 303 = .ok (.bipush 97, 2) := by decide +kernel
theorem dX5_init_305 : decode cX5_init 305 = .ok (.castore, 1) := by decide +kernel
theorem dX5_init_306 : decode cX5_init 306 = .ok (.dup, 1) := by decide +kernel
theorem dX5_init_307 : decode cX5_init 307 = .ok (.bipush 42, 2) := by decide +kernel
theorem dX5_init_309 : decode cX5_init 309 = .ok (.bipush 110, 2) := by decide +kernel
theorem dX5_init_311 : decode cX5_init 311 = .ok (.castore, 1) := by decide +kernel
theorem dX5_init_312 : decode cX5_init 312 = .ok (.dup, 1) := by decide +kernel
theorem dX5_init_313 : decode cX5_init 313 = .ok (.bipush 43, 2) := by decide +kernel
theorem dX5_init_315 : decode cX5_init 315 = .ok (.bipush 99, 2) := by decide +kernel
theorem dX5_init_317 : decode cX5_init 317 = .ok (.castore, 1) := by decide +kernel
theorem dX5_init_318 : decode cX5_init 318 = .ok (.dup, 1) := by decide +kernel
theorem dX5_init_319 : decode cX5_init 319 = .ok (.bipush 44, 2) := by decide +kernel
theorem dX5_init_321 : decode cX5_init 321 = .ok (.bipush 101, 2) := by decide +kernel
theorem dX5_init_323 : decode cX5_init 323 = .ok (.castore, 1) := by decide +kernel
theorem dX5_init_324 : decode cX5_init 324 = .ok (.dup, 1) := by decide +kernel
theorem dX5_init_325 : decode cX5_init 325 = .ok (.bipush 45, 2) := by decide +kernel
theorem dX5_init_327 : decode cX5_init 327 = .ok (.bipush 114, 2) := by decide +kernel
theorem dX5_init_329 : decode cX5_init 329 = .ok (.castore, 1) := by decide +kernel
theorem dX5_init_330 : decode cX5_init 330 = .ok (.dup, 1) := by decide +kernel
theorem dX5_init_331 : decode cX5_init 331 = .ok (.bipush 46, 2) := by decide +kernel
theorem dX5_init_333 : decode cX5_init 333 = .ok (.bipush 97, 2) := by decide +kernel
theorem dX5_init_335 : decode cX5_init 335 = .ok (.castore, 1) := by decide +kernel
theorem dX5_init_336 : decode cX5_init 336 = .ok (.dup, 1) := by decide +kernel
theorem dX5_init_337 : decode cX5_init 337 = .ok (.bipush 47, 2) := by decide +kernel
theorem dX5_init_339 : decode cX5_init 339 = .ok (.bipush 99, 2) := by decide +kernel
theorem dX5_init_341 : decode cX5_init 341 = .ok (.castore, 1) := by decide +kernel
theorem dX5_init_342 : decode cX5_init 342 = .ok (.dup, 1) := by decide +kernel
theorem dX5_init_343 : decode cX5_init 343 = .ok (.bipush 48, 2) := by decide +kernel
theorem dX5_init_345 : decode cX5_init 345 = .ok (.bipush 101, 2) := by decide +kernel
theorem dX5_init_347 : decode cX5_init 347 = .ok (.castore, 1) := by decide +kernel
theorem dX5_init_348 : decode cX5_init 348 = .ok (.dup, 1) := by decide +kernel
theorem dX5_init_349 : decode cX5_init 349 = .ok (.bipush 49, 2) := by decide +kernel
theorem dX5_init_351 : decode cX5_init 351 = .ok (.bipush 114, 2) := by decide +kernel
theorem dX5_init_353 : decode cX5_init 353 = .ok (.castore, 1) := by decide +kernel
theorem dX5_init_354 : decode cX5_init 354 = .ok (.dup, 1) := by decide +kernel
theorem dX5_init_355 : decode cX5_init 355 = .ok (.bipush 50, 2) := by decide +kernel
theorem dX5_init_357 : decode cX5_init 357 = .ok (.bipush 32, 2) := by decide +kernel
theorem dX5_init_359 : decode cX5_init 359 = .ok (.castore, 1) := by decide +kernel
theorem dX5_init_360 : decode cX5_init 360 = .ok (.dup, 1) := by decide +kernel
theorem dX5_init_361 : decode cX5_init 361 = .ok (.bipush 51, 2) := by decide +kernel
theorem dX5_init_363 : decode cX5_init 363 = .ok (.bipush 32, 2) := by decide +kernel
theorem dX5_init_365 : decode cX5_init 365 = .ok (.castore, 1) := by decide +kernel
theorem dX5_init_366 : decode cX5_init 366 = .ok (.dup, 1) := by decide +kernel
theorem dX5_init_367 : decode cX5_init 367 = .ok (.bipush 52, 2) := by decide +kernel
theorem dX5_init_369 : decode cX5_init 369 = .ok (.bipush 32, 2) := by decide +kernel
theorem dX5_init_371 : decode cX5_init 371 = .ok (.castore, 1) := by decide +kernel
theorem dX5_init_372 : decode cX5_init 372 = .ok (.dup, 1) := by decide +kernel
theorem dX5_init_373 : decode cX5_init 373 = .ok (.bipush 53, 2) := by decide +kernel
theorem dX5_init_375 : decode cX5_init 375 = .ok (.bipush 32, 2) := by decide +kernel
theorem dX5_init_377 : decode cX5_init 377 = .ok (.castore, 1) := by decide +kernel
theorem dX5_init_378 : decode cX5_init 378 = .ok (.putfield 28, 3) := by decide +kernel
theorem dX5_init_381 : decode cX5_init 381 = .ok (.aload_n 0, 1) := by decide +kernel
theorem dX5_init_382 : decode cX5_init 382 = .ok (.bipush 18, 2) := by decide +kernel
theorem dX5_init_384 : decode cX5_init 384 = .ok (.newarray .char, 2) := by decide +kernel
theorem dX5_init_386 : decode cX5_init 386 = .ok (.dup, 1) := by decide +kernel
theorem dX5_init_387 : decode cX5_init 387 = .ok (.iconst 0, 1) := by decide +kernel
theorem dX5_init_388 : decode cX5_init 388 = .ok (.bipush 119, 2) := by decide +kernel
theorem dX5_init_390 : decode cX5_init 390 = .ok (.castore, 1) := by decide +kernel
theorem dX5_init_391 : decode cX5_init 391 = .ok (.dup, 1) := by decide +kernel
theorem dX5_init_392 : decode cX5_init 392 = .ok (.iconst 1, 1) := by decide +kernel
theorem dX5_init_393 : decode cX5_init 393 = .ok (.bipush 105, 2) := by decide +kernel
theorem dX5_init_395 : decode cX5_init 395 = .ok (.castore, 1) := by decide +kernel
theorem dX5_init_396 : decode cX5_init 396 = .ok (.dup, 1) := by decide +kernel
theorem dX5_init_397 : decode cX5_init 397 = .ok (.iconst 2, 1) := by decide +kernel
theorem dX5_init_398 : decode cX5_init 398 = .ok (.bipush 115, 2) := by decide +kernel
theorem dX5_init_400 : decode cX5_init 400 = .ok (.castore, 1) := by decide +kernel
theorem dX5_init_401 : decode cX5_init 401 = .ok (.dup, 1) := by decide +kernel
theorem dX5_init_402 : decode cX5_init 402 = .ok (.iconst 3, 1) := by decide +kernel
theorem dX5_init_403 : decode cX5_init 403 = .ok (.bipush 104, 2) := by decide +kernel
theorem dX5_init_405 : decode cX5_init 405 = .ok (.castore, 1) := by decide +kernel
theorem dX5_init_406 : decode cX5_init 406 = .ok (.dup, 1) := by decide +kernel
theorem dX5_init_407 : decode cX5_init 407 = .ok (.iconst 4, 1) := by decide +kernel
theorem dX5_init_408 : decode cX5_init 408 = .ok (.bipush 32, 2) := by decide +kernel
theorem dX5_init_410 : decode cX5_init 410 = .ok (.castore, 1) := by decide +kernel
theorem dX5_init_411 : decode cX5_init 411 = .ok (.dup, 1) := by decide +kernel
theorem dX5_init_412 : decode cX5_init 412 = .ok (.iconst 5, 1) := by decide +kernel
theorem dX5_init_413 : decode cX5_init 413 = .ok (.bipush 32, 2) := by decide +kernel
theorem dX5_init_415 : decode cX5_init 415 = .ok (.castore, 1) := by decide +kernel
theorem dX5_init_416 : decode cX5_init 416 = .ok (.dup, 1) := by decide +kernel
theorem dX5_init_417 : decode cX5_init 417 = .ok (.bipush 6, 2) := by decide +kernel
theorem dX5_init_419 : decode cX5_init 419 = .ok (.bipush 32, 2) := by decide +kernel
theorem dX5_init_421 : decode cX5_init 421 = .ok (.castore, 1) := by decide +kernel
theorem dX5_init_422 : decode cX5_init 422 = .ok (.dup, 1) := by decide +kernel
theorem dX5_init_423 : decode cX5_init 423 = .ok (.bipush 7, 2) := by decide +kernel
theorem dX5_init_425 : decode cX5_init 425 = .ok (.bipush 32, 2) := by decide +kernel
theorem dX5_init_427 : decode cX5_init 427 = .ok (.castore, 1) := by decide +kernel
theorem dX5_init_428 : decode cX5_init 428 = .ok (.dup, 1) := by decide +kernel
theorem dX5_init_429 : decode cX5_init 429 = .ok (.bipush 8, 2) := by decide +kernel
theorem dX5_init_431 : decode cX5_init 431 = .ok (.bipush 32, 2) := by decide +kernel
theorem dX5_init_433 : decode cX5_init 433 = .ok (.castore, 1) := by decide +kernel
theorem dX5_init_434 : decode cX5_init 434 = .ok (.dup, 1) := by decide +kernel
theorem dX5_init_435 : decode cX5_init 435 = .ok (.bipush 9, 2) := by decide +kernel
theorem dX5_init_437 : decode cX5_init 437 = .ok (.bipush 105, 2) := by decide +kernel
theorem dX5_init_439 : decode cX5_init 439 = .ok (.castore, 1) := by decide +kernel
theorem dX5_init_440 : decode cX5_init 440 = .ok (.dup, 1) := by decide +kernel
theorem dX5_init_441 : decode cX5_init 441 = .ok (.bipush 10, 2) := by decide +kernel
theorem dX5_init_443 : decode cX5_init 443 = .ok (.bipush 110, 2) := by decide +kernel
theorem dX5_init_445 : decode cX5_init 445 = .ok (.castore, 1) := by decide +kernel
theorem dX5_init_446 : decode cX5_init 446 = .ok (.dup, 1) := by decide +kernel
theorem dX5_init_447 : decode cX5_init 447 = .ok (.bipush 11, 2) := by decide +kernel
theorem dX5_init_449 : decode cX5_init 449 = .ok (.bipush 32, 2) := by decide +kernel
theorem dX5_init_451 : decode cX5_init 451 = .ok (.castore, 1) := by decide +kernel
theorem dX5_init_452 : decode cX5_init 452 = .ok (.dup, 1) := by decide +kernel
theorem dX5_init_453 : decode cX5_init 453 = .ok (.bipush 12, 2) := by decide +kernel
theorem dX5_init_455 : decode cX5_init 455 = .ok (.bipush 32, 2) := by decide +kernel
theorem dX5_init_457 : decode cX5_init 457 = .ok (.castore, 1) := by decide +kernel
theorem dX5_init_458 : decode cX5_init 458 = .ok (.dup, 1) := by decide +kernel
theorem dX5_init_459 : decode cX5_init 459 = .ok (.bipush 13, 2) := by decide +kernel
theorem dX5_init_461 : decode cX5_init 461 = .ok (.bipush 32, 2) := by decide +kernel
theorem dX5_init_463 : decode cX5_init 463 = .ok (.castore, 1) := by decide +kernel
theorem dX5_init_464 : decode cX5_init 464 = .ok (.dup, 1) := by decide +kernel
theorem dX5_init_465 : decode cX5_init 465 = .ok (.bipush 14, 2) := by decide +kernel
theorem dX5_init_467 : decode cX5_init 467 = .ok (.bipush 32, 2) := by decide +kernel
theorem dX5_init_469 : decode cX5_init 469 = .ok (.castore, 1) := by decide +kernel
theorem dX5_init_470 : decode cX5_init 470 = .ok (.dup, 1) := by decide +kernel
theorem dX5_init_471 : decode cX5_init 471 = .ok (.bipush 15, 2) := by decide +kernel
theorem dX5_init_473 : decode cX5_init 473 = .ok (.bipush 32, 2) := by decide +kernel
theorem dX5_init_475 : decode cX5_init 475 = .ok (.castore, 1) := by decide +kernel
theorem dX5_init_476 : decode cX5_init 476 = .ok (.dup, 1) := by decide +kernel
theorem dX5_init_477 : decode cX5_init 477 = .ok (.bipush 16, 2) := by decide +kernel
theorem dX5_init_479 : decode cX5_init 479 = .ok (.bipush 32, 2) := by decide +kernel
theorem dX5_init_481 : decode cX5_init 481 = .ok (.castore, 1) := by decide +kernel
theorem dX5_init_482 : decode cX5_init 482 = .ok (.dup, 1) := by decide +kernel
theorem dX5_init_483 : decode cX5_init 483 = .ok (.bipush 17, 2) := by decide +kernel
theorem dX5_init_485 : decode cX5_init 485 = .ok (.bipush 32, 2) := by decide +kernel
theorem dX5_init_487 : decode cX5_init 487 = .ok (.castore, 1) := by decide +kernel
theorem dX5_init_488 : decode cX5_init 488 = .ok (.putfield 32, 3) := by decide +kernel
theorem dX5_init_491 : decode cX5_init 491 = .ok (.aload_n 0, 1) := by decide +kernel
theorem dX5_init_492 : decode cX5_init 492 = .ok (.bipush 54, 2) := by decide +kernel
theorem dX5_init_494 : decode cX5_init 494 = .ok (.newarray .char, 2) := by decide +kernel
theorem dX5_init_496 : decode cX5_init 496 = .ok (.dup, 1) := by decide +kernel
theorem dX5_init_497 : decode cX5_init 497 = .ok (.iconst 0, 1) := by decide +kernel
theorem dX5_init_498 : decode cX5_init 498 = .ok (.bipush 99, 2) := by decide +kernel
theorem dX5_init_500 : decode cX5_init 500 = .ok (.castore, 1) := by decide +kernel
theorem dX5_init_501 : decode cX5_init 501 = .ok (.dup, 1) := by decide +kernel
theorem dX5_init_502 : decode cX5_init 502 = .ok (.iconst 1, 1) := by decide +kernel
theorem dX5_init_503 : decode cX5_init 503 = .ok (.bipush 108, 2) := by decide +kernel
theorem dX5_init_505 : decode cX5_init 505 = .ok (.castore, 1) := by decide +kernel
theorem dX5_init_506 : decode cX5_init 506 = .ok (.dup, 1) := by decide +kernel
theorem dX5_init_507 : decode cX5_init 507 = .ok (.iconst 2, 1) := by decide +kernel
theorem dX5_init_508 : decode cX5_init 508 = .ok (.bipush 101, 2) := by decide +kernel
theorem dX5_init_510 : decode cX5_init 510 = .ok (.castore, 1) := by decide +kernel
theorem dX5_init_511 : decode cX5_init 511 = .ok (.dup, 1) := by decide +kernel
theorem dX5_init_512 : decode cX5_init 512 = .ok (.iconst 3, 1) := by decide +kernel
theorem dX5_init_513 : decode cX5_init 513 = .ok (.bipush 97, 2) := by decide +kernel
theorem dX5_init_515 : decode cX5_init 515 = .ok (.castore, 1) := by decide +kernel
theorem dX5_init_516 : decode cX5_init 516 = .ok (.dup, 1) := by decide +kernel
theorem dX5_init_517 : decode cX5_init 517 = .ok (.iconst 4, 1) := by decide +kernel
theorem dX5_init_518 : decode cX5_init 518 = .ok (.bipush 114, 2) := by decide +kernel
theorem dX5_init_520 : decode cX5_init 520 = .ok (.castore, 1) := by decide +kernel
theorem dX5_init_521 : decode cX5_init 521 = .ok (.dup, 1) := by decide +kernel
theorem dX5_init_522 : decode cX5_init 522 = .ok (.iconst 5, 1) := by decide +kernel
theorem dX5_init_523 : decode cX5_init 523 = .ok (.bipush 32, 2) := by decide +kernel
theorem dX5_init_525 : decode cX5_init 525 = .ok (.castore, 1) := by decide +kernel
theorem dX5_init_526 : decode cX5_init 526 = .ok (.dup, 1) := by decide +kernel
theorem dX5_init_527 : decode cX5_init 527 = .ok (.bipush 6, 2) := by decide +kernel
theorem dX5_init_529 : decode cX5_init 529 = .ok (.bipush 32, 2) := by decide +kernel
theorem dX5_init_531 : decode cX5_init 531 = .ok (.castore, 1) := by decide +kernel
theorem dX5_init_532 : decode cX5_init 532 = .ok (.dup, 1) := by decide +kernel
theorem dX5_init_533 : decode cX5_init 533 = .ok (.bipush 7, 2) := by decide +kernel
theorem dX5_init_535 : decode cX5_init 535 = .ok (.bipush 32, 2) := by decide +kernel
theorem dX5_init_537 : decode cX5_init 537 = .ok (.castore, 1) := by decide +kernel
theorem dX5_init_538 : decode cX5_init 538 = .ok (.dup, 1) := by decide +kernel
theorem dX5_init_539 : decode cX5_init 539 = .ok (.bipush 8, 2) := by decide +kernel
theorem dX5_init_541 : decode cX5_init 541 = .ok (.bipush 32, 2) := by decide +kernel
theorem dX5_init_543 : decode cX5_init 543 = .ok (.castore, 1) := by decide +kernel
theorem dX5_init_544 : decode cX5_init 544 = .ok (.dup, 1) := by decide +kernel
theorem dX5_init_545 : decode cX5_init 545 = .ok (.bipush 9, 2) := by decide +kernel
theorem dX5_init_547 : decode cX5_init 547 = .ok (.bipush 98, 2) := by decide +kernel
theorem dX5_init_549 : decode cX5_init 549 = .ok (.castore, 1) := by decide +kernel
theorem dX5_init_550 : decode cX5_init 550 = .ok (.dup, 1) := by decide +kernel
theorem dX5_init_551 : decode cX5_init 551 = .ok (.bipush 10, 2) := by decide +kernel
theorem dX5_init_553 : decode cX5_init 553 = .ok (.bipush 117, 2) := by decide +kernel
theorem dX5_init_555 : decode cX5_init 555 = .ok (.castore, 1) := by decide +kernel
theorem dX5_init_556 : decode cX5_init 556 = .ok (.dup, 1) := by decide +kernel
theorem dX5_init_557 : decode cX5_init 557 = .ok (.bipush 11, 2) := by decide +kernel
theorem dX5_init_559 : decode cX5_init 559 = .ok (.bipush 109, 2) := by decide +kernel
theorem dX5_init_561 : decode cX5_init 561 = .ok (.castore, 1) := by decide +kernel
theorem dX5_init_562 : decode cX5_init 562 = .ok (.dup, 1) := by decide +kernel
theorem dX5_init_563 : decode cX5_init 563 = .ok (.bipush 12, 2) := by decide +kernel
theorem dX5_init_565 : decode cX5_init 565 = .ok (.bipush 112, 2) := by decide +kernel
theorem dX5_init_567 : decode cX5_init 567 = .ok (.castore, 1) := by decide +kernel
theorem dX5_init_568 : decode cX5_init 568 = .ok (.dup, 1) := by decide +kernel
theorem dX5_init_569 : decode cX5_init 569 = .ok (.bipush 13, 2) := by decide +kernel
theorem dX5_init_571 : decode cX5_init 571 = .ok (.bipush 32, 2) := by decide +kernel
theorem dX5_init_573 : decode cX5_init 573 = .ok (.castore, 1) := by decide +kernel
theorem dX5_init_574 : decode cX5_init 574 = .ok (.dup, 1) := by decide +kernel
theorem dX5_init_575 : decode cX5_init 575 = .ok (.bipush 14, 2) := by decide +kernel
theorem dX5_init_577 : decode cX5_init 577 = .ok (.bipush 32, 2) := by decide +kernel
theorem dX5_init_579 : decode cX5_init 579 = .ok (.castore, 1) := by decide +kernel
theorem dX5_init_580 : decode cX5_init 580 = .ok (.dup, 1) := by decide +kernel
theorem dX5_init_581 : decode cX5_init 581 = .ok (.bipush 15, 2) := by decide +kernel
theorem dX5_init_583 : decode cX5_init 583 = .ok (.bipush 32, 2) := by decide +kernel
theorem dX5_init_585 : decode cX5_init 585 = .ok (.castore, 1) := by decide +kernel
theorem dX5_init_586 : decode cX5_init 586 = .ok (.dup, 1) := by decide +kernel
theorem dX5_init_587 : decode cX5_init 587 = .ok (.bipush 16, 2) := by decide +kernel
theorem dX5_init_589 : decode cX5_init 589 = .ok (.bipush 32, 2) := by decide +kernel
theorem dX5_init_591 : decode cX5_init 591 = .ok (.castore, 1) := by decide +kernel
theorem dX5_init_592 : decode cX5_init 592 = .ok (.dup, 1) := by decide +kernel
theorem dX5_init_593 : decode cX5_init 593 = .ok (.bipush 17, 2) := by decide +kernel
theorem dX5_init_595 : decode cX5_init 595 = .ok (.bipush 32, 2) := by decide +kernel
theorem dX5_init_597 : decode cX5_init 597 = .ok (.castore, 1) := by decide +kernel
theorem dX5_init_598 : decode cX5_init 598 = .ok (.dup, 1) := by decide +kernel
theorem dX5_init_599 : decode cX5_init 599 = .ok (.bipush 18, 2) := by decide +kernel
theorem dX5_init_601 : decode cX5_init 601 = .ok (.bipush 110, 2) := by decide +kernel
theorem dX5_init_603 : decode cX5_init 603 = .ok (.castore, 1) := by decide +kernel
theorem dX5_init_604 : decode cX5_init 604 = .ok (.dup, 1) := by decide +kernel
theorem dX5_init_605 : decode cX5_init 605 = .ok (.bipush 19, 2) := by decide +kernel
theorem dX5_init_607 : decode cX5_init 607 = .ok (.bipush 97, 2) := by decide +kernel
theorem dX5_init_609 : decode cX5_init 609 = .ok (.castore, 1) := by decide +kernel
theorem dX5_init_610 : decode cX5_init 610 = .ok (.dup, 1) := by decide +kernel
theorem dX5_init_611 : decode cX5_init 611 = .ok (.bipush 20, 2) := by decide +kernel
theorem dX5_init_613 : decode cX5_init 613 = .ok (.bipush 114, 2) := by decide +kernel
theorem dX5_init_615 : decode cX5_init 615 = .ok (.castore, 1) := by decide +kernel
theorem dX5_init_616 : decode cX5_init 616 = .ok (.dup, 1) := by decide +kernel
theorem dX5_init_617 : decode cX5_init 617 = .ok (.bipush 21, 2) := by decide +kernel
theorem dX5_init_619 : decode cX5_init 619 = .ok (.bipush 114, 2) := by decide +kernel
theorem dX5_init_621 : decode cX5_init 621 = .ok (.castore, 1) := by decide +kernel
theorem dX5_init_622 : decode cX5_init 622 = .ok (.dup, 1) := by decide +kernel
theorem dX5_init_623 : decode cX5_init 623 = .ok (.bipush 22, 2) := by decide +kernel
theorem dX5_init_625 : decode cX5_init 625 = .ok (.bipush 111, 2) := by decide +kernel
theorem dX5_init_627 : decode cX5_init 627 = .ok (.castore, 1) := by decide +kernel
theorem dX5_init_628 : decode cX5_init 628 = .ok (.dup, 1) := by decide +kernel
theorem dX5_init_629 : decode cX5_init 629 = .ok (.bipush 23, 2) := by decide +kernel
theorem dX5_init_631 : decode cX5_init 631 = .ok (.bipush 119, 2) := by decide +kernel
theorem dX5_init_633 : decode cX5_init 633 = .ok (.castore, 1) := by decide +kernel
theorem dX5_init_634 : decode cX5_init 634 = .ok (.dup, 1) := by decide +kernel
theorem dX5_init_635 : decode cX5_init 635 = .ok (.bipush 24, 2) := by decide +kernel
theorem dX5_init_637 : decode cX5_init 637 = .ok (.bipush 32, 2) := by decide +kernel
theorem dX5_init_639 : decode cX5_init 639 = .ok (.castore, 1) := by decide +kernel
theorem dX5_init_640 : decode cX5_init 640 = .ok (.dup, 1) := by decide +kernel
theorem dX5_init_641 : decode cX5_init 641 = .ok (.bipush 25, 2) := by decide +kernel
theorem dX5_init_643 : decode cX5_init 643 = .ok (.bipush 32, 2) := by decide +kernel
theorem dX5_init_645 : decode cX5_init 645 = .ok (.castore, 1) := by decide +kernel
theorem dX5_init_646 : decode cX5_init 646 = .ok (.dup, 1) := by decide +kernel
theorem dX5_init_647 : decode cX5_init 647 = .ok (.bipush 26, 2) := by decide +kernel
theorem dX5_init_649 : decode cX5_init 649 = .ok (.bipush 32, 2) := by decide +kernel
theorem dX5_init_651 : decode cX5_init 651 = .ok (.castore, 1) := by decide +kernel
theorem dX5_init_652 : decode cX5_init 652 = .ok (.dup, 1) := by decide +kernel
theorem dX5_init_653 : decode cX5_init 653 = .ok (.bipush 27, 2) := by decide +kernel
theorem dX5_init_655 : decode cX5_init 655 = .ok (.bipush 115, 2) := by decide +kernel
theorem dX5_init_657 : decode cX5_init 657 = .ok (.castore, 1) := by decide +kernel
theorem dX5_init_658 : decode cX5_init 658 = .ok (.dup, 1) := by decide +kernel
theorem dX5_init_659 : decode cX5_init 659 = .ok (.bipush 28, 2) := by decide +kernel
theorem dX5_init_661 : decode cX5_init 661 = .ok (.bipush 105, 2) := by decide +kernel
theorem dX5_init_663 : decode cX5_init 663 = .ok (.castore, 1) := by decide +kernel
theorem dX5_init_664 : decode cX5_init 664 = .ok (.dup, 1) := by decide +kernel
theorem dX5_init_665 : decode cX5_init 665 = .ok (.bipush 29, 2) := by decide +kernel
theorem dX5_init_667 : decode cX5_init 667 = .ok (.bipush 103, 2) := by decide +kernel
theorem dX5_init_669 : decode cX5_init 669 = .ok (.castore, 1) := by decide +kernel
theorem dX5_init_670 : decode cX5_init 670 = .ok (.dup, 1) := by decide +kernel
theorem dX5_init_671 : decode cX5_init 671 = .ok (.bipush 30, 2) := by decide +kernel
theorem dX5_init_673 : decode cX5_init 673 = .ok (.bipush 110, 2) := by decide +kernel
theorem dX5_init_675 : decode cX5_init 675 = .ok (.castore, 1) := by decide +kernel
theorem dX5_init_676 : decode cX5_init 676 = .ok (.dup, 1) := by decide +kernel
theorem dX5_init_677 : decode cX5_init 677 = .ok (.bipush 31, 2) := by decide +kernel
theorem dX5_init_679 : decode cX5_init 679 = .ok (.bipush 32, 2) := by decide +kernel
theorem dX5_init_681 : decode cX5_init 681 = .ok (.castore, 1) := by decide +kernel
theorem dX5_init_682 : decode cX5_init 682 = .ok (.dup, 1) := by decide +kernel
theorem dX5_init_683 : decode cX5_init 683 = .ok (.bipush 32, 2) := by decide +kernel
theorem dX5_init_685 : decode cX5_init 685 = .ok (.bipush 32, 2) := by decide +kernel
theorem dX5_init_687 : decode cX5_init 687 = .ok (.castore, 1) := by decide +kernel
theorem dX5_init_688 : decode cX5_init 688 = .ok (.dup, 1) := by decide +kernel
theorem dX5_init_689 : decode cX5_init 689 = .ok (.bipush 33, 2) := by decide +kernel
theorem dX5_init_691 : decode cX5_init 691 = .ok (.bipush 32, 2) := by decide +kernel
theorem dX5_init_693 : decode cX5_init 693 = .ok (.castore, 1) := by decide +kernel
theorem dX5_init_694 : decode cX5_init 694 = .ok (.dup, 1) := by decide +kernel
theorem dX5_init_695 : decode cX5_init 695 = .ok (.bipush 34, 2) := by decide +kernel
theorem dX5_init_697 : decode cX5_init 697 = .ok (.bipush 32, 2) := by decide +kernel
theorem dX5_init_699 : decode cX5_init 699 = .ok (.castore, 1) := by decide +kernel
theorem dX5_init_700 : decode cX5_init 700 = .ok (.dup, 1) := by decide +kernel
theorem dX5_init_701 : decode cX5_init 701 = .ok (.bipush 35, 2) := by decide +kernel
theorem dX5_init_703 : decode cX5_init 703 = .ok (.bipush 32, 2) := by decide +kernel
theorem dX5_init_705 : decode cX5_init 705 = .ok (.castore, 1) := by decide +kernel
theorem dX5_init_706 : decode cX5_init 706 = .ok (.dup, 1) := by decide +kernel
theorem dX5_init_707 : decode cX5_init 707 = .ok (.bipush 36, 2) := by decide +kernel
theorem dX5_init_709 : decode cX5_init 709 = .ok (.bipush 112, 2) := by decide +kernel
theorem dX5_init_711 : decode cX5_init 711 = .ok (.castore, 1) := by decide +kernel
theorem dX5_init_712 : decode cX5_init 712 = .ok (.dup, 1) := by decide +kernel
theorem dX5_init_713 : decode cX5_init 713 = .ok (.bipush 37, 2) := by decide +kernel
theorem dX5_init_715 : decode cX5_init 715 = .ok (.bipush 97, 2) := by decide +kernel
theorem dX5_init_717 : decode cX5_init 717 = .ok (.castore, 1) := by decide +kernel
theorem dX5_init_718 : decode cX5_init 718 = .ok (.dup, 1) := by decide +kernel
theorem dX5_init_719 : decode cX5_init 719 = .ok (.bipush 38, 2) := by decide +kernel
theorem dX5_init_721 : decode cX5_init 721 = .ok (.bipush 105, 2) := by decide +kernel
theorem dX5_init_723 : decode cX5_init 723 = .ok (.castore, 1) := by decide +kernel
theorem dX5_init_724 : decode cX5_init 724 = .ok (.dup, 1) := by decide +kernel
theorem dX5_init_725 : decode cX5_init 725 = .ok (.bipush 39, 2) := by decide +kernel
theorem dX5_init_727 : decode cX5_init 727 = .ok (.bipush 110, 2) := by decide +kernel
theorem dX5_init_729 : decode cX5_init 729 = .ok (.castore, 1) := by decide +kernel
theorem dX5_init_730 : decode cX5_init 730 = .ok (.dup, 1) := by decide +kernel
theorem dX5_init_731 : decode cX5_init 731 = .ok (.bipush 40, 2) := by decide +kernel
theorem dX5_init_733 : decode cX5_init 733 = .ok (.bipush 116, 2) := by decide +kernel
theorem dX5_init_735 : decode cX5_init 735 = .ok (.castore, 1) := by decide +kernel
theorem dX5_init_736 : decode cX5_init 736 = .ok (.dup, 1) := by decide +kernel
theorem dX5_init_737 : decode cX5_init 737 = .ok (.bipush 41, 2) := by decide +kernel
theorem dX5_init_739 : decode cX5_init 739 = .ok (.bipush 32, 2) := by decide +kernel
theorem dX5_init_741 : decode cX5_init 741 = .ok (.castore, 1) := by decide +kernel
theorem dX5_init_742 : decode cX5_init 742 = .ok (.dup, 1) := by decide +kernel
theorem dX5_init_743 : decode cX5_init 743 = .ok (.bipush 42, 2) := by decide +kernel
theorem dX5_init_745 : decode cX5_init 745 = .ok (.bipush 32, 2) := by decide +kernel
theorem dX5_init_747 : decode cX5_init 747 = .ok (.castore, 1) := by decide +kernel
theorem dX5_init_748 : decode cX5_init 748 = .ok (.dup, 1) := by decide +kernel
theorem dX5_init_749 : decode cX5_init 749 = .ok (.bipush 43, 2) := by decide +kernel
theorem dX5_init_751 : decode cX5_init 751 = .ok (.bipush 32, 2) := by decide +kernel
theorem dX5_init_753 : decode cX5_init 753 = .ok (.castore, 1) := by decide +kernel
theorem dX5_init_754 : decode cX5_init 754 = .ok (.dup, 1) := by decide +kernel
theorem dX5_init_755 : decode cX5_init 755 = .ok (.bipush 44, 2) := by decide +kernel
theorem dX5_init_757 : decode cX5_init 757 = .ok (.bipush 32, 2) := by decide +kernel
theorem dX5_init_759 : decode cX5_init 759 = .ok (.castore, 1) := by decide +kernel
theorem dX5_init_760 : decode cX5_init 760 = .ok (.dup, 1) := by decide +kernel
theorem dX5_init_761 : decode cX5_init 761 = .ok (.bipush 45, 2) := by decide +kernel
theorem dX5_init_763 : decode cX5_init 763 = .ok (.bipush 104, 2) := by decide +kernel
theorem dX5_init_765 : decode cX5_init 765 = .ok (.castore, 1) := by decide +kernel
theorem dX5_init_766 : decode cX5_init 766 = .ok (.dup, 1) := by decide +kernel
theorem dX5_init_767 : decode cX5_init 767 = .ok (.bipush 46, 2) := by decide +kernel
theorem dX5_init_769 : decode cX5_init 769 = .ok (.bipush 105, 2) := by decide +kernel
theorem dX5_init_771 : decode cX5_init 771 = .ok (.castore, 1) := by decide +kernel
theorem dX5_init_772 : decode cX5_init 772 = .ok (.dup, 1) := by decide +kernel
theorem dX5_init_773 : decode cX5_init 773 = .ok (.bipush 47, 2) := by decide +kernel
theorem dX5_init_775 : decode cX5_init 775 = .ok (.bipush 103, 2) := by decide +kernel
theorem dX5_init_777 : decode cX5_init 777 = .ok (.castore, 1) := by decide +kernel
theorem dX5_init_778 : decode cX5_init 778 = .ok (.dup, 1) := by decide +kernel
theorem dX5_init_779 : decode cX5_init 779 = .ok (.bipush 48, 2) := by decide +kernel
theorem dX5_init_781 : decode cX5_init 781 = .ok (.bipush 104, 2) := by decide +kernel
theorem dX5_init_783 : decode cX5_init 783 = .ok (.castore, 1) := by decide +kernel
theorem dX5_init_784 : decode cX5_init 784 = .ok (.dup, 1) := by decide +kernel
theorem dX5_init_785 : decode cX5_init 785 = .ok (.bipush 49, 2) := by decide +kernel
theorem dX5_init_787 : decode cX5_init 787 = .ok (.bipush 32, 2) := by decide +kernel
theorem dX5_init_789 : decode cX5_init 789 = .ok (.castore, 1) := by decide +kernel
theorem dX5_init_790 : decode cX5_init 790 = .ok (.dup, 1) := by decide +kernel
theorem dX5_init_791 : decode cX5_init 791 = .ok (.bipush 50, 2) := by decide +kernel
theorem dX5_init_793 : decode cX5_init 793 = .ok (.bipush 32, 2) := by decide +kernel
theorem dX5_init_795 : decode cX5_init 795 = .ok (.castore, 1) := by decide +kernel
theorem dX5_init_796 : decode cX5_init 796 = .ok (.dup, 1) := by decide +kernel
theorem dX5_init_797 : decode cX5_init 797 = .ok (.bipush 51, 2) := by decide +kernel
theorem dX5_init_799 : decode cX5_init 799 = .ok (.bipush 32, 2) := by decide +kernel
theorem dX5_init_801 : decode cX5_init 801 = .ok (.castore, 1) := by decide +kernel
theorem dX5_init_802 : decode cX5_init 802 = .ok (.dup, 1) := by decide +kernel
theorem dX5_init_803 : decode cX5_init 803 = .ok (.bipush 52, 2) := by decide +kernel
theorem dX5_init_805 : decode cX5_init 805 = .ok (.bipush 32, 2) := by decide +kernel
theorem dX5_init_807 : decode cX5_init 807 = .ok (.castore, 1) := by decide +kernel
theorem dX5_init_808 : decode cX5_init 808 = .ok (.dup, 1) := by decide +kernel
theorem dX5_init_809 : decode cX5_init 809 = .ok (.bipush 53, 2) := by decide +kernel
theorem dX5_init_811 : decode cX5_init 811 = .ok (.bipush 32, 2) := by decide +kernel
theorem dX5_init_813 : decode cX5_init 813 = .ok (.castore, 1) := by decide +kernel
theorem dX5_init_814 : decode cX5_init 814 = .ok (.putfield 35, 3) := by decide +kernel
theorem dX5_init_817 : decode cX5_init 817 = .ok (.aload_n 0, 1) := by decide +kernel
theorem dX5_init_818 : decode cX5_init 818 = .ok (.iconst 4, 1) := by decide +kernel
theorem dX5_init_819 : decode cX5_init 819 = .ok (.newarray .int, 2) := by decide +kernel
theorem dX5_init_821 : decode cX5_init 821 = .ok (.putfield 38, 3) := by decide +kernel
theorem dX5_init_824 : decode cX5_init 824 = .ok (.aload_n 0, 1) := by decide +kernel
theorem dX5_init_825 : decode cX5_init 825 = .ok (.iconst 4, 1) := by decide +kernel
theorem dX5_init_826 : decode cX5_init 826 = .ok (.newarray .int, 2) := by decide +kernel
theorem dX5_init_828 : decode cX5_init 828 = .ok (.putfield 41, 3) := by decide +kernel
theorem dX5_init_831 : decode cX5_init 831 = .ok (.aload_n 0, 1) := by decide +kernel
theorem dX5_init_832 : decode cX5_init 832 = .ok (.sipush 160, 3) := by decide +kernel
theorem dX5_init_835 : decode cX5_init 835 = .ok (.newarray .long, 2) := by decide +kernel
theorem dX5_init_837 : decode cX5_init 837 = .ok (.putfield 44, 3) := by decide +kernel
theorem dX5_init_840 : decode cX5_init 840 = .ok (.aload_n 0, 1) := by decide +kernel
theorem dX5_init_841 : decode cX5_init 841 = .ok (.bipush 40, 2) := by decide +kernel
theorem dX5_init_843 : decode cX5_init 843 = .ok (.newarray .long, 2) := by decide +kernel
theorem dX5_init_845 : decode cX5_init 845 = .ok (.putfield 48, 3) := by decide +kernel
theorem dX5_init_848 : decode cX5_init 848 = .ok (.aload_n 0, 1) := by decide +kernel
theorem dX5_init_849 : decode cX5_init 849 = .ok (.getfield 9, 3) := by decide +kernel
theorem dX5_init_852 : decode cX5_init 852 = .ok (.iconst 1, 1) := by decide +kernel
theorem dX5_init_853 : decode cX5_init 853 = .ok (.iconst 3, 1) := by decide +kernel
theorem dX5_init_854 : decode cX5_init 854 = .ok (.iastore, 1) := by decide +kernel
theorem dX5_init_855 : decode cX5_init 855 = .ok (.return_, 1) := by decide +kernel
theorem dX5_no_0 : decode cX5_no 0 = .ok (.aload_n 0, 1) := by decide +kernel
theorem dX5_no_1 : decode cX5_no 1 = .ok (.getfield 19, 3) := by decide +kernel
theorem dX5_no_4 : decode cX5_no 4 = .ok (.iload_n 1, 1) := by decide +kernel
theorem dX5_no_5 : decode cX5_no 5 = .ok (.dup2, 1) := by decide +kernel
theorem dX5_no_6 : decode cX5_no 6 = .ok (.iaload, 1) := by decide +kernel
theorem dX5_no_7 : decode cX5_no 7 = .ok (.iconst 1, 1) := by decide +kernel
theorem dX5_no_8 : decode cX5_no 8 = .ok (.iadd, 1) := by decide +kernel
theorem dX5_no_9 : decode cX5_no 9 = .ok (.iastore, 1) := by decide +kernel
theorem dX5_no_10 : decode cX5_no 10 = .ok (.ldc 51, 2) := by decide +kernel
theorem dX5_no_12 : decode cX5_no 12 = .ok (.iload_n 1, 1) := by decide +kernel
theorem dX5_no_13 : decode cX5_no 13 = .ok (.isub, 1) := by decide +kernel
theorem dX5_no_14 : decode cX5_no 14 = .ok (.ireturn, 1) := by decide +kernel
theorem dX5_in1_0 : decode cX5_in1 0 = .ok (.iload_n 0, 1) := by decide +kernel
theorem dX5_in1_1 : decode cX5_in1 1 = .ok (.iload_n 1, 1) := by decide +kernel
theorem dX5_in1_2 : decode cX5_in1 2 = .ok (.if_icmp .lt 12, 3) := by decide +kernel
theorem dX5_in1_5 : decode cX5_in1 5 = .ok (.iload_n 0, 1) := by decide +kernel
theorem dX5_in1_6 : decode cX5_in1 6 = .ok (.iload_n 2, 1) := by decide +kernel
theorem dX5_in1_7 : decode cX5_in1 7 = .ok (.if_icmp .gt 7, 3) := by decide +kernel
theorem dX5_in1_10 : decode cX5_in1 10 = .ok (.iconst 1, 1) := by decide +kernel
theorem dX5_in1_11 : decode cX5_in1 11 = .ok (.goto 4, 3) := by decide +kernel
theorem dX5_in1_14 : decode cX5_in1 14 = .ok (.iconst 0, 1) := by decide +kernel
theorem dX5_in1_15 : decode cX5_in1 15 = .ok (.ireturn, 1) := by decide +kernel
theorem dX5_less_0 : decode cX5_less 0 = .ok (.iload_n 0, 1) := by decide +kernel
theorem dX5_less_1 : decode cX5_less 1 = .ok (.iload_n 1, 1) := by decide +kernel
theorem dX5_less_2 : decode cX5_less 2 = .ok (.if_icmp .ge 7, 3) := by decide +kernel
theorem dX5_less_5 : decode cX5_less 5 = .ok (.iload_n 0, 1) := by decide +kernel
theorem dX5_less_6 : decode cX5_less 6 = .ok (.goto 4, 3) := by decide +kernel
theorem dX5_less_9 : decode cX5_less 9 = .ok (.iload_n 1, 1) := by decide +kernel
theorem dX5_less_10 : decode cX5_less 10 = .ok (.ireturn, 1) := by decide +kernel
theorem dX5_isDriver_0 : decode cX5_isDriver 0 = .ok (.iload_n 1, 1) := by decide +kernel
theorem dX5_isDriver_1 : decode cX5_isDriver 1 = .ok (.iconst 0, 1) := by decide +kernel
theorem dX5_isDriver_2 : decode cX5_isDriver 2 = .ok (.aload_n 0, 1) := by decide +kernel
theorem dX5_isDriver_3 : decode cX5_isDriver 3 = .ok (.getfield 9, 3) := by decide +kernel
theorem dX5_isDriver_6 : decode cX5_isDriver 6 = .ok (.iconst 2, 1) := by decide +kernel
theorem dX5_isDriver_7 : decode cX5_isDriver 7 = .ok (.iaload, 1) := by decide +kernel
theorem dX5_isDriver_8 : decode cX5_isDriver 8 = .ok (.iconst 1, 1) := by decide +kernel
theorem dX5_isDriver_9 : decode cX5_isDriver 9 = .ok (.isub, 1) := by decide +kernel
theorem dX5_isDriver_10 : decode cX5_isDriver 10 = .ok (.invokestatic 52, 3) := by decide +kernel
theorem dX5_isDriver_13 : decode cX5_isDriver 13 = .ok (.ireturn, 1) := by decide +kernel
theorem dX5_isStreet_0 : decode cX5_isStreet 0 = .ok (.iload_n 0, 1) := by decide +kernel
theorem dX5_isStreet_1 : decode cX5_isStreet 1 = .ok (.iconst 0, 1) := by decide +kernel
theorem dX5_isStreet_2 : decode cX5_isStreet 2 = .ok (.iconst 2, 1) := by decide +kernel
theorem dX5_isStreet_3 : decode cX5_isStreet 3 = .ok (.invokestatic 52, 3) := by decide +kernel
theorem dX5_isStreet_6 : decode cX5_isStreet 6 = .ok (.ireturn, 1) := by decide +kernel
theorem dX5_isStretch_0 : decode cX5_isStretch 0 = .ok (.iload_n 0, 1) := by decide +kernel
theorem dX5_isStretch_1 : decode cX5_isStretch 1 = .ok (.iconst 0, 1) := by decide +kernel
theorem dX5_isStretch_2 : decode cX5_isStretch 2 = .ok (.bipush 19, 2) := by decide +kernel
theorem dX5_isStretch_4 : decode cX5_isStretch 4 = .ok (.invokestatic 52, 3) := by decide +kernel
theorem dX5_isStretch_7 : decode cX5_isStretch 7 = .ok (.ireturn, 1) := by decide +kernel
theorem dX5_get_0 : decode cX5_get 0 = .ok (.aload_n 0, 1) := by decide +kernel
theorem dX5_get_1 : decode cX5_get 1 = .ok (.getfield 9, 3) := by decide +kernel
theorem dX5_get_4 : decode cX5_get 4 = .ok (.bipush 123, 2) := by decide +kernel
theorem dX5_get_6 : decode cX5_get 6 = .ok (.iconst 3, 1) := by decide +kernel
theorem dX5_get_7 : decode cX5_get 7 = .ok (.iload_n 1, 1) := by decide +kernel
theorem dX5_get_8 : decode cX5_get 8 = .ok (.imul, 1) := by decide +kernel
theorem dX5_get_9 : decode cX5_get 9 = .ok (.iadd, 1) := by decide +kernel
theorem dX5_get_10 : decode cX5_get 10 = .ok (.iload_n 2, 1) := by decide +kernel
theorem dX5_get_11 : decode cX5_get 11 = .ok (.iadd, 1) := by decide +kernel
theorem dX5_get_12 : decode cX5_get 12 = .ok (.iaload, 1) := by decide +kernel
theorem dX5_get_13 : decode cX5_get 13 = .ok (.ireturn, 1) := by decide +kernel
theorem dX5_puts_0 : decode cX5_puts 0 = .ok (.aload_n 0, 1) := by decide +kernel
theorem dX5_puts_1 : decode cX5_puts 1 = .ok (.getfield 9, 3) := by decide +kernel
theorem dX5_puts_4 : decode cX5_puts 4 = .ok (.bipush 123, 2) := by decide +kernel
theorem dX5_puts_6 : decode cX5_puts 6 = .ok (.iconst 3, 1) := by decide +kernel
theorem dX5_puts_7 : decode cX5_puts 7 = .ok (.iload_n 1, 1) := by decide +kernel
theorem dX5_puts_8 : decode cX5_puts 8 = .ok (.imul, 1) := by decide +kernel
theorem dX5_puts_9 : decode cX5_puts 9 = .ok (.iadd, 1) := by decide +kernel
theorem dX5_puts_10 : decode cX5_puts 10 = .ok (.iload_n 2, 1) := by decide +kernel
theorem dX5_puts_11 : decode cX5_puts 11 = .ok (.iadd, 1) := by decide +kernel
theorem dX5_puts_12 : decode cX5_puts 12 = .ok (.iload_n 3, 1) := by decide +kernel
theorem dX5_puts_13 : decode cX5_puts 13 = .ok (.iastore, 1) := by decide +kernel
theorem dX5_puts_14 : decode cX5_puts 14 = .ok (.return_, 1) := by decide +kernel
theorem dX5_setsAside_0 : decode cX5_setsAside 0 = .ok (.iconst 0, 1) := by decide +kernel
theorem dX5_setsAside_1 : decode cX5_setsAside 1 = .ok (.istore_n 1, 1) := by decide +kernel
theorem dX5_setsAside_2 : decode cX5_setsAside 2 = .ok (.iload_n 1, 1) := by decide +kernel
theorem dX5_setsAside_3 : decode cX5_setsAside 3 = .ok (.sipush 147, 3) := by decide +kernel
theorem dX5_setsAside_6 : decode cX5_setsAside 6 = .ok (.if_icmp .ge 21, 3) := by decide +kernel
theorem dX5_setsAside_9 : decode cX5_setsAside 9 = .ok (.aload_n 0, 1) := by decide +kernel
theorem dX5_setsAside_10 : decode cX5_setsAside 10 = .ok (.getfield 16, 3) := by decide +kernel
theorem dX5_setsAside_13 : decode cX5_setsAside 13 = .ok (.iload_n 1, 1) := by decide +kernel
theorem dX5_setsAside_14 : decode cX5_setsAside 14 = .ok (.aload_n 0, 1) := by decide +kernel
theorem dX5_setsAside_15 : decode cX5_setsAside 15 = .ok (.getfield 9, 3) := by decide +kernel
theorem dX5_setsAside_18 : decode cX5_setsAside 18 = .ok (.iload_n 1, 1) := by decide +kernel
theorem dX5_setsAside_19 : decode cX5_setsAside 19 = .ok (.iaload, 1) := by decide +kernel
theorem dX5_setsAside_20 : decode cX5_setsAside 20 = .ok (.iastore, 1) := by decide +kernel
theorem dX5_setsAside_21 : decode cX5_setsAside 21 = .ok (.iinc 1 1, 3) := by decide +kernel
theorem dX5_setsAside_24 : decode cX5_setsAside 24 = .ok (.goto (-22), 3) := by decide +kernel
theorem dX5_setsAside_27 : decode cX5_setsAside 27 = .ok (.return_, 1) := by decide +kernel
theorem dX5_laysBack_0 : decode cX5_laysBack 0 = .ok (.iconst 0, 1) := by decide +kernel
theorem dX5_laysBack_1 : decode cX5_laysBack 1 = .ok (.istore_n 1, 1) := by decide +kernel
theorem dX5_laysBack_2 : decode cX5_laysBack 2 = .ok (.iload_n 1, 1) := by decide +kernel
theorem dX5_laysBack_3 : decode cX5_laysBack 3 = .ok (.sipush 147, 3) := by decide +kernel
theorem dX5_laysBack_6 : decode cX5_laysBack 6 = .ok (.if_icmp .ge 21, 3) := by decide +kernel
theorem dX5_laysBack_9 : decode cX5_laysBack 9 = .ok (.aload_n 0, 1) := by decide +kernel
theorem dX5_laysBack_10 : decode cX5_laysBack 10 = .ok (.getfield 9, 3) := by decide +kernel
theorem dX5_laysBack_13 : decode cX5_laysBack 13 = .ok (.iload_n 1, 1) := by decide +kernel
theorem dX5_laysBack_14 : decode cX5_laysBack 14 = .ok (.aload_n 0, 1) := by decide +kernel
theorem dX5_laysBack_15 : decode cX5_laysBack 15 = .ok (.getfield 16, 3) := by decide +kernel
theorem dX5_laysBack_18 : decode cX5_laysBack 18 = .ok (.iload_n 1, 1) := by decide +kernel
theorem dX5_laysBack_19 : decode cX5_laysBack 19 = .ok (.iaload, 1) := by decide +kernel
theorem dX5_laysBack_20 : decode cX5_laysBack 20 = .ok (.iastore, 1) := by decide +kernel
theorem dX5_laysBack_21 : decode cX5_laysBack 21 = .ok (.iinc 1 1, 3) := by decide +kernel
theorem dX5_laysBack_24 : decode cX5_laysBack 24 = .ok (.goto (-22), 3) := by decide +kernel
theorem dX5_laysBack_27 : decode cX5_laysBack 27 = .ok (.return_, 1) := by decide +kernel
theorem dX5_isBus_0 : decode cX5_isBus 0 = .ok (.iload_n 0, 1) := by decide +kernel
theorem dX5_isBus_1 : decode cX5_isBus 1 = .ok (.iconst 1, 1) := by decide +kernel
theorem dX5_isBus_2 : decode cX5_isBus 2 = .ok (.if_icmp .eq 8, 3) := by decide +kernel
theorem dX5_isBus_5 : decode cX5_isBus 5 = .ok (.iload_n 0, 1) := by decide +kernel
theorem dX5_isBus_6 : decode cX5_isBus 6 = .ok (.iconst 4, 1) := by decide +kernel
theorem dX5_isBus_7 : decode cX5_isBus 7 = .ok (.if_icmp .ne 7, 3) := by decide +kernel
theorem dX5_isBus_10 : decode cX5_isBus 10 = .ok (.iconst 1, 1) := by decide +kernel
theorem dX5_isBus_11 : decode cX5_isBus 11 = .ok (.goto 4, 3) := by decide +kernel
theorem dX5_isBus_14 : decode cX5_isBus 14 = .ok (.iconst 0, 1) := by decide +kernel
theorem dX5_isBus_15 : decode cX5_isBus 15 = .ok (.ireturn, 1) := by decide +kernel
theorem dX5_isLocal_0 : decode cX5_isLocal 0 = .ok (.iload_n 0, 1) := by decide +kernel
theorem dX5_isLocal_1 : decode cX5_isLocal 1 = .ok (.iconst 3, 1) := by decide +kernel
theorem dX5_isLocal_2 : decode cX5_isLocal 2 = .ok (.if_icmp .eq 8, 3) := by decide +kernel
theorem dX5_isLocal_5 : decode cX5_isLocal 5 = .ok (.iload_n 0, 1) := by decide +kernel
theorem dX5_isLocal_6 : decode cX5_isLocal 6 = .ok (.iconst 5, 1) := by decide +kernel
theorem dX5_isLocal_7 : decode cX5_isLocal 7 = .ok (.if_icmp .ne 7, 3) := by decide +kernel
theorem dX5_isLocal_10 : decode cX5_isLocal 10 = .ok (.iconst 1, 1) := by decide +kernel
theorem dX5_isLocal_11 : decode cX5_isLocal 11 = .ok (.goto 4, 3) := by decide +kernel
theorem dX5_isLocal_14 : decode cX5_isLocal 14 = .ok (.iconst 0, 1) := by decide +kernel
theorem dX5_isLocal_15 : decode cX5_isLocal 15 = .ok (.ireturn, 1) := by decide +kernel
theorem dX5_atBump_0 : decode cX5_atBump 0 = .ok (.iload_n 1, 1) := by decide +kernel
theorem dX5_atBump_1 : decode cX5_atBump 1 = .ok (.iload_n 0, 1) := by decide +kernel
theorem dX5_atBump_2 : decode cX5_atBump 2 = .ok (.invokestatic 56, 3) := by decide +kernel
theorem dX5_atBump_5 : decode cX5_atBump 5 = .ok (.ifCond .eq 7, 3) := by decide +kernel
theorem dX5_atBump_8 : decode cX5_atBump 8 = .ok (.iconst 4, 1) := by decide +kernel
theorem dX5_atBump_9 : decode cX5_atBump 9 = .ok (.goto 5, 3) := by decide +kernel
theorem dX5_atBump_12 : decode cX5_atBump 12 = .ok (.bipush 8, 2) := by decide +kernel
theorem dX5_atBump_14 : decode cX5_atBump 14 = .ok (.iload_n 2, 1) := by decide +kernel
theorem dX5_atBump_15 : decode cX5_atBump 15 = .ok (.imul, 1) := by decide +kernel
theorem dX5_atBump_16 : decode cX5_atBump 16 = .ok (.isub, 1) := by decide +kernel
theorem dX5_atBump_17 : decode cX5_atBump 17 = .ok (.istore_n 3, 1) := by decide +kernel
theorem dX5_atBump_18 : decode cX5_atBump 18 = .ok (.iload_n 0, 1) := by decide +kernel
theorem dX5_atBump_19 : decode cX5_atBump 19 = .ok (.iconst 2, 1) := by decide +kernel
theorem dX5_atBump_20 : decode cX5_atBump 20 = .ok (.if_icmp .ne 13, 3) := by decide +kernel
theorem dX5_atBump_23 : decode cX5_atBump 23 = .ok (.iload_n 2, 1) := by decide +kernel
theorem dX5_atBump_24 : decode cX5_atBump 24 = .ok (.iconst 3, 1) := by decide +kernel
theorem dX5_atBump_25 : decode cX5_atBump 25 = .ok (.if_icmp .le 8, 3) := by decide +kernel
theorem dX5_atBump_28 : decode cX5_atBump 28 = .ok (.bipush 8, 2) := by decide +kernel
theorem dX5_atBump_30 : decode cX5_atBump 30 = .ok (.goto 13, 3) := by decide +kernel
theorem dX5_atBump_33 : decode cX5_atBump 33 = .ok (.iload_n 3, 1) := by decide +kernel
theorem dX5_atBump_34 : decode cX5_atBump 34 = .ok (.iconst 5, 1) := by decide +kernel
theorem dX5_atBump_35 : decode cX5_atBump 35 = .ok (.if_icmp .ge 7, 3) := by decide +kernel
theorem dX5_atBump_38 : decode cX5_atBump 38 = .ok (.iconst 5, 1) := by decide +kernel
theorem dX5_atBump_39 : decode cX5_atBump 39 = .ok (.goto 4, 3) := by decide +kernel
theorem dX5_atBump_42 : decode cX5_atBump 42 = .ok (.iload_n 3, 1) := by decide +kernel
theorem dX5_atBump_43 : decode cX5_atBump 43 = .ok (.ireturn, 1) := by decide +kernel
theorem dX5_plainSlow_0 : decode cX5_plainSlow 0 = .ok (.iload_n 1, 1) := by decide +kernel
theorem dX5_plainSlow_1 : decode cX5_plainSlow 1 = .ok (.tableswitch 62 1 3 #[27, 34, 47], 27) := by decide +kernel
theorem dX5_plainSlow_28 : decode cX5_plainSlow 28 = .ok (.iload_n 0, 1) := by decide +kernel
theorem dX5_plainSlow_29 : decode cX5_plainSlow 29 = .ok (.iload_n 2, 1) := by decide +kernel
theorem dX5_plainSlow_30 : decode cX5_plainSlow 30 = .ok (.iload_n 3, 1) := by decide +kernel
theorem dX5_plainSlow_31 : decode cX5_plainSlow 31 = .ok (.invokestatic 60, 3) := by decide +kernel
theorem dX5_plainSlow_34 : decode cX5_plainSlow 34 = .ok (.ireturn, 1) := by decide +kernel
theorem dX5_plainSlow_35 : decode cX5_plainSlow 35 = .ok (.iload_n 0, 1) := by decide +kernel
theorem dX5_plainSlow_36 : decode cX5_plainSlow 36 = .ok (.iconst 4, 1) := by decide +kernel
theorem dX5_plainSlow_37 : decode cX5_plainSlow 37 = .ok (.if_icmp .ne 7, 3) := by decide +kernel
theorem dX5_plainSlow_40 : decode cX5_plainSlow 40 = .ok (.iload_n 2, 1) := by decide +kernel
theorem dX5_plainSlow_41 : decode cX5_plainSlow 41 = .ok (.goto 6, 3) := by decide +kernel
theorem dX5_plainSlow_44 : decode cX5_plainSlow 44 = .ok (.iload_n 2, 1) := by decide +kernel
theorem dX5_plainSlow_45 : decode cX5_plainSlow 45 = .ok (.iconst 2, 1) := by decide +kernel
theorem dX5_plainSlow_46 : decode cX5_plainSlow 46 = .ok (.idiv, 1) := by decide +kernel
theorem dX5_plainSlow_47 : decode cX5_plainSlow 47 = .ok (.ireturn, 1) := by decide +kernel
theorem dX5_plainSlow_48 : decode cX5_plainSlow 48 = .ok (.iload_n 0, 1) := by decide +kernel
theorem dX5_plainSlow_49 : decode cX5_plainSlow 49 = .ok (.invokestatic 64, 3) := by decide +kernel
theorem dX5_plainSlow_52 : decode cX5_plainSlow 52 = .ok (.ifCond .eq 7, 3) := by decide +kernel
theorem dX5_plainSlow_55 : decode cX5_plainSlow 55 = .ok (.iload_n 2, 1) := by decide +kernel
theorem dX5_plainSlow_56 : decode cX5_plainSlow 56 = .ok (.goto 6, 3) := by decide +kernel
theorem dX5_plainSlow_59 : decode cX5_plainSlow 59 = .ok (.iload_n 2, 1) := by decide +kernel
theorem dX5_plainSlow_60 : decode cX5_plainSlow 60 = .ok (.iconst 5, 1) := by decide +kernel
theorem dX5_plainSlow_61 : decode cX5_plainSlow 61 = .ok (.isub, 1) := by decide +kernel
theorem dX5_plainSlow_62 : decode cX5_plainSlow 62 = .ok (.ireturn, 1) := by decide +kernel
theorem dX5_plainSlow_63 : decode cX5_plainSlow 63 = .ok (.iload_n 0, 1) := by decide +kernel
theorem dX5_plainSlow_64 : decode cX5_plainSlow 64 = .ok (.invokestatic 64, 3) := by decide +kernel
theorem dX5_plainSlow_67 : decode cX5_plainSlow 67 = .ok (.ifCond .ne 10, 3) := by decide +kernel
theorem dX5_plainSlow_70 : decode cX5_plainSlow 70 = .ok (.iload 4, 2) := by decide +kernel
theorem dX5_plainSlow_72 : decode cX5_plainSlow 72 = .ok (.bipush 20, 2) := by decide +kernel
theorem dX5_plainSlow_74 : decode cX5_plainSlow 74 = .ok (.if_icmp .le 7, 3) := by decide +kernel
theorem dX5_plainSlow_77 : decode cX5_plainSlow 77 = .ok (.iload_n 2, 1) := by decide +kernel
theorem dX5_plainSlow_78 : decode cX5_plainSlow 78 = .ok (.goto 8, 3) := by decide +kernel
theorem dX5_plainSlow_81 : decode cX5_plainSlow 81 = .ok (.iload_n 2, 1) := by decide +kernel
theorem dX5_plainSlow_82 : decode cX5_plainSlow 82 = .ok (.iconst 3, 1) := by decide +kernel
theorem dX5_plainSlow_83 : decode cX5_plainSlow 83 = .ok (.imul, 1) := by decide +kernel
theorem dX5_plainSlow_84 : decode cX5_plainSlow 84 = .ok (.iconst 4, 1) := by decide +kernel
theorem dX5_plainSlow_85 : decode cX5_plainSlow 85 = .ok (.idiv, 1) := by decide +kernel
theorem dX5_plainSlow_86 : decode cX5_plainSlow 86 = .ok (.ireturn, 1) := by decide +kernel
theorem dX5_slowsTo_0 : decode cX5_slowsTo 0 = .ok (.iload_n 0, 1) := by decide +kernel
theorem dX5_slowsTo_1 : decode cX5_slowsTo 1 = .ok (.iload_n 1, 1) := by decide +kernel
theorem dX5_slowsTo_2 : decode cX5_slowsTo 2 = .ok (.iload_n 2, 1) := by decide +kernel
theorem dX5_slowsTo_3 : decode cX5_slowsTo 3 = .ok (.iload_n 3, 1) := by decide +kernel
theorem dX5_slowsTo_4 : decode cX5_slowsTo 4 = .ok (.iload 4, 2) := by decide +kernel
theorem dX5_slowsTo_6 : decode cX5_slowsTo 6 = .ok (.invokestatic 67, 3) := by decide +kernel
theorem dX5_slowsTo_9 : decode cX5_slowsTo 9 = .ok (.istore 5, 2) := by decide +kernel
theorem dX5_slowsTo_11 : decode cX5_slowsTo 11 = .ok (.iload_n 0, 1) := by decide +kernel
theorem dX5_slowsTo_12 : decode cX5_slowsTo 12 = .ok (.iconst 5, 1) := by decide +kernel
theorem dX5_slowsTo_13 : decode cX5_slowsTo 13 = .ok (.if_icmp .ne 14, 3) := by decide +kernel
theorem dX5_slowsTo_16 : decode cX5_slowsTo 16 = .ok (.iload_n 2, 1) := by decide +kernel
theorem dX5_slowsTo_17 : decode cX5_slowsTo 17 = .ok (.iload 5, 2) := by decide +kernel
theorem dX5_slowsTo_19 : decode cX5_slowsTo 19 = .ok (.iconst 5, 1) := by decide +kernel
theorem dX5_slowsTo_20 : decode cX5_slowsTo 20 = .ok (.iadd, 1) := by decide +kernel
theorem dX5_slowsTo_21 : decode cX5_slowsTo 21 = .ok (.invokestatic 71, 3) := by decide +kernel
theorem dX5_slowsTo_24 : decode cX5_slowsTo 24 = .ok (.goto 5, 3) := by decide +kernel
theorem dX5_slowsTo_27 : decode cX5_slowsTo 27 = .ok (.iload 5, 2) := by decide +kernel
theorem dX5_slowsTo_29 : decode cX5_slowsTo 29 = .ok (.ireturn, 1) := by decide +kernel
theorem dX5_hurriesOf_0 : decode cX5_hurriesOf 0 = .ok (.iload_n 0, 1) := by decide +kernel
theorem dX5_hurriesOf_1 : decode cX5_hurriesOf 1 = .ok (.iconst 1, 1) := by decide +kernel
theorem dX5_hurriesOf_2 : decode cX5_hurriesOf 2 = .ok (.if_icmp .eq 8, 3) := by decide +kernel
theorem dX5_hurriesOf_5 : decode cX5_hurriesOf 5 = .ok (.iload_n 0, 1) := by decide +kernel
theorem dX5_hurriesOf_6 : decode cX5_hurriesOf 6 = .ok (.iconst 2, 1) := by decide +kernel
theorem dX5_hurriesOf_7 : decode cX5_hurriesOf 7 = .ok (.if_icmp .ne 8, 3) := by decide +kernel
theorem dX5_hurriesOf_10 : decode cX5_hurriesOf 10 = .ok (.bipush 6, 2) := by decide +kernel
theorem dX5_hurriesOf_12 : decode cX5_hurriesOf 12 = .ok (.goto 15, 3) := by decide +kernel
theorem dX5_hurriesOf_15 : decode cX5_hurriesOf 15 = .ok (.iload_n 0, 1) := by decide +kernel
theorem dX5_hurriesOf_16 : decode cX5_hurriesOf 16 = .ok (.iconst 5, 1) := by decide +kernel
theorem dX5_hurriesOf_17 : decode cX5_hurriesOf 17 = .ok (.if_icmp .ne 8, 3) := by decide +kernel
theorem dX5_hurriesOf_20 : decode cX5_hurriesOf 20 = .ok (.bipush 22, 2) := by decide +kernel
theorem dX5_hurriesOf_22 : decode cX5_hurriesOf 22 = .ok (.goto 5, 3) := by decide +kernel
theorem dX5_hurriesOf_25 : decode cX5_hurriesOf 25 = .ok (.bipush 12, 2) := by decide +kernel
theorem dX5_hurriesOf_27 : decode cX5_hurriesOf 27 = .ok (.ireturn, 1) := by decide +kernel
theorem dX5_shakesAt_0 : decode cX5_shakesAt 0 = .ok (.iload_n 1, 1) := by decide +kernel
theorem dX5_shakesAt_1 : decode cX5_shakesAt 1 = .ok (.iload_n 2, 1) := by decide +kernel
theorem dX5_shakesAt_2 : decode cX5_shakesAt 2 = .ok (.imul, 1) := by decide +kernel
theorem dX5_shakesAt_3 : decode cX5_shakesAt 3 = .ok (.bipush 10, 2) := by decide +kernel
theorem dX5_shakesAt_5 : decode cX5_shakesAt 5 = .ok (.idiv, 1) := by decide +kernel
theorem dX5_shakesAt_6 : decode cX5_shakesAt 6 = .ok (.istore_n 3, 1) := by decide +kernel
theorem dX5_shakesAt_7 : decode cX5_shakesAt 7 = .ok (.iload_n 0, 1) := by decide +kernel
theorem dX5_shakesAt_8 : decode cX5_shakesAt 8 = .ok (.tableswitch 48 1 5 #[36, 40, 48, 36, 44], 36) := by decide +kernel
theorem dX5_shakesAt_44 : decode cX5_shakesAt 44 = .ok (.iload_n 3, 1) := by decide +kernel
theorem dX5_shakesAt_45 : decode cX5_shakesAt 45 = .ok (.iload_n 2, 1) := by decide +kernel
theorem dX5_shakesAt_46 : decode cX5_shakesAt 46 = .ok (.iadd, 1) := by decide +kernel
theorem dX5_shakesAt_47 : decode cX5_shakesAt 47 = .ok (.ireturn, 1) := by decide +kernel
theorem dX5_shakesAt_48 : decode cX5_shakesAt 48 = .ok (.iconst 2, 1) := by decide +kernel
theorem dX5_shakesAt_49 : decode cX5_shakesAt 49 = .ok (.iload_n 3, 1) := by decide +kernel
theorem dX5_shakesAt_50 : decode cX5_shakesAt 50 = .ok (.imul, 1) := by decide +kernel
theorem dX5_shakesAt_51 : decode cX5_shakesAt 51 = .ok (.ireturn, 1) := by decide +kernel
theorem dX5_shakesAt_52 : decode cX5_shakesAt 52 = .ok (.iload_n 3, 1) := by decide +kernel
theorem dX5_shakesAt_53 : decode cX5_shakesAt 53 = .ok (.iconst 1, 1) := by decide +kernel
theorem dX5_shakesAt_54 : decode cX5_shakesAt 54 = .ok (.iadd, 1) := by decide +kernel
theorem dX5_shakesAt_55 : decode cX5_shakesAt 55 = .ok (.ireturn, 1) := by decide +kernel
theorem dX5_shakesAt_56 : decode cX5_shakesAt 56 = .ok (.iload_n 3, 1) := by decide +kernel
theorem dX5_shakesAt_57 : decode cX5_shakesAt 57 = .ok (.ireturn, 1) := by decide +kernel
theorem dX5_goesThrough_0 : decode cX5_goesThrough 0 = .ok (.aload_n 0, 1) := by decide +kernel
theorem dX5_goesThrough_1 : decode cX5_goesThrough 1 = .ok (.iconst 0, 1) := by decide +kernel
theorem dX5_goesThrough_2 : decode cX5_goesThrough 2 = .ok (.putfield 75, 3) := by decide +kernel
theorem dX5_goesThrough_5 : decode cX5_goesThrough 5 = .ok (.aload_n 0, 1) := by decide +kernel
theorem dX5_goesThrough_6 : decode cX5_goesThrough 6 = .ok (.iconst 0, 1) := by decide +kernel
theorem dX5_goesThrough_7 : decode cX5_goesThrough 7 = .ok (.putfield 79, 3) := by decide +kernel
theorem dX5_goesThrough_10 : decode cX5_goesThrough 10 = .ok (.iconst 0, 1) := by decide +kernel
theorem dX5_goesThrough_11 : decode cX5_goesThrough 11 = .ok (.istore 4, 2) := by decide +kernel
theorem dX5_goesThrough_13 : decode cX5_goesThrough 13 = .ok (.iload 4, 2) := by decide +kernel
theorem dX5_goesThrough_15 : decode cX5_goesThrough 15 = .ok (.bipush 20, 2) := by decide +kernel
theorem dX5_goesThrough_17 : decode cX5_goesThrough 17 = .ok (.if_icmp .ge 159, 3) := by decide +kernel
theorem dX5_goesThrough_20 : decode cX5_goesThrough 20 = .ok (.bipush 20, 2) := by decide +kernel
theorem dX5_goesThrough_22 : decode cX5_goesThrough 22 = .ok (.iload_n 3, 1) := by decide +kernel
theorem dX5_goesThrough_23 : decode cX5_goesThrough 23 = .ok (.imul, 1) := by decide +kernel
theorem dX5_goesThrough_24 : decode cX5_goesThrough 24 = .ok (.iload 4, 2) := by decide +kernel
theorem dX5_goesThrough_26 : decode cX5_goesThrough 26 = .ok (.iadd, 1) := by decide +kernel
theorem dX5_goesThrough_27 : decode cX5_goesThrough 27 = .ok (.istore 5, 2) := by decide +kernel
theorem dX5_goesThrough_29 : decode cX5_goesThrough 29 = .ok (.aload_n 0, 1) := by decide +kernel
theorem dX5_goesThrough_30 : decode cX5_goesThrough 30 = .ok (.getfield 9, 3) := by decide +kernel
theorem dX5_goesThrough_33 : decode cX5_goesThrough 33 = .ok (.iconst 3, 1) := by decide +kernel
theorem dX5_goesThrough_34 : decode cX5_goesThrough 34 = .ok (.iload 5, 2) := by decide +kernel
theorem dX5_goesThrough_36 : decode cX5_goesThrough 36 = .ok (.iadd, 1) := by decide +kernel
theorem dX5_goesThrough_37 : decode cX5_goesThrough 37 = .ok (.iaload, 1) := by decide +kernel
theorem dX5_goesThrough_38 : decode cX5_goesThrough 38 = .ok (.istore 6, 2) := by decide +kernel
theorem dX5_goesThrough_40 : decode cX5_goesThrough 40 = .ok (.iload 4, 2) := by decide +kernel
theorem dX5_goesThrough_42 : decode cX5_goesThrough 42 = .ok (.ifCond .ne 7, 3) := by decide +kernel
theorem dX5_goesThrough_45 : decode cX5_goesThrough 45 = .ok (.iload_n 2, 1) := by decide +kernel
theorem dX5_goesThrough_46 : decode cX5_goesThrough 46 = .ok (.goto 21, 3) := by decide +kernel
theorem dX5_goesThrough_49 : decode cX5_goesThrough 49 = .ok (.iload_n 2, 1) := by decide +kernel
theorem dX5_goesThrough_50 : decode cX5_goesThrough 50 = .ok (.aload_n 0, 1) := by decide +kernel
theorem dX5_goesThrough_51 : decode cX5_goesThrough 51 = .ok (.getfield 22, 3) := by decide +kernel
theorem dX5_goesThrough_54 : decode cX5_goesThrough 54 = .ok (.iload 4, 2) := by decide +kernel
theorem dX5_goesThrough_56 : decode cX5_goesThrough 56 = .ok (.iconst 1, 1) := by decide +kernel
theorem dX5_goesThrough_57 : decode cX5_goesThrough 57 = .ok (.isub, 1) := by decide +kernel
theorem dX5_goesThrough_58 : decode cX5_goesThrough 58 = .ok (.iaload, 1) := by decide +kernel
theorem dX5_goesThrough_59 : decode cX5_goesThrough 59 = .ok (.iload_n 1, 1) := by decide +kernel
theorem dX5_goesThrough_60 : decode cX5_goesThrough 60 = .ok (.invokestatic 82, 3) := by decide +kernel
theorem dX5_goesThrough_63 : decode cX5_goesThrough 63 = .ok (.iadd, 1) := by decide +kernel
theorem dX5_goesThrough_64 : decode cX5_goesThrough 64 = .ok (.invokestatic 71, 3) := by decide +kernel
theorem dX5_goesThrough_67 : decode cX5_goesThrough 67 = .ok (.istore 7, 2) := by decide +kernel
theorem dX5_goesThrough_69 : decode cX5_goesThrough 69 = .ok (.aload_n 0, 1) := by decide +kernel
theorem dX5_goesThrough_70 : decode cX5_goesThrough 70 = .ok (.getfield 22, 3) := by decide +kernel
theorem dX5_goesThrough_73 : decode cX5_goesThrough 73 = .ok (.iload 4, 2) := by decide +kernel
theorem dX5_goesThrough_75 : decode cX5_goesThrough 75 = .ok (.iload 6, 2) := by decide +kernel
theorem dX5_goesThrough_77 : decode cX5_goesThrough 77 = .ok (.ifCond .ne 8, 3) := by decide +kernel
theorem dX5_goesThrough_80 : decode cX5_goesThrough 80 = .ok (.iload 7, 2) := by decide +kernel
theorem dX5_goesThrough_82 : decode cX5_goesThrough 82 = .ok (.goto 31, 3) := by decide +kernel
theorem dX5_goesThrough_85 : decode cX5_goesThrough 85 = .ok (.iload 7, 2) := by decide +kernel
theorem dX5_goesThrough_87 : decode cX5_goesThrough 87 = .ok (.iload_n 1, 1) := by decide +kernel
theorem dX5_goesThrough_88 : decode cX5_goesThrough 88 = .ok (.iload 6, 2) := by decide +kernel
theorem dX5_goesThrough_90 : decode cX5_goesThrough 90 = .ok (.iload_n 2, 1) := by decide +kernel
theorem dX5_goesThrough_91 : decode cX5_goesThrough 91 = .ok (.aload_n 0, 1) := by decide +kernel
theorem dX5_goesThrough_92 : decode cX5_goesThrough 92 = .ok (.getfield 9, 3) := by decide +kernel
theorem dX5_goesThrough_95 : decode cX5_goesThrough 95 = .ok (.iconst 1, 1) := by decide +kernel
theorem dX5_goesThrough_96 : decode cX5_goesThrough 96 = .ok (.iaload, 1) := by decide +kernel
theorem dX5_goesThrough_97 : decode cX5_goesThrough 97 = .ok (.aload_n 0, 1) := by decide +kernel
theorem dX5_goesThrough_98 : decode cX5_goesThrough 98 = .ok (.getfield 9, 3) := by decide +kernel
theorem dX5_goesThrough_101 : decode cX5_goesThrough 101 = .ok (.bipush 63, 2) := by decide +kernel
theorem dX5_goesThrough_103 : decode cX5_goesThrough 103 = .ok (.iload 5, 2) := by decide +kernel
theorem dX5_goesThrough_105 : decode cX5_goesThrough 105 = .ok (.iadd, 1) := by decide +kernel
theorem dX5_goesThrough_106 : decode cX5_goesThrough 106 = .ok (.iaload, 1) := by decide +kernel
theorem dX5_goesThrough_107 : decode cX5_goesThrough 107 = .ok (.invokestatic 86, 3) := by decide +kernel
theorem dX5_goesThrough_110 : decode cX5_goesThrough 110 = .ok (.invokestatic 71, 3) := by decide +kernel
theorem dX5_goesThrough_113 : decode cX5_goesThrough 113 = .ok (.iastore, 1) := by decide +kernel
theorem dX5_goesThrough_114 : decode cX5_goesThrough 114 = .ok (.aload_n 0, 1) := by decide +kernel
theorem dX5_goesThrough_115 : decode cX5_goesThrough 115 = .ok (.dup, 1) := by decide +kernel
theorem dX5_goesThrough_116 : decode cX5_goesThrough 116 = .ok (.getfield 75, 3) := by decide +kernel
theorem dX5_goesThrough_119 : decode cX5_goesThrough 119 = .ok (.sipush 1227, 3) := by decide +kernel
theorem dX5_goesThrough_122 : decode cX5_goesThrough 122 = .ok (.aload_n 0, 1) := by decide +kernel
theorem dX5_goesThrough_123 : decode cX5_goesThrough 123 = .ok (.getfield 22, 3) := by decide +kernel
theorem dX5_goesThrough_126 : decode cX5_goesThrough 126 = .ok (.iload 4, 2) := by decide +kernel
theorem dX5_goesThrough_128 : decode cX5_goesThrough 128 = .ok (.iaload, 1) := by decide +kernel
theorem dX5_goesThrough_129 : decode cX5_goesThrough 129 = .ok (.idiv, 1) := by decide +kernel
theorem dX5_goesThrough_130 : decode cX5_goesThrough 130 = .ok (.iadd, 1) := by decide +kernel
theorem dX5_goesThrough_131 : decode cX5_goesThrough 131 = .ok (.putfield 75, 3) := by decide +kernel
theorem dX5_goesThrough_134 : decode cX5_goesThrough 134 = .ok (.aload_n 0, 1) := by decide +kernel
theorem dX5_goesThrough_135 : decode cX5_goesThrough 135 = .ok (.dup, 1) := by decide +kernel
theorem dX5_goesThrough_136 : decode cX5_goesThrough 136 = .ok (.getfield 79, 3) := by decide +kernel
theorem dX5_goesThrough_139 : decode cX5_goesThrough 139 = .ok (.iload 6, 2) := by decide +kernel
theorem dX5_goesThrough_141 : decode cX5_goesThrough 141 = .ok (.iconst 1, 1) := by decide +kernel
theorem dX5_goesThrough_142 : decode cX5_goesThrough 142 = .ok (.if_icmp .ne 23, 3) := by decide +kernel
theorem dX5_goesThrough_145 : decode cX5_goesThrough 145 = .ok (.iload_n 1, 1) := by decide +kernel
theorem dX5_goesThrough_146 : decode cX5_goesThrough 146 = .ok (.aload_n 0, 1) := by decide +kernel
theorem dX5_goesThrough_147 : decode cX5_goesThrough 147 = .ok (.getfield 22, 3) := by decide +kernel
theorem dX5_goesThrough_150 : decode cX5_goesThrough 150 = .ok (.iload 4, 2) := by decide +kernel
theorem dX5_goesThrough_152 : decode cX5_goesThrough 152 = .ok (.iaload, 1) := by decide +kernel
theorem dX5_goesThrough_153 : decode cX5_goesThrough 153 = .ok (.aload_n 0, 1) := by decide +kernel
theorem dX5_goesThrough_154 : decode cX5_goesThrough 154 = .ok (.getfield 9, 3) := by decide +kernel
theorem dX5_goesThrough_157 : decode cX5_goesThrough 157 = .ok (.iconst 1, 1) := by decide +kernel
theorem dX5_goesThrough_158 : decode cX5_goesThrough 158 = .ok (.iaload, 1) := by decide +kernel
theorem dX5_goesThrough_159 : decode cX5_goesThrough 159 = .ok (.invokestatic 89, 3) := by decide +kernel
theorem dX5_goesThrough_162 : decode cX5_goesThrough 162 = .ok (.goto 4, 3) := by decide +kernel
theorem dX5_goesThrough_165 : decode cX5_goesThrough 165 = .ok (.iconst 0, 1) := by decide +kernel
theorem dX5_goesThrough_166 : decode cX5_goesThrough 166 = .ok (.iadd, 1) := by decide +kernel
theorem dX5_goesThrough_167 : decode cX5_goesThrough 167 = .ok (.putfield 79, 3) := by decide +kernel
theorem dX5_goesThrough_170 : decode cX5_goesThrough 170 = .ok (.iinc 4 1, 3) := by decide +kernel
theorem dX5_goesThrough_173 : decode cX5_goesThrough 173 = .ok (.goto (-160), 3) := by decide +kernel
theorem dX5_goesThrough_176 : decode cX5_goesThrough 176 = .ok (.return_, 1) := by decide +kernel
theorem dX5_tookBy_0 : decode cX5_tookBy 0 = .ok (.aload_n 0, 1) := by decide +kernel
theorem dX5_tookBy_1 : decode cX5_tookBy 1 = .ok (.aload_n 0, 1) := by decide +kernel
theorem dX5_tookBy_2 : decode cX5_tookBy 2 = .ok (.iload_n 1, 1) := by decide +kernel
theorem dX5_tookBy_3 : decode cX5_tookBy 3 = .ok (.iconst 0, 1) := by decide +kernel
theorem dX5_tookBy_4 : decode cX5_tookBy 4 = .ok (.invokevirtual 92, 3) := by decide +kernel
theorem dX5_tookBy_7 : decode cX5_tookBy 7 = .ok (.aload_n 0, 1) := by decide +kernel
theorem dX5_tookBy_8 : decode cX5_tookBy 8 = .ok (.iload_n 1, 1) := by decide +kernel
theorem dX5_tookBy_9 : decode cX5_tookBy 9 = .ok (.iconst 1, 1) := by decide +kernel
theorem dX5_tookBy_10 : decode cX5_tookBy 10 = .ok (.invokevirtual 92, 3) := by decide +kernel
theorem dX5_tookBy_13 : decode cX5_tookBy 13 = .ok (.iload_n 2, 1) := by decide +kernel
theorem dX5_tookBy_14 : decode cX5_tookBy 14 = .ok (.invokevirtual 95, 3) := by decide +kernel
theorem dX5_tookBy_17 : decode cX5_tookBy 17 = .ok (.aload_n 0, 1) := by decide +kernel
theorem dX5_tookBy_18 : decode cX5_tookBy 18 = .ok (.getfield 75, 3) := by decide +kernel
theorem dX5_tookBy_21 : decode cX5_tookBy 21 = .ok (.ireturn, 1) := by decide +kernel
theorem dX5_shookBy_0 : decode cX5_shookBy 0 = .ok (.aload_n 0, 1) := by decide +kernel
theorem dX5_shookBy_1 : decode cX5_shookBy 1 = .ok (.aload_n 0, 1) := by decide +kernel
theorem dX5_shookBy_2 : decode cX5_shookBy 2 = .ok (.iload_n 1, 1) := by decide +kernel
theorem dX5_shookBy_3 : decode cX5_shookBy 3 = .ok (.iconst 0, 1) := by decide +kernel
theorem dX5_shookBy_4 : decode cX5_shookBy 4 = .ok (.invokevirtual 92, 3) := by decide +kernel
theorem dX5_shookBy_7 : decode cX5_shookBy 7 = .ok (.aload_n 0, 1) := by decide +kernel
theorem dX5_shookBy_8 : decode cX5_shookBy 8 = .ok (.iload_n 1, 1) := by decide +kernel
theorem dX5_shookBy_9 : decode cX5_shookBy 9 = .ok (.iconst 1, 1) := by decide +kernel
theorem dX5_shookBy_10 : decode cX5_shookBy 10 = .ok (.invokevirtual 92, 3) := by decide +kernel
theorem dX5_shookBy_13 : decode cX5_shookBy 13 = .ok (.iload_n 2, 1) := by decide +kernel
theorem dX5_shookBy_14 : decode cX5_shookBy 14 = .ok (.invokevirtual 95, 3) := by decide +kernel
theorem dX5_shookBy_17 : decode cX5_shookBy 17 = .ok (.aload_n 0, 1) := by decide +kernel
theorem dX5_shookBy_18 : decode cX5_shookBy 18 = .ok (.getfield 79, 3) := by decide +kernel
theorem dX5_shookBy_21 : decode cX5_shookBy 21 = .ok (.ireturn, 1) := by decide +kernel
theorem dX5_allShook_0 : decode cX5_allShook 0 = .ok (.iconst 0, 1) := by decide +kernel
theorem dX5_allShook_1 : decode cX5_allShook 1 = .ok (.istore_n 1, 1) := by decide +kernel
theorem dX5_allShook_2 : decode cX5_allShook 2 = .ok (.iconst 0, 1) := by decide +kernel
theorem dX5_allShook_3 : decode cX5_allShook 3 = .ok (.istore_n 2, 1) := by decide +kernel
theorem dX5_allShook_4 : decode cX5_allShook 4 = .ok (.iload_n 2, 1) := by decide +kernel
theorem dX5_allShook_5 : decode cX5_allShook 5 = .ok (.aload_n 0, 1) := by decide +kernel
theorem dX5_allShook_6 : decode cX5_allShook 6 = .ok (.getfield 9, 3) := by decide +kernel
theorem dX5_allShook_9 : decode cX5_allShook 9 = .ok (.iconst 2, 1) := by decide +kernel
theorem dX5_allShook_10 : decode cX5_allShook 10 = .ok (.iaload, 1) := by decide +kernel
theorem dX5_allShook_11 : decode cX5_allShook 11 = .ok (.if_icmp .ge 23, 3) := by decide +kernel
theorem dX5_allShook_14 : decode cX5_allShook 14 = .ok (.iload_n 1, 1) := by decide +kernel
theorem dX5_allShook_15 : decode cX5_allShook 15 = .ok (.aload_n 0, 1) := by decide +kernel
theorem dX5_allShook_16 : decode cX5_allShook 16 = .ok (.iload_n 2, 1) := by decide +kernel
theorem dX5_allShook_17 : decode cX5_allShook 17 = .ok (.aload_n 0, 1) := by decide +kernel
theorem dX5_allShook_18 : decode cX5_allShook 18 = .ok (.iload_n 2, 1) := by decide +kernel
theorem dX5_allShook_19 : decode cX5_allShook 19 = .ok (.iconst 2, 1) := by decide +kernel
theorem dX5_allShook_20 : decode cX5_allShook 20 = .ok (.invokevirtual 92, 3) := by decide +kernel
theorem dX5_allShook_23 : decode cX5_allShook 23 = .ok (.invokevirtual 99, 3) := by decide +kernel
theorem dX5_allShook_26 : decode cX5_allShook 26 = .ok (.iadd, 1) := by decide +kernel
theorem dX5_allShook_27 : decode cX5_allShook 27 = .ok (.istore_n 1, 1) := by decide +kernel
theorem dX5_allShook_28 : decode cX5_allShook 28 = .ok (.iinc 2 1, 3) := by decide +kernel
theorem dX5_allShook_31 : decode cX5_allShook 31 = .ok (.goto (-27), 3) := by decide +kernel
theorem dX5_allShook_34 : decode cX5_allShook 34 = .ok (.iload_n 1, 1) := by decide +kernel
theorem dX5_allShook_35 : decode cX5_allShook 35 = .ok (.ireturn, 1) := by decide +kernel
theorem dX5_allTook_0 : decode cX5_allTook 0 = .ok (.iconst 0, 1) := by decide +kernel
theorem dX5_allTook_1 : decode cX5_allTook 1 = .ok (.istore_n 1, 1) := by decide +kernel
theorem dX5_allTook_2 : decode cX5_allTook 2 = .ok (.iconst 0, 1) := by decide +kernel
theorem dX5_allTook_3 : decode cX5_allTook 3 = .ok (.istore_n 2, 1) := by decide +kernel
theorem dX5_allTook_4 : decode cX5_allTook 4 = .ok (.iload_n 2, 1) := by decide +kernel
theorem dX5_allTook_5 : decode cX5_allTook 5 = .ok (.aload_n 0, 1) := by decide +kernel
theorem dX5_allTook_6 : decode cX5_allTook 6 = .ok (.getfield 9, 3) := by decide +kernel
theorem dX5_allTook_9 : decode cX5_allTook 9 = .ok (.iconst 2, 1) := by decide +kernel
theorem dX5_allTook_10 : decode cX5_allTook 10 = .ok (.iaload, 1) := by decide +kernel
theorem dX5_allTook_11 : decode cX5_allTook 11 = .ok (.if_icmp .ge 23, 3) := by decide +kernel
theorem dX5_allTook_14 : decode cX5_allTook 14 = .ok (.iload_n 1, 1) := by decide +kernel
theorem dX5_allTook_15 : decode cX5_allTook 15 = .ok (.aload_n 0, 1) := by decide +kernel
theorem dX5_allTook_16 : decode cX5_allTook 16 = .ok (.iload_n 2, 1) := by decide +kernel
theorem dX5_allTook_17 : decode cX5_allTook 17 = .ok (.aload_n 0, 1) := by decide +kernel
theorem dX5_allTook_18 : decode cX5_allTook 18 = .ok (.iload_n 2, 1) := by decide +kernel
theorem dX5_allTook_19 : decode cX5_allTook 19 = .ok (.iconst 2, 1) := by decide +kernel
theorem dX5_allTook_20 : decode cX5_allTook 20 = .ok (.invokevirtual 92, 3) := by decide +kernel
theorem dX5_allTook_23 : decode cX5_allTook 23 = .ok (.invokevirtual 102, 3) := by decide +kernel
theorem dX5_allTook_26 : decode cX5_allTook 26 = .ok (.iadd, 1) := by decide +kernel
theorem dX5_allTook_27 : decode cX5_allTook 27 = .ok (.istore_n 1, 1) := by decide +kernel
theorem dX5_allTook_28 : decode cX5_allTook 28 = .ok (.iinc 2 1, 3) := by decide +kernel
theorem dX5_allTook_31 : decode cX5_allTook 31 = .ok (.goto (-27), 3) := by decide +kernel
theorem dX5_allTook_34 : decode cX5_allTook 34 = .ok (.iload_n 1, 1) := by decide +kernel
theorem dX5_allTook_35 : decode cX5_allTook 35 = .ok (.ireturn, 1) := by decide +kernel
theorem dX5_chooses_0 : decode cX5_chooses 0 = .ok (.aload_n 0, 1) := by decide +kernel
theorem dX5_chooses_1 : decode cX5_chooses 1 = .ok (.iload_n 1, 1) := by decide +kernel
theorem dX5_chooses_2 : decode cX5_chooses 2 = .ok (.iconst 2, 1) := by decide +kernel
theorem dX5_chooses_3 : decode cX5_chooses 3 = .ok (.invokevirtual 92, 3) := by decide +kernel
theorem dX5_chooses_6 : decode cX5_chooses 6 = .ok (.istore_n 2, 1) := by decide +kernel
theorem dX5_chooses_7 : decode cX5_chooses 7 = .ok (.aload_n 0, 1) := by decide +kernel
theorem dX5_chooses_8 : decode cX5_chooses 8 = .ok (.iload_n 1, 1) := by decide +kernel
theorem dX5_chooses_9 : decode cX5_chooses 9 = .ok (.iload_n 2, 1) := by decide +kernel
theorem dX5_chooses_10 : decode cX5_chooses 10 = .ok (.invokevirtual 102, 3) := by decide +kernel
theorem dX5_chooses_13 : decode cX5_chooses 13 = .ok (.istore_n 3, 1) := by decide +kernel
theorem dX5_chooses_14 : decode cX5_chooses 14 = .ok (.iconst 0, 1) := by decide +kernel
theorem dX5_chooses_15 : decode cX5_chooses 15 = .ok (.istore 4, 2) := by decide +kernel
theorem dX5_chooses_17 : decode cX5_chooses 17 = .ok (.iload 4, 2) := by decide +kernel
theorem dX5_chooses_19 : decode cX5_chooses 19 = .ok (.iconst 3, 1) := by decide +kernel
theorem dX5_chooses_20 : decode cX5_chooses 20 = .ok (.if_icmp .ge 38, 3) := by decide +kernel
theorem dX5_chooses_23 : decode cX5_chooses 23 = .ok (.aload_n 0, 1) := by decide +kernel
theorem dX5_chooses_24 : decode cX5_chooses 24 = .ok (.iload_n 1, 1) := by decide +kernel
theorem dX5_chooses_25 : decode cX5_chooses 25 = .ok (.iload 4, 2) := by decide +kernel
theorem dX5_chooses_27 : decode cX5_chooses 27 = .ok (.invokevirtual 102, 3) := by decide +kernel
theorem dX5_chooses_30 : decode cX5_chooses 30 = .ok (.istore 5, 2) := by decide +kernel
theorem dX5_chooses_32 : decode cX5_chooses 32 = .ok (.iload 5, 2) := by decide +kernel
theorem dX5_chooses_34 : decode cX5_chooses 34 = .ok (.iload_n 3, 1) := by decide +kernel
theorem dX5_chooses_35 : decode cX5_chooses 35 = .ok (.if_icmp .ge 8, 3) := by decide +kernel
theorem dX5_chooses_38 : decode cX5_chooses 38 = .ok (.iload 4, 2) := by decide +kernel
theorem dX5_chooses_40 : decode cX5_chooses 40 = .ok (.goto 4, 3) := by decide +kernel
theorem dX5_chooses_43 : decode cX5_chooses 43 = .ok (.iload_n 2, 1) := by decide +kernel
theorem dX5_chooses_44 : decode cX5_chooses 44 = .ok (.istore_n 2, 1) := by decide +kernel
theorem dX5_chooses_45 : decode cX5_chooses 45 = .ok (.iload_n 3, 1) := by decide +kernel
theorem dX5_chooses_46 : decode cX5_chooses 46 = .ok (.iload 5, 2) := by decide +kernel
theorem dX5_chooses_48 : decode cX5_chooses 48 = .ok (.invokestatic 71, 3) := by decide +kernel
theorem dX5_chooses_51 : decode cX5_chooses 51 = .ok (.istore_n 3, 1) := by decide +kernel
theorem dX5_chooses_52 : decode cX5_chooses 52 = .ok (.iinc 4 1, 3) := by decide +kernel
theorem dX5_chooses_55 : decode cX5_chooses 55 = .ok (.goto (-38), 3) := by decide +kernel
theorem dX5_chooses_58 : decode cX5_chooses 58 = .ok (.aload_n 0, 1) := by decide +kernel
theorem dX5_chooses_59 : decode cX5_chooses 59 = .ok (.iload_n 1, 1) := by decide +kernel
theorem dX5_chooses_60 : decode cX5_chooses 60 = .ok (.iconst 2, 1) := by decide +kernel
theorem dX5_chooses_61 : decode cX5_chooses 61 = .ok (.iload_n 2, 1) := by decide +kernel
theorem dX5_chooses_62 : decode cX5_chooses 62 = .ok (.invokevirtual 105, 3) := by decide +kernel
theorem dX5_chooses_65 : decode cX5_chooses 65 = .ok (.return_, 1) := by decide +kernel
theorem dX5_goes_0 : decode cX5_goes 0 = .ok (.iconst 0, 1) := by decide +kernel
theorem dX5_goes_1 : decode cX5_goes 1 = .ok (.istore_n 2, 1) := by decide +kernel
theorem dX5_goes_2 : decode cX5_goes 2 = .ok (.iload_n 2, 1) := by decide +kernel
theorem dX5_goes_3 : decode cX5_goes 3 = .ok (.iload_n 1, 1) := by decide +kernel
theorem dX5_goes_4 : decode cX5_goes 4 = .ok (.if_icmp .ge 98, 3) := by decide +kernel
theorem dX5_goes_7 : decode cX5_goes 7 = .ok (.iconst 0, 1) := by decide +kernel
theorem dX5_goes_8 : decode cX5_goes 8 = .ok (.istore_n 3, 1) := by decide +kernel
theorem dX5_goes_9 : decode cX5_goes 9 = .ok (.iload_n 3, 1) := by decide +kernel
theorem dX5_goes_10 : decode cX5_goes 10 = .ok (.bipush 60, 2) := by decide +kernel
theorem dX5_goes_12 : decode cX5_goes 12 = .ok (.if_icmp .ge 51, 3) := by decide +kernel
theorem dX5_goes_15 : decode cX5_goes 15 = .ok (.aload_n 0, 1) := by decide +kernel
theorem dX5_goes_16 : decode cX5_goes 16 = .ok (.getfield 9, 3) := by decide +kernel
theorem dX5_goes_19 : decode cX5_goes 19 = .ok (.bipush 63, 2) := by decide +kernel
theorem dX5_goes_21 : decode cX5_goes 21 = .ok (.iload_n 3, 1) := by decide +kernel
theorem dX5_goes_22 : decode cX5_goes 22 = .ok (.iadd, 1) := by decide +kernel
theorem dX5_goes_23 : decode cX5_goes 23 = .ok (.aload_n 0, 1) := by decide +kernel
theorem dX5_goes_24 : decode cX5_goes 24 = .ok (.getfield 9, 3) := by decide +kernel
theorem dX5_goes_27 : decode cX5_goes 27 = .ok (.iconst 3, 1) := by decide +kernel
theorem dX5_goes_28 : decode cX5_goes 28 = .ok (.iload_n 3, 1) := by decide +kernel
theorem dX5_goes_29 : decode cX5_goes 29 = .ok (.iadd, 1) := by decide +kernel
theorem dX5_goes_30 : decode cX5_goes 30 = .ok (.iaload, 1) := by decide +kernel
theorem dX5_goes_31 : decode cX5_goes 31 = .ok (.iconst 4, 1) := by decide +kernel
theorem dX5_goes_32 : decode cX5_goes 32 = .ok (.if_icmp .ne 23, 3) := by decide +kernel
theorem dX5_goes_35 : decode cX5_goes 35 = .ok (.sipush 999, 3) := by decide +kernel
theorem dX5_goes_38 : decode cX5_goes 38 = .ok (.aload_n 0, 1) := by decide +kernel
theorem dX5_goes_39 : decode cX5_goes 39 = .ok (.getfield 9, 3) := by decide +kernel
theorem dX5_goes_42 : decode cX5_goes 42 = .ok (.bipush 63, 2) := by decide +kernel
theorem dX5_goes_44 : decode cX5_goes 44 = .ok (.iload_n 3, 1) := by decide +kernel
theorem dX5_goes_45 : decode cX5_goes 45 = .ok (.iadd, 1) := by decide +kernel
theorem dX5_goes_46 : decode cX5_goes 46 = .ok (.iaload, 1) := by decide +kernel
theorem dX5_goes_47 : decode cX5_goes 47 = .ok (.iconst 1, 1) := by decide +kernel
theorem dX5_goes_48 : decode cX5_goes 48 = .ok (.iadd, 1) := by decide +kernel
theorem dX5_goes_49 : decode cX5_goes 49 = .ok (.invokestatic 71, 3) := by decide +kernel
theorem dX5_goes_52 : decode cX5_goes 52 = .ok (.goto 4, 3) := by decide +kernel
theorem dX5_goes_55 : decode cX5_goes 55 = .ok (.iconst 0, 1) := by decide +kernel
theorem dX5_goes_56 : decode cX5_goes 56 = .ok (.iastore, 1) := by decide +kernel
theorem dX5_goes_57 : decode cX5_goes 57 = .ok (.iinc 3 1, 3) := by decide +kernel
theorem dX5_goes_60 : decode cX5_goes 60 = .ok (.goto (-51), 3) := by decide +kernel
theorem dX5_goes_63 : decode cX5_goes 63 = .ok (.iconst 0, 1) := by decide +kernel
theorem dX5_goes_64 : decode cX5_goes 64 = .ok (.istore_n 3, 1) := by decide +kernel
theorem dX5_goes_65 : decode cX5_goes 65 = .ok (.iload_n 3, 1) := by decide +kernel
theorem dX5_goes_66 : decode cX5_goes 66 = .ok (.aload_n 0, 1) := by decide +kernel
theorem dX5_goes_67 : decode cX5_goes 67 = .ok (.getfield 9, 3) := by decide +kernel
theorem dX5_goes_70 : decode cX5_goes 70 = .ok (.iconst 2, 1) := by decide +kernel
theorem dX5_goes_71 : decode cX5_goes 71 = .ok (.iaload, 1) := by decide +kernel
theorem dX5_goes_72 : decode cX5_goes 72 = .ok (.if_icmp .ge 14, 3) := by decide +kernel
theorem dX5_goes_75 : decode cX5_goes 75 = .ok (.aload_n 0, 1) := by decide +kernel
theorem dX5_goes_76 : decode cX5_goes 76 = .ok (.iload_n 3, 1) := by decide +kernel
theorem dX5_goes_77 : decode cX5_goes 77 = .ok (.invokevirtual 108, 3) := by decide +kernel
theorem dX5_goes_80 : decode cX5_goes 80 = .ok (.iinc 3 1, 3) := by decide +kernel
theorem dX5_goes_83 : decode cX5_goes 83 = .ok (.goto (-18), 3) := by decide +kernel
theorem dX5_goes_86 : decode cX5_goes 86 = .ok (.aload_n 0, 1) := by decide +kernel
theorem dX5_goes_87 : decode cX5_goes 87 = .ok (.getfield 9, 3) := by decide +kernel
theorem dX5_goes_90 : decode cX5_goes 90 = .ok (.iconst 0, 1) := by decide +kernel
theorem dX5_goes_91 : decode cX5_goes 91 = .ok (.dup2, 1) := by decide +kernel
theorem dX5_goes_92 : decode cX5_goes 92 = .ok (.iaload, 1) := by decide +kernel
theorem dX5_goes_93 : decode cX5_goes 93 = .ok (.iconst 1, 1) := by decide +kernel
theorem dX5_goes_94 : decode cX5_goes 94 = .ok (.iadd, 1) := by decide +kernel
theorem dX5_goes_95 : decode cX5_goes 95 = .ok (.iastore, 1) := by decide +kernel
theorem dX5_goes_96 : decode cX5_goes 96 = .ok (.iinc 2 1, 3) := by decide +kernel
theorem dX5_goes_99 : decode cX5_goes 99 = .ok (.goto (-97), 3) := by decide +kernel
theorem dX5_goes_102 : decode cX5_goes 102 = .ok (.return_, 1) := by decide +kernel
theorem dX5_lies_0 : decode cX5_lies 0 = .ok (.aload_n 0, 1) := by decide +kernel
theorem dX5_lies_1 : decode cX5_lies 1 = .ok (.getfield 9, 3) := by decide +kernel
theorem dX5_lies_4 : decode cX5_lies 4 = .ok (.iconst 3, 1) := by decide +kernel
theorem dX5_lies_5 : decode cX5_lies 5 = .ok (.bipush 20, 2) := by decide +kernel
theorem dX5_lies_7 : decode cX5_lies 7 = .ok (.iload_n 1, 1) := by decide +kernel
theorem dX5_lies_8 : decode cX5_lies 8 = .ok (.imul, 1) := by decide +kernel
theorem dX5_lies_9 : decode cX5_lies 9 = .ok (.iadd, 1) := by decide +kernel
theorem dX5_lies_10 : decode cX5_lies 10 = .ok (.iload_n 2, 1) := by decide +kernel
theorem dX5_lies_11 : decode cX5_lies 11 = .ok (.iadd, 1) := by decide +kernel
theorem dX5_lies_12 : decode cX5_lies 12 = .ok (.iload_n 3, 1) := by decide +kernel
theorem dX5_lies_13 : decode cX5_lies 13 = .ok (.iastore, 1) := by decide +kernel
theorem dX5_lies_14 : decode cX5_lies 14 = .ok (.aload_n 0, 1) := by decide +kernel
theorem dX5_lies_15 : decode cX5_lies 15 = .ok (.getfield 9, 3) := by decide +kernel
theorem dX5_lies_18 : decode cX5_lies 18 = .ok (.bipush 63, 2) := by decide +kernel
theorem dX5_lies_20 : decode cX5_lies 20 = .ok (.bipush 20, 2) := by decide +kernel
theorem dX5_lies_22 : decode cX5_lies 22 = .ok (.iload_n 1, 1) := by decide +kernel
theorem dX5_lies_23 : decode cX5_lies 23 = .ok (.imul, 1) := by decide +kernel
theorem dX5_lies_24 : decode cX5_lies 24 = .ok (.iadd, 1) := by decide +kernel
theorem dX5_lies_25 : decode cX5_lies 25 = .ok (.iload_n 2, 1) := by decide +kernel
theorem dX5_lies_26 : decode cX5_lies 26 = .ok (.iadd, 1) := by decide +kernel
theorem dX5_lies_27 : decode cX5_lies 27 = .ok (.iconst 0, 1) := by decide +kernel
theorem dX5_lies_28 : decode cX5_lies 28 = .ok (.iastore, 1) := by decide +kernel
theorem dX5_lies_29 : decode cX5_lies 29 = .ok (.return_, 1) := by decide +kernel
theorem dX5_thing_0 : decode cX5_thing 0 = .ok (.iload_n 1, 1) := by decide +kernel
theorem dX5_thing_1 : decode cX5_thing 1 = .ok (.invokestatic 112, 3) := by decide +kernel
theorem dX5_thing_4 : decode cX5_thing 4 = .ok (.ifCond .eq 19, 3) := by decide +kernel
theorem dX5_thing_7 : decode cX5_thing 7 = .ok (.iload_n 2, 1) := by decide +kernel
theorem dX5_thing_8 : decode cX5_thing 8 = .ok (.invokestatic 115, 3) := by decide +kernel
theorem dX5_thing_11 : decode cX5_thing 11 = .ok (.ifCond .eq 12, 3) := by decide +kernel
theorem dX5_thing_14 : decode cX5_thing 14 = .ok (.iload_n 3, 1) := by decide +kernel
theorem dX5_thing_15 : decode cX5_thing 15 = .ok (.iconst 0, 1) := by decide +kernel
theorem dX5_thing_16 : decode cX5_thing 16 = .ok (.iconst 4, 1) := by decide +kernel
theorem dX5_thing_17 : decode cX5_thing 17 = .ok (.invokestatic 52, 3) := by decide +kernel
theorem dX5_thing_20 : decode cX5_thing 20 = .ok (.ifCond .ne 9, 3) := by decide +kernel
theorem dX5_thing_23 : decode cX5_thing 23 = .ok (.aload_n 0, 1) := by decide +kernel
theorem dX5_thing_24 : decode cX5_thing 24 = .ok (.iconst 0, 1) := by decide +kernel
theorem dX5_thing_25 : decode cX5_thing 25 = .ok (.invokevirtual 118, 3) := by decide +kernel
theorem dX5_thing_28 : decode cX5_thing 28 = .ok (.ireturn, 1) := by decide +kernel
theorem dX5_thing_29 : decode cX5_thing 29 = .ok (.aload_n 0, 1) := by decide +kernel
theorem dX5_thing_30 : decode cX5_thing 30 = .ok (.getfield 9, 3) := by decide +kernel
theorem dX5_thing_33 : decode cX5_thing 33 = .ok (.iconst 3, 1) := by decide +kernel
theorem dX5_thing_34 : decode cX5_thing 34 = .ok (.bipush 20, 2) := by decide +kernel
theorem dX5_thing_36 : decode cX5_thing 36 = .ok (.iload_n 1, 1) := by decide +kernel
theorem dX5_thing_37 : decode cX5_thing 37 = .ok (.imul, 1) := by decide +kernel
theorem dX5_thing_38 : decode cX5_thing 38 = .ok (.iadd, 1) := by decide +kernel
theorem dX5_thing_39 : decode cX5_thing 39 = .ok (.iload_n 2, 1) := by decide +kernel
theorem dX5_thing_40 : decode cX5_thing 40 = .ok (.iadd, 1) := by decide +kernel
theorem dX5_thing_41 : decode cX5_thing 41 = .ok (.iaload, 1) := by decide +kernel
theorem dX5_thing_42 : decode cX5_thing 42 = .ok (.istore 4, 2) := by decide +kernel
theorem dX5_thing_44 : decode cX5_thing 44 = .ok (.aload_n 0, 1) := by decide +kernel
theorem dX5_thing_45 : decode cX5_thing 45 = .ok (.iload_n 1, 1) := by decide +kernel
theorem dX5_thing_46 : decode cX5_thing 46 = .ok (.iload_n 2, 1) := by decide +kernel
theorem dX5_thing_47 : decode cX5_thing 47 = .ok (.iload_n 3, 1) := by decide +kernel
theorem dX5_thing_48 : decode cX5_thing 48 = .ok (.invokevirtual 121, 3) := by decide +kernel
theorem dX5_thing_51 : decode cX5_thing 51 = .ok (.iload 4, 2) := by decide +kernel
theorem dX5_thing_53 : decode cX5_thing 53 = .ok (.ireturn, 1) := by decide +kernel
theorem dX5_stretch_0 : decode cX5_stretch 0 = .ok (.iload_n 1, 1) := by decide +kernel
theorem dX5_stretch_1 : decode cX5_stretch 1 = .ok (.invokestatic 112, 3) := by decide +kernel
theorem dX5_stretch_4 : decode cX5_stretch 4 = .ok (.ifCond .eq 44, 3) := by decide +kernel
theorem dX5_stretch_7 : decode cX5_stretch 7 = .ok (.iload_n 2, 1) := by decide +kernel
theorem dX5_stretch_8 : decode cX5_stretch 8 = .ok (.invokestatic 115, 3) := by decide +kernel
theorem dX5_stretch_11 : decode cX5_stretch 11 = .ok (.ifCond .eq 37, 3) := by decide +kernel
theorem dX5_stretch_14 : decode cX5_stretch 14 = .ok (.iload_n 3, 1) := by decide +kernel
theorem dX5_stretch_15 : decode cX5_stretch 15 = .ok (.iconst 0, 1) := by decide +kernel
theorem dX5_stretch_16 : decode cX5_stretch 16 = .ok (.iconst 1, 1) := by decide +kernel
theorem dX5_stretch_17 : decode cX5_stretch 17 = .ok (.invokestatic 52, 3) := by decide +kernel
theorem dX5_stretch_20 : decode cX5_stretch 20 = .ok (.ifCond .eq 28, 3) := by decide +kernel
theorem dX5_stretch_23 : decode cX5_stretch 23 = .ok (.aload_n 0, 1) := by decide +kernel
theorem dX5_stretch_24 : decode cX5_stretch 24 = .ok (.getfield 9, 3) := by decide +kernel
theorem dX5_stretch_27 : decode cX5_stretch 27 = .ok (.iload_n 3, 1) := by decide +kernel
theorem dX5_stretch_28 : decode cX5_stretch 28 = .ok (.ifCond .ne 7, 3) := by decide +kernel
theorem dX5_stretch_31 : decode cX5_stretch 31 = .ok (.iconst 3, 1) := by decide +kernel
theorem dX5_stretch_32 : decode cX5_stretch 32 = .ok (.goto 5, 3) := by decide +kernel
theorem dX5_stretch_35 : decode cX5_stretch 35 = .ok (.bipush 63, 2) := by decide +kernel
theorem dX5_stretch_37 : decode cX5_stretch 37 = .ok (.bipush 20, 2) := by decide +kernel
theorem dX5_stretch_39 : decode cX5_stretch 39 = .ok (.iload_n 1, 1) := by decide +kernel
theorem dX5_stretch_40 : decode cX5_stretch 40 = .ok (.imul, 1) := by decide +kernel
theorem dX5_stretch_41 : decode cX5_stretch 41 = .ok (.iadd, 1) := by decide +kernel
theorem dX5_stretch_42 : decode cX5_stretch 42 = .ok (.iload_n 2, 1) := by decide +kernel
theorem dX5_stretch_43 : decode cX5_stretch 43 = .ok (.iadd, 1) := by decide +kernel
theorem dX5_stretch_44 : decode cX5_stretch 44 = .ok (.iaload, 1) := by decide +kernel
theorem dX5_stretch_45 : decode cX5_stretch 45 = .ok (.goto 8, 3) := by decide +kernel
theorem dX5_stretch_48 : decode cX5_stretch 48 = .ok (.aload_n 0, 1) := by decide +kernel
theorem dX5_stretch_49 : decode cX5_stretch 49 = .ok (.iconst 0, 1) := by decide +kernel
theorem dX5_stretch_50 : decode cX5_stretch 50 = .ok (.invokevirtual 118, 3) := by decide +kernel
theorem dX5_stretch_53 : decode cX5_stretch 53 = .ok (.ireturn, 1) := by decide +kernel
theorem dX5_high_0 : decode cX5_high 0 = .ok (.iload_n 1, 1) := by decide +kernel
theorem dX5_high_1 : decode cX5_high 1 = .ok (.iconst 1, 1) := by decide +kernel
theorem dX5_high_2 : decode cX5_high 2 = .ok (.bipush 6, 2) := by decide +kernel
theorem dX5_high_4 : decode cX5_high 4 = .ok (.invokestatic 52, 3) := by decide +kernel
theorem dX5_high_7 : decode cX5_high 7 = .ok (.ifCond .ne 9, 3) := by decide +kernel
theorem dX5_high_10 : decode cX5_high 10 = .ok (.aload_n 0, 1) := by decide +kernel
theorem dX5_high_11 : decode cX5_high 11 = .ok (.iconst 0, 1) := by decide +kernel
theorem dX5_high_12 : decode cX5_high 12 = .ok (.invokevirtual 118, 3) := by decide +kernel
theorem dX5_high_15 : decode cX5_high 15 = .ok (.ireturn, 1) := by decide +kernel
theorem dX5_high_16 : decode cX5_high 16 = .ok (.aload_n 0, 1) := by decide +kernel
theorem dX5_high_17 : decode cX5_high 17 = .ok (.getfield 9, 3) := by decide +kernel
theorem dX5_high_20 : decode cX5_high 20 = .ok (.iconst 1, 1) := by decide +kernel
theorem dX5_high_21 : decode cX5_high 21 = .ok (.iaload, 1) := by decide +kernel
theorem dX5_high_22 : decode cX5_high 22 = .ok (.istore_n 2, 1) := by decide +kernel
theorem dX5_high_23 : decode cX5_high 23 = .ok (.aload_n 0, 1) := by decide +kernel
theorem dX5_high_24 : decode cX5_high 24 = .ok (.getfield 9, 3) := by decide +kernel
theorem dX5_high_27 : decode cX5_high 27 = .ok (.iconst 1, 1) := by decide +kernel
theorem dX5_high_28 : decode cX5_high 28 = .ok (.iload_n 1, 1) := by decide +kernel
theorem dX5_high_29 : decode cX5_high 29 = .ok (.iastore, 1) := by decide +kernel
theorem dX5_high_30 : decode cX5_high 30 = .ok (.iload_n 2, 1) := by decide +kernel
theorem dX5_high_31 : decode cX5_high 31 = .ok (.ireturn, 1) := by decide +kernel
theorem dX5_bumpsIn_0 : decode cX5_bumpsIn 0 = .ok (.iconst 0, 1) := by decide +kernel
theorem dX5_bumpsIn_1 : decode cX5_bumpsIn 1 = .ok (.istore_n 2, 1) := by decide +kernel
theorem dX5_bumpsIn_2 : decode cX5_bumpsIn 2 = .ok (.iconst 0, 1) := by decide +kernel
theorem dX5_bumpsIn_3 : decode cX5_bumpsIn 3 = .ok (.istore_n 3, 1) := by decide +kernel
theorem dX5_bumpsIn_4 : decode cX5_bumpsIn 4 = .ok (.iload_n 3, 1) := by decide +kernel
theorem dX5_bumpsIn_5 : decode cX5_bumpsIn 5 = .ok (.bipush 20, 2) := by decide +kernel
theorem dX5_bumpsIn_7 : decode cX5_bumpsIn 7 = .ok (.if_icmp .ge 34, 3) := by decide +kernel
theorem dX5_bumpsIn_10 : decode cX5_bumpsIn 10 = .ok (.iload_n 2, 1) := by decide +kernel
theorem dX5_bumpsIn_11 : decode cX5_bumpsIn 11 = .ok (.aload_n 0, 1) := by decide +kernel
theorem dX5_bumpsIn_12 : decode cX5_bumpsIn 12 = .ok (.getfield 9, 3) := by decide +kernel
theorem dX5_bumpsIn_15 : decode cX5_bumpsIn 15 = .ok (.iconst 3, 1) := by decide +kernel
theorem dX5_bumpsIn_16 : decode cX5_bumpsIn 16 = .ok (.bipush 20, 2) := by decide +kernel
theorem dX5_bumpsIn_18 : decode cX5_bumpsIn 18 = .ok (.iload_n 1, 1) := by decide +kernel
theorem dX5_bumpsIn_19 : decode cX5_bumpsIn 19 = .ok (.imul, 1) := by decide +kernel
theorem dX5_bumpsIn_20 : decode cX5_bumpsIn 20 = .ok (.iadd, 1) := by decide +kernel
theorem dX5_bumpsIn_21 : decode cX5_bumpsIn 21 = .ok (.iload_n 3, 1) := by decide +kernel
theorem dX5_bumpsIn_22 : decode cX5_bumpsIn 22 = .ok (.iadd, 1) := by decide +kernel
theorem dX5_bumpsIn_23 : decode cX5_bumpsIn 23 = .ok (.iaload, 1) := by decide +kernel
theorem dX5_bumpsIn_24 : decode cX5_bumpsIn 24 = .ok (.iconst 1, 1) := by decide +kernel
theorem dX5_bumpsIn_25 : decode cX5_bumpsIn 25 = .ok (.if_icmp .ne 7, 3) := by decide +kernel
theorem dX5_bumpsIn_28 : decode cX5_bumpsIn 28 = .ok (.iconst 1, 1) := by decide +kernel
theorem dX5_bumpsIn_29 : decode cX5_bumpsIn 29 = .ok (.goto 4, 3) := by decide +kernel
theorem dX5_bumpsIn_32 : decode cX5_bumpsIn 32 = .ok (.iconst 0, 1) := by decide +kernel
theorem dX5_bumpsIn_33 : decode cX5_bumpsIn 33 = .ok (.iadd, 1) := by decide +kernel
theorem dX5_bumpsIn_34 : decode cX5_bumpsIn 34 = .ok (.istore_n 2, 1) := by decide +kernel
theorem dX5_bumpsIn_35 : decode cX5_bumpsIn 35 = .ok (.iinc 3 1, 3) := by decide +kernel
theorem dX5_bumpsIn_38 : decode cX5_bumpsIn 38 = .ok (.goto (-34), 3) := by decide +kernel
theorem dX5_bumpsIn_41 : decode cX5_bumpsIn 41 = .ok (.iload_n 2, 1) := by decide +kernel
theorem dX5_bumpsIn_42 : decode cX5_bumpsIn 42 = .ok (.ireturn, 1) := by decide +kernel
theorem dX5_thingsIn_0 : decode cX5_thingsIn 0 = .ok (.iconst 0, 1) := by decide +kernel
theorem dX5_thingsIn_1 : decode cX5_thingsIn 1 = .ok (.istore_n 2, 1) := by decide +kernel
theorem dX5_thingsIn_2 : decode cX5_thingsIn 2 = .ok (.iconst 0, 1) := by decide +kernel
theorem dX5_thingsIn_3 : decode cX5_thingsIn 3 = .ok (.istore_n 3, 1) := by decide +kernel
theorem dX5_thingsIn_4 : decode cX5_thingsIn 4 = .ok (.iload_n 3, 1) := by decide +kernel
theorem dX5_thingsIn_5 : decode cX5_thingsIn 5 = .ok (.bipush 20, 2) := by decide +kernel
theorem dX5_thingsIn_7 : decode cX5_thingsIn 7 = .ok (.if_icmp .ge 35, 3) := by decide +kernel
theorem dX5_thingsIn_10 : decode cX5_thingsIn 10 = .ok (.iload_n 2, 1) := by decide +kernel
theorem dX5_thingsIn_11 : decode cX5_thingsIn 11 = .ok (.aload_n 0, 1) := by decide +kernel
theorem dX5_thingsIn_12 : decode cX5_thingsIn 12 = .ok (.getfield 9, 3) := by decide +kernel
theorem dX5_thingsIn_15 : decode cX5_thingsIn 15 = .ok (.iconst 3, 1) := by decide +kernel
theorem dX5_thingsIn_16 : decode cX5_thingsIn 16 = .ok (.bipush 20, 2) := by decide +kernel
theorem dX5_thingsIn_18 : decode cX5_thingsIn 18 = .ok (.iload_n 1, 1) := by decide +kernel
theorem dX5_thingsIn_19 : decode cX5_thingsIn 19 = .ok (.imul, 1) := by decide +kernel
theorem dX5_thingsIn_20 : decode cX5_thingsIn 20 = .ok (.iadd, 1) := by decide +kernel
theorem dX5_thingsIn_21 : decode cX5_thingsIn 21 = .ok (.iload_n 3, 1) := by decide +kernel
theorem dX5_thingsIn_22 : decode cX5_thingsIn 22 = .ok (.iadd, 1) := by decide +kernel
theorem dX5_thingsIn_23 : decode cX5_thingsIn 23 = .ok (.iaload, 1) := by decide +kernel
theorem dX5_thingsIn_24 : decode cX5_thingsIn 24 = .ok (.ifCond .ne 7, 3) := by decide +kernel
theorem dX5_thingsIn_27 : decode cX5_thingsIn 27 = .ok (.iconst 0, 1) := by decide +kernel
theorem dX5_thingsIn_28 : decode cX5_thingsIn 28 = .ok (.goto 6, 3) := by decide +kernel
theorem dX5_thingsIn_31 : decode cX5_thingsIn 31 = .ok (.iconst 1, 1) := by decide +kernel
theorem dX5_thingsIn_32 : decode cX5_thingsIn 32 = .ok (.iload_n 3, 1) := by decide +kernel
theorem dX5_thingsIn_33 : decode cX5_thingsIn 33 = .ok (.ishl, 1) := by decide +kernel
theorem dX5_thingsIn_34 : decode cX5_thingsIn 34 = .ok (.ior, 1) := by decide +kernel
theorem dX5_thingsIn_35 : decode cX5_thingsIn 35 = .ok (.istore_n 2, 1) := by decide +kernel
theorem dX5_thingsIn_36 : decode cX5_thingsIn 36 = .ok (.iinc 3 1, 3) := by decide +kernel
theorem dX5_thingsIn_39 : decode cX5_thingsIn 39 = .ok (.goto (-35), 3) := by decide +kernel
theorem dX5_thingsIn_42 : decode cX5_thingsIn 42 = .ok (.iload_n 2, 1) := by decide +kernel
theorem dX5_thingsIn_43 : decode cX5_thingsIn 43 = .ok (.ireturn, 1) := by decide +kernel
theorem dX5_street_0 : decode cX5_street 0 = .ok (.iload_n 1, 1) := by decide +kernel
theorem dX5_street_1 : decode cX5_street 1 = .ok (.invokestatic 112, 3) := by decide +kernel
theorem dX5_street_4 : decode cX5_street 4 = .ok (.ifCond .eq 12, 3) := by decide +kernel
theorem dX5_street_7 : decode cX5_street 7 = .ok (.iload_n 2, 1) := by decide +kernel
theorem dX5_street_8 : decode cX5_street 8 = .ok (.iconst 0, 1) := by decide +kernel
theorem dX5_street_9 : decode cX5_street 9 = .ok (.iconst 3, 1) := by decide +kernel
theorem dX5_street_10 : decode cX5_street 10 = .ok (.invokestatic 52, 3) := by decide +kernel
theorem dX5_street_13 : decode cX5_street 13 = .ok (.ifCond .ne 9, 3) := by decide +kernel
theorem dX5_street_16 : decode cX5_street 16 = .ok (.aload_n 0, 1) := by decide +kernel
theorem dX5_street_17 : decode cX5_street 17 = .ok (.iconst 0, 1) := by decide +kernel
theorem dX5_street_18 : decode cX5_street 18 = .ok (.invokevirtual 118, 3) := by decide +kernel
theorem dX5_street_21 : decode cX5_street 21 = .ok (.ireturn, 1) := by decide +kernel
theorem dX5_street_22 : decode cX5_street 22 = .ok (.iconst 0, 1) := by decide +kernel
theorem dX5_street_23 : decode cX5_street 23 = .ok (.istore_n 3, 1) := by decide +kernel
theorem dX5_street_24 : decode cX5_street 24 = .ok (.iconst 0, 1) := by decide +kernel
theorem dX5_street_25 : decode cX5_street 25 = .ok (.istore 4, 2) := by decide +kernel
theorem dX5_street_27 : decode cX5_street 27 = .ok (.iconst 0, 1) := by decide +kernel
theorem dX5_street_28 : decode cX5_street 28 = .ok (.istore 5, 2) := by decide +kernel
theorem dX5_street_30 : decode cX5_street 30 = .ok (.iload 5, 2) := by decide +kernel
theorem dX5_street_32 : decode cX5_street 32 = .ok (.aload_n 0, 1) := by decide +kernel
theorem dX5_street_33 : decode cX5_street 33 = .ok (.getfield 9, 3) := by decide +kernel
theorem dX5_street_36 : decode cX5_street 36 = .ok (.iconst 2, 1) := by decide +kernel
theorem dX5_street_37 : decode cX5_street 37 = .ok (.iaload, 1) := by decide +kernel
theorem dX5_street_38 : decode cX5_street 38 = .ok (.if_icmp .ge 64, 3) := by decide +kernel
theorem dX5_street_41 : decode cX5_street 41 = .ok (.aload_n 0, 1) := by decide +kernel
theorem dX5_street_42 : decode cX5_street 42 = .ok (.iload 5, 2) := by decide +kernel
theorem dX5_street_44 : decode cX5_street 44 = .ok (.iconst 2, 1) := by decide +kernel
theorem dX5_street_45 : decode cX5_street 45 = .ok (.invokevirtual 92, 3) := by decide +kernel
theorem dX5_street_48 : decode cX5_street 48 = .ok (.iload_n 1, 1) := by decide +kernel
theorem dX5_street_49 : decode cX5_street 49 = .ok (.if_icmp .ne 7, 3) := by decide +kernel
theorem dX5_street_52 : decode cX5_street 52 = .ok (.iconst 1, 1) := by decide +kernel
theorem dX5_street_53 : decode cX5_street 53 = .ok (.goto 4, 3) := by decide +kernel
theorem dX5_street_56 : decode cX5_street 56 = .ok (.iconst 0, 1) := by decide +kernel
theorem dX5_street_57 : decode cX5_street 57 = .ok (.istore 6, 2) := by decide +kernel
theorem dX5_street_59 : decode cX5_street 59 = .ok (.iload_n 3, 1) := by decide +kernel
theorem dX5_street_60 : decode cX5_street 60 = .ok (.iload 6, 2) := by decide +kernel
theorem dX5_street_62 : decode cX5_street 62 = .ok (.ifCond .eq 10, 3) := by decide +kernel
theorem dX5_street_65 : decode cX5_street 65 = .ok (.iconst 1, 1) := by decide +kernel
theorem dX5_street_66 : decode cX5_street 66 = .ok (.iload 5, 2) := by decide +kernel
theorem dX5_street_68 : decode cX5_street 68 = .ok (.ishl, 1) := by decide +kernel
theorem dX5_street_69 : decode cX5_street 69 = .ok (.goto 4, 3) := by decide +kernel
theorem dX5_street_72 : decode cX5_street 72 = .ok (.iconst 0, 1) := by decide +kernel
theorem dX5_street_73 : decode cX5_street 73 = .ok (.ior, 1) := by decide +kernel
theorem dX5_street_74 : decode cX5_street 74 = .ok (.istore_n 3, 1) := by decide +kernel
theorem dX5_street_75 : decode cX5_street 75 = .ok (.iload 4, 2) := by decide +kernel
theorem dX5_street_77 : decode cX5_street 77 = .ok (.iload 6, 2) := by decide +kernel
theorem dX5_street_79 : decode cX5_street 79 = .ok (.ifCond .eq 13, 3) := by decide +kernel
theorem dX5_street_82 : decode cX5_street 82 = .ok (.aload_n 0, 1) := by decide +kernel
theorem dX5_street_83 : decode cX5_street 83 = .ok (.iload 5, 2) := by decide +kernel
theorem dX5_street_85 : decode cX5_street 85 = .ok (.iload_n 1, 1) := by decide +kernel
theorem dX5_street_86 : decode cX5_street 86 = .ok (.invokevirtual 99, 3) := by decide +kernel
theorem dX5_street_89 : decode cX5_street 89 = .ok (.goto 4, 3) := by decide +kernel
theorem dX5_street_92 : decode cX5_street 92 = .ok (.iconst 0, 1) := by decide +kernel
theorem dX5_street_93 : decode cX5_street 93 = .ok (.iadd, 1) := by decide +kernel
theorem dX5_street_94 : decode cX5_street 94 = .ok (.istore 4, 2) := by decide +kernel
theorem dX5_street_96 : decode cX5_street 96 = .ok (.iinc 5 1, 3) := by decide +kernel
theorem dX5_street_99 : decode cX5_street 99 = .ok (.goto (-69), 3) := by decide +kernel
theorem dX5_street_102 : decode cX5_street 102 = .ok (.iload_n 2, 1) := by decide +kernel
theorem dX5_street_103 : decode cX5_street 103 = .ok (.ifCond .ne 11, 3) := by decide +kernel
theorem dX5_street_106 : decode cX5_street 106 = .ok (.aload_n 0, 1) := by decide +kernel
theorem dX5_street_107 : decode cX5_street 107 = .ok (.iload_n 1, 1) := by decide +kernel
theorem dX5_street_108 : decode cX5_street 108 = .ok (.invokevirtual 124, 3) := by decide +kernel
theorem dX5_street_111 : decode cX5_street 111 = .ok (.goto 27, 3) := by decide +kernel
theorem dX5_street_114 : decode cX5_street 114 = .ok (.iload_n 2, 1) := by decide +kernel
theorem dX5_street_115 : decode cX5_street 115 = .ok (.iconst 1, 1) := by decide +kernel
theorem dX5_street_116 : decode cX5_street 116 = .ok (.if_icmp .ne 11, 3) := by decide +kernel
theorem dX5_street_119 : decode cX5_street 119 = .ok (.aload_n 0, 1) := by decide +kernel
theorem dX5_street_120 : decode cX5_street 120 = .ok (.iload_n 1, 1) := by decide +kernel
theorem dX5_street_121 : decode cX5_street 121 = .ok (.invokevirtual 127, 3) := by decide +kernel
theorem dX5_street_124 : decode cX5_street 124 = .ok (.goto 14, 3) := by decide +kernel
theorem dX5_street_127 : decode cX5_street 127 = .ok (.iload_n 2, 1) := by decide +kernel
theorem dX5_street_128 : decode cX5_street 128 = .ok (.iconst 2, 1) := by decide +kernel
theorem dX5_street_129 : decode cX5_street 129 = .ok (.if_icmp .ne 7, 3) := by decide +kernel
theorem dX5_street_132 : decode cX5_street 132 = .ok (.iload_n 3, 1) := by decide +kernel
theorem dX5_street_133 : decode cX5_street 133 = .ok (.goto 5, 3) := by decide +kernel
theorem dX5_street_136 : decode cX5_street 136 = .ok (.iload 4, 2) := by decide +kernel
theorem dX5_street_138 : decode cX5_street 138 = .ok (.ireturn, 1) := by decide +kernel
theorem dX5_now_0 : decode cX5_now 0 = .ok (.iload_n 1, 1) := by decide +kernel
theorem dX5_now_1 : decode cX5_now 1 = .ok (.tableswitch 55 0 3 #[31, 38, 45, 50], 31) := by decide +kernel
theorem dX5_now_32 : decode cX5_now 32 = .ok (.aload_n 0, 1) := by decide +kernel
theorem dX5_now_33 : decode cX5_now 33 = .ok (.getfield 9, 3) := by decide +kernel
theorem dX5_now_36 : decode cX5_now 36 = .ok (.iconst 0, 1) := by decide +kernel
theorem dX5_now_37 : decode cX5_now 37 = .ok (.iaload, 1) := by decide +kernel
theorem dX5_now_38 : decode cX5_now 38 = .ok (.ireturn, 1) := by decide +kernel
theorem dX5_now_39 : decode cX5_now 39 = .ok (.aload_n 0, 1) := by decide +kernel
theorem dX5_now_40 : decode cX5_now 40 = .ok (.getfield 9, 3) := by decide +kernel
theorem dX5_now_43 : decode cX5_now 43 = .ok (.iconst 1, 1) := by decide +kernel
theorem dX5_now_44 : decode cX5_now 44 = .ok (.iaload, 1) := by decide +kernel
theorem dX5_now_45 : decode cX5_now 45 = .ok (.ireturn, 1) := by decide +kernel
theorem dX5_now_46 : decode cX5_now 46 = .ok (.aload_n 0, 1) := by decide +kernel
theorem dX5_now_47 : decode cX5_now 47 = .ok (.invokevirtual 130, 3) := by decide +kernel
theorem dX5_now_50 : decode cX5_now 50 = .ok (.ireturn, 1) := by decide +kernel
theorem dX5_now_51 : decode cX5_now 51 = .ok (.aload_n 0, 1) := by decide +kernel
theorem dX5_now_52 : decode cX5_now 52 = .ok (.invokevirtual 134, 3) := by decide +kernel
theorem dX5_now_55 : decode cX5_now 55 = .ok (.ireturn, 1) := by decide +kernel
theorem dX5_now_56 : decode cX5_now 56 = .ok (.aload_n 0, 1) := by decide +kernel
theorem dX5_now_57 : decode cX5_now 57 = .ok (.iconst 0, 1) := by decide +kernel
theorem dX5_now_58 : decode cX5_now 58 = .ok (.invokevirtual 118, 3) := by decide +kernel
theorem dX5_now_61 : decode cX5_now 61 = .ok (.ireturn, 1) := by decide +kernel
theorem dX5_addsDriver_0 : decode cX5_addsDriver 0 = .ok (.aload_n 0, 1) := by decide +kernel
theorem dX5_addsDriver_1 : decode cX5_addsDriver 1 = .ok (.getfield 9, 3) := by decide +kernel
theorem dX5_addsDriver_4 : decode cX5_addsDriver 4 = .ok (.iconst 2, 1) := by decide +kernel
theorem dX5_addsDriver_5 : decode cX5_addsDriver 5 = .ok (.iaload, 1) := by decide +kernel
theorem dX5_addsDriver_6 : decode cX5_addsDriver 6 = .ok (.istore_n 2, 1) := by decide +kernel
theorem dX5_addsDriver_7 : decode cX5_addsDriver 7 = .ok (.aload_n 0, 1) := by decide +kernel
theorem dX5_addsDriver_8 : decode cX5_addsDriver 8 = .ok (.iload_n 2, 1) := by decide +kernel
theorem dX5_addsDriver_9 : decode cX5_addsDriver 9 = .ok (.iconst 0, 1) := by decide +kernel
theorem dX5_addsDriver_10 : decode cX5_addsDriver 10 = .ok (.iload_n 1, 1) := by decide +kernel
theorem dX5_addsDriver_11 : decode cX5_addsDriver 11 = .ok (.invokevirtual 105, 3) := by decide +kernel
theorem dX5_addsDriver_14 : decode cX5_addsDriver 14 = .ok (.aload_n 0, 1) := by decide +kernel
theorem dX5_addsDriver_15 : decode cX5_addsDriver 15 = .ok (.iload_n 2, 1) := by decide +kernel
theorem dX5_addsDriver_16 : decode cX5_addsDriver 16 = .ok (.iconst 1, 1) := by decide +kernel
theorem dX5_addsDriver_17 : decode cX5_addsDriver 17 = .ok (.bipush 40, 2) := by decide +kernel
theorem dX5_addsDriver_19 : decode cX5_addsDriver 19 = .ok (.invokevirtual 105, 3) := by decide +kernel
theorem dX5_addsDriver_22 : decode cX5_addsDriver 22 = .ok (.aload_n 0, 1) := by decide +kernel
theorem dX5_addsDriver_23 : decode cX5_addsDriver 23 = .ok (.iload_n 2, 1) := by decide +kernel
theorem dX5_addsDriver_24 : decode cX5_addsDriver 24 = .ok (.iconst 2, 1) := by decide +kernel
theorem dX5_addsDriver_25 : decode cX5_addsDriver 25 = .ok (.iconst 0, 1) := by decide +kernel
theorem dX5_addsDriver_26 : decode cX5_addsDriver 26 = .ok (.invokevirtual 105, 3) := by decide +kernel
theorem dX5_addsDriver_29 : decode cX5_addsDriver 29 = .ok (.aload_n 0, 1) := by decide +kernel
theorem dX5_addsDriver_30 : decode cX5_addsDriver 30 = .ok (.getfield 9, 3) := by decide +kernel
theorem dX5_addsDriver_33 : decode cX5_addsDriver 33 = .ok (.iconst 2, 1) := by decide +kernel
theorem dX5_addsDriver_34 : decode cX5_addsDriver 34 = .ok (.dup2, 1) := by decide +kernel
theorem dX5_addsDriver_35 : decode cX5_addsDriver 35 = .ok (.iaload, 1) := by decide +kernel
theorem dX5_addsDriver_36 : decode cX5_addsDriver 36 = .ok (.iconst 1, 1) := by decide +kernel
theorem dX5_addsDriver_37 : decode cX5_addsDriver 37 = .ok (.iadd, 1) := by decide +kernel
theorem dX5_addsDriver_38 : decode cX5_addsDriver 38 = .ok (.iastore, 1) := by decide +kernel
theorem dX5_addsDriver_39 : decode cX5_addsDriver 39 = .ok (.return_, 1) := by decide +kernel
theorem dX5_driver_0 : decode cX5_driver 0 = .ok (.iload_n 1, 1) := by decide +kernel
theorem dX5_driver_1 : decode cX5_driver 1 = .ok (.iconst 0, 1) := by decide +kernel
theorem dX5_driver_2 : decode cX5_driver 2 = .ok (.iconst 5, 1) := by decide +kernel
theorem dX5_driver_3 : decode cX5_driver 3 = .ok (.invokestatic 52, 3) := by decide +kernel
theorem dX5_driver_6 : decode cX5_driver 6 = .ok (.ifCond .ne 9, 3) := by decide +kernel
theorem dX5_driver_9 : decode cX5_driver 9 = .ok (.aload_n 0, 1) := by decide +kernel
theorem dX5_driver_10 : decode cX5_driver 10 = .ok (.iconst 0, 1) := by decide +kernel
theorem dX5_driver_11 : decode cX5_driver 11 = .ok (.invokevirtual 118, 3) := by decide +kernel
theorem dX5_driver_14 : decode cX5_driver 14 = .ok (.ireturn, 1) := by decide +kernel
theorem dX5_driver_15 : decode cX5_driver 15 = .ok (.aload_n 0, 1) := by decide +kernel
theorem dX5_driver_16 : decode cX5_driver 16 = .ok (.getfield 9, 3) := by decide +kernel
theorem dX5_driver_19 : decode cX5_driver 19 = .ok (.iconst 2, 1) := by decide +kernel
theorem dX5_driver_20 : decode cX5_driver 20 = .ok (.iaload, 1) := by decide +kernel
theorem dX5_driver_21 : decode cX5_driver 21 = .ok (.bipush 8, 2) := by decide +kernel
theorem dX5_driver_23 : decode cX5_driver 23 = .ok (.if_icmp .ne 9, 3) := by decide +kernel
theorem dX5_driver_26 : decode cX5_driver 26 = .ok (.aload_n 0, 1) := by decide +kernel
theorem dX5_driver_27 : decode cX5_driver 27 = .ok (.iconst 1, 1) := by decide +kernel
theorem dX5_driver_28 : decode cX5_driver 28 = .ok (.invokevirtual 118, 3) := by decide +kernel
theorem dX5_driver_31 : decode cX5_driver 31 = .ok (.ireturn, 1) := by decide +kernel
theorem dX5_driver_32 : decode cX5_driver 32 = .ok (.aload_n 0, 1) := by decide +kernel
theorem dX5_driver_33 : decode cX5_driver 33 = .ok (.iload_n 1, 1) := by decide +kernel
theorem dX5_driver_34 : decode cX5_driver 34 = .ok (.invokevirtual 137, 3) := by decide +kernel
theorem dX5_driver_37 : decode cX5_driver 37 = .ok (.aload_n 0, 1) := by decide +kernel
theorem dX5_driver_38 : decode cX5_driver 38 = .ok (.getfield 9, 3) := by decide +kernel
theorem dX5_driver_41 : decode cX5_driver 41 = .ok (.iconst 2, 1) := by decide +kernel
theorem dX5_driver_42 : decode cX5_driver 42 = .ok (.iaload, 1) := by decide +kernel
theorem dX5_driver_43 : decode cX5_driver 43 = .ok (.iconst 1, 1) := by decide +kernel
theorem dX5_driver_44 : decode cX5_driver 44 = .ok (.isub, 1) := by decide +kernel
theorem dX5_driver_45 : decode cX5_driver 45 = .ok (.ireturn, 1) := by decide +kernel
theorem dX5_of_0 : decode cX5_of 0 = .ok (.aload_n 0, 1) := by decide +kernel
theorem dX5_of_1 : decode cX5_of 1 = .ok (.iload_n 1, 1) := by decide +kernel
theorem dX5_of_2 : decode cX5_of 2 = .ok (.invokevirtual 140, 3) := by decide +kernel
theorem dX5_of_5 : decode cX5_of 5 = .ok (.ifCond .eq 12, 3) := by decide +kernel
theorem dX5_of_8 : decode cX5_of 8 = .ok (.iload_n 2, 1) := by decide +kernel
theorem dX5_of_9 : decode cX5_of 9 = .ok (.iconst 0, 1) := by decide +kernel
theorem dX5_of_10 : decode cX5_of 10 = .ok (.iconst 5, 1) := by decide +kernel
theorem dX5_of_11 : decode cX5_of 11 = .ok (.invokestatic 52, 3) := by decide +kernel
theorem dX5_of_14 : decode cX5_of 14 = .ok (.ifCond .ne 9, 3) := by decide +kernel
theorem dX5_of_17 : decode cX5_of 17 = .ok (.aload_n 0, 1) := by decide +kernel
theorem dX5_of_18 : decode cX5_of 18 = .ok (.iconst 0, 1) := by decide +kernel
theorem dX5_of_19 : decode cX5_of 19 = .ok (.invokevirtual 118, 3) := by decide +kernel
theorem dX5_of_22 : decode cX5_of 22 = .ok (.ireturn, 1) := by decide +kernel
theorem dX5_of_23 : decode cX5_of 23 = .ok (.iload_n 2, 1) := by decide +kernel
theorem dX5_of_24 : decode cX5_of 24 = .ok (.tableswitch 62 3 5 #[28, 38, 50], 28) := by decide +kernel
theorem dX5_of_52 : decode cX5_of 52 = .ok (.aload_n 0, 1) := by decide +kernel
theorem dX5_of_53 : decode cX5_of 53 = .ok (.iload_n 1, 1) := by decide +kernel
theorem dX5_of_54 : decode cX5_of 54 = .ok (.iconst 0, 1) := by decide +kernel
theorem dX5_of_55 : decode cX5_of 55 = .ok (.invokevirtual 92, 3) := by decide +kernel
theorem dX5_of_58 : decode cX5_of 58 = .ok (.invokestatic 82, 3) := by decide +kernel
theorem dX5_of_61 : decode cX5_of 61 = .ok (.ireturn, 1) := by decide +kernel
theorem dX5_of_62 : decode cX5_of 62 = .ok (.aload_n 0, 1) := by decide +kernel
theorem dX5_of_63 : decode cX5_of 63 = .ok (.iload_n 1, 1) := by decide +kernel
theorem dX5_of_64 : decode cX5_of 64 = .ok (.aload_n 0, 1) := by decide +kernel
theorem dX5_of_65 : decode cX5_of 65 = .ok (.iload_n 1, 1) := by decide +kernel
theorem dX5_of_66 : decode cX5_of 66 = .ok (.iconst 2, 1) := by decide +kernel
theorem dX5_of_67 : decode cX5_of 67 = .ok (.invokevirtual 92, 3) := by decide +kernel
theorem dX5_of_70 : decode cX5_of 70 = .ok (.invokevirtual 102, 3) := by decide +kernel
theorem dX5_of_73 : decode cX5_of 73 = .ok (.ireturn, 1) := by decide +kernel
theorem dX5_of_74 : decode cX5_of 74 = .ok (.aload_n 0, 1) := by decide +kernel
theorem dX5_of_75 : decode cX5_of 75 = .ok (.iload_n 1, 1) := by decide +kernel
theorem dX5_of_76 : decode cX5_of 76 = .ok (.aload_n 0, 1) := by decide +kernel
theorem dX5_of_77 : decode cX5_of 77 = .ok (.iload_n 1, 1) := by decide +kernel
theorem dX5_of_78 : decode cX5_of 78 = .ok (.iconst 2, 1) := by decide +kernel
theorem dX5_of_79 : decode cX5_of 79 = .ok (.invokevirtual 92, 3) := by decide +kernel
theorem dX5_of_82 : decode cX5_of 82 = .ok (.invokevirtual 99, 3) := by decide +kernel
theorem dX5_of_85 : decode cX5_of 85 = .ok (.ireturn, 1) := by decide +kernel
theorem dX5_of_86 : decode cX5_of 86 = .ok (.aload_n 0, 1) := by decide +kernel
theorem dX5_of_87 : decode cX5_of 87 = .ok (.iload_n 1, 1) := by decide +kernel
theorem dX5_of_88 : decode cX5_of 88 = .ok (.iload_n 2, 1) := by decide +kernel
theorem dX5_of_89 : decode cX5_of 89 = .ok (.invokevirtual 92, 3) := by decide +kernel
theorem dX5_of_92 : decode cX5_of 92 = .ok (.ireturn, 1) := by decide +kernel
theorem dX5_isWish_0 : decode cX5_isWish 0 = .ok (.iload_n 0, 1) := by decide +kernel
theorem dX5_isWish_1 : decode cX5_isWish 1 = .ok (.bipush 10, 2) := by decide +kernel
theorem dX5_isWish_3 : decode cX5_isWish 3 = .ok (.bipush 80, 2) := by decide +kernel
theorem dX5_isWish_5 : decode cX5_isWish 5 = .ok (.invokestatic 52, 3) := by decide +kernel
theorem dX5_isWish_8 : decode cX5_isWish 8 = .ok (.ireturn, 1) := by decide +kernel
theorem dX5_set_0 : decode cX5_set 0 = .ok (.aload_n 0, 1) := by decide +kernel
theorem dX5_set_1 : decode cX5_set 1 = .ok (.iload_n 1, 1) := by decide +kernel
theorem dX5_set_2 : decode cX5_set 2 = .ok (.invokevirtual 140, 3) := by decide +kernel
theorem dX5_set_5 : decode cX5_set 5 = .ok (.ifCond .eq 34, 3) := by decide +kernel
theorem dX5_set_8 : decode cX5_set 8 = .ok (.iload_n 2, 1) := by decide +kernel
theorem dX5_set_9 : decode cX5_set 9 = .ok (.iconst 1, 1) := by decide +kernel
theorem dX5_set_10 : decode cX5_set 10 = .ok (.iconst 2, 1) := by decide +kernel
theorem dX5_set_11 : decode cX5_set 11 = .ok (.invokestatic 52, 3) := by decide +kernel
theorem dX5_set_14 : decode cX5_set 14 = .ok (.ifCond .eq 25, 3) := by decide +kernel
theorem dX5_set_17 : decode cX5_set 17 = .ok (.iload_n 2, 1) := by decide +kernel
theorem dX5_set_18 : decode cX5_set 18 = .ok (.iconst 1, 1) := by decide +kernel
theorem dX5_set_19 : decode cX5_set 19 = .ok (.if_icmp .ne 13, 3) := by decide +kernel
theorem dX5_set_22 : decode cX5_set 22 = .ok (.iload_n 3, 1) := by decide +kernel
theorem dX5_set_23 : decode cX5_set 23 = .ok (.invokestatic 143, 3) := by decide +kernel
theorem dX5_set_26 : decode cX5_set 26 = .ok (.ifCond .eq 13, 3) := by decide +kernel
theorem dX5_set_29 : decode cX5_set 29 = .ok (.goto 16, 3) := by decide +kernel
theorem dX5_set_32 : decode cX5_set 32 = .ok (.iload_n 3, 1) := by decide +kernel
theorem dX5_set_33 : decode cX5_set 33 = .ok (.invokestatic 112, 3) := by decide +kernel
theorem dX5_set_36 : decode cX5_set 36 = .ok (.ifCond .ne 9, 3) := by decide +kernel
theorem dX5_set_39 : decode cX5_set 39 = .ok (.aload_n 0, 1) := by decide +kernel
theorem dX5_set_40 : decode cX5_set 40 = .ok (.iconst 0, 1) := by decide +kernel
theorem dX5_set_41 : decode cX5_set 41 = .ok (.invokevirtual 118, 3) := by decide +kernel
theorem dX5_set_44 : decode cX5_set 44 = .ok (.ireturn, 1) := by decide +kernel
theorem dX5_set_45 : decode cX5_set 45 = .ok (.aload_n 0, 1) := by decide +kernel
theorem dX5_set_46 : decode cX5_set 46 = .ok (.iload_n 1, 1) := by decide +kernel
theorem dX5_set_47 : decode cX5_set 47 = .ok (.iload_n 2, 1) := by decide +kernel
theorem dX5_set_48 : decode cX5_set 48 = .ok (.invokevirtual 92, 3) := by decide +kernel
theorem dX5_set_51 : decode cX5_set 51 = .ok (.istore 4, 2) := by decide +kernel
theorem dX5_set_53 : decode cX5_set 53 = .ok (.aload_n 0, 1) := by decide +kernel
theorem dX5_set_54 : decode cX5_set 54 = .ok (.iload_n 1, 1) := by decide +kernel
theorem dX5_set_55 : decode cX5_set 55 = .ok (.iload_n 2, 1) := by decide +kernel
theorem dX5_set_56 : decode cX5_set 56 = .ok (.iload_n 3, 1) := by decide +kernel
theorem dX5_set_57 : decode cX5_set 57 = .ok (.invokevirtual 105, 3) := by decide +kernel
theorem dX5_set_60 : decode cX5_set 60 = .ok (.iload 4, 2) := by decide +kernel
theorem dX5_set_62 : decode cX5_set 62 = .ok (.ireturn, 1) := by decide +kernel
theorem dX5_turn_0 : decode cX5_turn 0 = .ok (.aload_n 0, 1) := by decide +kernel
theorem dX5_turn_1 : decode cX5_turn 1 = .ok (.iload_n 1, 1) := by decide +kernel
theorem dX5_turn_2 : decode cX5_turn 2 = .ok (.invokevirtual 140, 3) := by decide +kernel
theorem dX5_turn_5 : decode cX5_turn 5 = .ok (.ifCond .eq 12, 3) := by decide +kernel
theorem dX5_turn_8 : decode cX5_turn 8 = .ok (.iload_n 2, 1) := by decide +kernel
theorem dX5_turn_9 : decode cX5_turn 9 = .ok (.iconst 0, 1) := by decide +kernel
theorem dX5_turn_10 : decode cX5_turn 10 = .ok (.iconst 5, 1) := by decide +kernel
theorem dX5_turn_11 : decode cX5_turn 11 = .ok (.invokestatic 52, 3) := by decide +kernel
theorem dX5_turn_14 : decode cX5_turn 14 = .ok (.ifCond .ne 9, 3) := by decide +kernel
theorem dX5_turn_17 : decode cX5_turn 17 = .ok (.aload_n 0, 1) := by decide +kernel
theorem dX5_turn_18 : decode cX5_turn 18 = .ok (.iconst 0, 1) := by decide +kernel
theorem dX5_turn_19 : decode cX5_turn 19 = .ok (.invokevirtual 118, 3) := by decide +kernel
theorem dX5_turn_22 : decode cX5_turn 22 = .ok (.ireturn, 1) := by decide +kernel
theorem dX5_turn_23 : decode cX5_turn 23 = .ok (.aload_n 0, 1) := by decide +kernel
theorem dX5_turn_24 : decode cX5_turn 24 = .ok (.iload_n 1, 1) := by decide +kernel
theorem dX5_turn_25 : decode cX5_turn 25 = .ok (.iconst 0, 1) := by decide +kernel
theorem dX5_turn_26 : decode cX5_turn 26 = .ok (.invokevirtual 92, 3) := by decide +kernel
theorem dX5_turn_29 : decode cX5_turn 29 = .ok (.istore_n 3, 1) := by decide +kernel
theorem dX5_turn_30 : decode cX5_turn 30 = .ok (.aload_n 0, 1) := by decide +kernel
theorem dX5_turn_31 : decode cX5_turn 31 = .ok (.iload_n 1, 1) := by decide +kernel
theorem dX5_turn_32 : decode cX5_turn 32 = .ok (.iconst 0, 1) := by decide +kernel
theorem dX5_turn_33 : decode cX5_turn 33 = .ok (.iload_n 2, 1) := by decide +kernel
theorem dX5_turn_34 : decode cX5_turn 34 = .ok (.invokevirtual 105, 3) := by decide +kernel
theorem dX5_turn_37 : decode cX5_turn 37 = .ok (.iload_n 3, 1) := by decide +kernel
theorem dX5_turn_38 : decode cX5_turn 38 = .ok (.ireturn, 1) := by decide +kernel
theorem dX5_as_0 : decode cX5_as 0 = .ok (.aload_n 0, 1) := by decide +kernel
theorem dX5_as_1 : decode cX5_as 1 = .ok (.iload_n 1, 1) := by decide +kernel
theorem dX5_as_2 : decode cX5_as 2 = .ok (.invokevirtual 140, 3) := by decide +kernel
theorem dX5_as_5 : decode cX5_as 5 = .ok (.ifCond .eq 12, 3) := by decide +kernel
theorem dX5_as_8 : decode cX5_as 8 = .ok (.iload_n 2, 1) := by decide +kernel
theorem dX5_as_9 : decode cX5_as 9 = .ok (.iconst 0, 1) := by decide +kernel
theorem dX5_as_10 : decode cX5_as 10 = .ok (.iconst 5, 1) := by decide +kernel
theorem dX5_as_11 : decode cX5_as 11 = .ok (.invokestatic 52, 3) := by decide +kernel
theorem dX5_as_14 : decode cX5_as 14 = .ok (.ifCond .ne 9, 3) := by decide +kernel
theorem dX5_as_17 : decode cX5_as 17 = .ok (.aload_n 0, 1) := by decide +kernel
theorem dX5_as_18 : decode cX5_as 18 = .ok (.iconst 0, 1) := by decide +kernel
theorem dX5_as_19 : decode cX5_as 19 = .ok (.invokevirtual 118, 3) := by decide +kernel
theorem dX5_as_22 : decode cX5_as 22 = .ok (.ireturn, 1) := by decide +kernel
theorem dX5_as_23 : decode cX5_as 23 = .ok (.aload_n 0, 1) := by decide +kernel
theorem dX5_as_24 : decode cX5_as 24 = .ok (.iload_n 1, 1) := by decide +kernel
theorem dX5_as_25 : decode cX5_as 25 = .ok (.iconst 0, 1) := by decide +kernel
theorem dX5_as_26 : decode cX5_as 26 = .ok (.invokevirtual 92, 3) := by decide +kernel
theorem dX5_as_29 : decode cX5_as 29 = .ok (.istore_n 3, 1) := by decide +kernel
theorem dX5_as_30 : decode cX5_as 30 = .ok (.iload_n 3, 1) := by decide +kernel
theorem dX5_as_31 : decode cX5_as 31 = .ok (.iload_n 2, 1) := by decide +kernel
theorem dX5_as_32 : decode cX5_as 32 = .ok (.if_icmp .eq 30, 3) := by decide +kernel
theorem dX5_as_35 : decode cX5_as 35 = .ok (.iload_n 3, 1) := by decide +kernel
theorem dX5_as_36 : decode cX5_as 36 = .ok (.ifCond .eq 26, 3) := by decide +kernel
theorem dX5_as_39 : decode cX5_as 39 = .ok (.iload_n 3, 1) := by decide +kernel
theorem dX5_as_40 : decode cX5_as 40 = .ok (.iconst 4, 1) := by decide +kernel
theorem dX5_as_41 : decode cX5_as 41 = .ok (.if_icmp .ne 7, 3) := by decide +kernel
theorem dX5_as_44 : decode cX5_as 44 = .ok (.iconst 1, 1) := by decide +kernel
theorem dX5_as_45 : decode cX5_as 45 = .ok (.goto 13, 3) := by decide +kernel
theorem dX5_as_48 : decode cX5_as 48 = .ok (.iload_n 3, 1) := by decide +kernel
theorem dX5_as_49 : decode cX5_as 49 = .ok (.iconst 5, 1) := by decide +kernel
theorem dX5_as_50 : decode cX5_as 50 = .ok (.if_icmp .ne 7, 3) := by decide +kernel
theorem dX5_as_53 : decode cX5_as 53 = .ok (.iconst 3, 1) := by decide +kernel
theorem dX5_as_54 : decode cX5_as 54 = .ok (.goto 4, 3) := by decide +kernel
theorem dX5_as_57 : decode cX5_as 57 = .ok (.iconst 0, 1) := by decide +kernel
theorem dX5_as_58 : decode cX5_as 58 = .ok (.istore_n 3, 1) := by decide +kernel
theorem dX5_as_59 : decode cX5_as 59 = .ok (.goto (-29), 3) := by decide +kernel
theorem dX5_as_62 : decode cX5_as 62 = .ok (.iload_n 3, 1) := by decide +kernel
theorem dX5_as_63 : decode cX5_as 63 = .ok (.iload_n 2, 1) := by decide +kernel
theorem dX5_as_64 : decode cX5_as 64 = .ok (.if_icmp .ne 12, 3) := by decide +kernel
theorem dX5_as_67 : decode cX5_as 67 = .ok (.aload_n 0, 1) := by decide +kernel
theorem dX5_as_68 : decode cX5_as 68 = .ok (.iload_n 1, 1) := by decide +kernel
theorem dX5_as_69 : decode cX5_as 69 = .ok (.iconst 1, 1) := by decide +kernel
theorem dX5_as_70 : decode cX5_as 70 = .ok (.invokevirtual 92, 3) := by decide +kernel
theorem dX5_as_73 : decode cX5_as 73 = .ok (.goto 8, 3) := by decide +kernel
theorem dX5_as_76 : decode cX5_as 76 = .ok (.aload_n 0, 1) := by decide +kernel
theorem dX5_as_77 : decode cX5_as 77 = .ok (.iconst 2, 1) := by decide +kernel
theorem dX5_as_78 : decode cX5_as 78 = .ok (.invokevirtual 118, 3) := by decide +kernel
theorem dX5_as_81 : decode cX5_as 81 = .ok (.ireturn, 1) := by decide +kernel
theorem dX5_slows_0 : decode cX5_slows 0 = .ok (.aload_n 0, 1) := by decide +kernel
theorem dX5_slows_1 : decode cX5_slows 1 = .ok (.iload_n 1, 1) := by decide +kernel
theorem dX5_slows_2 : decode cX5_slows 2 = .ok (.invokevirtual 140, 3) := by decide +kernel
theorem dX5_slows_5 : decode cX5_slows 5 = .ok (.ifCond .eq 27, 3) := by decide +kernel
theorem dX5_slows_8 : decode cX5_slows 8 = .ok (.iload_n 2, 1) := by decide +kernel
theorem dX5_slows_9 : decode cX5_slows 9 = .ok (.iconst 1, 1) := by decide +kernel
theorem dX5_slows_10 : decode cX5_slows 10 = .ok (.iconst 4, 1) := by decide +kernel
theorem dX5_slows_11 : decode cX5_slows 11 = .ok (.invokestatic 52, 3) := by decide +kernel
theorem dX5_slows_14 : decode cX5_slows 14 = .ok (.ifCond .eq 18, 3) := by decide +kernel
theorem dX5_slows_17 : decode cX5_slows 17 = .ok (.iload_n 3, 1) := by decide +kernel
theorem dX5_slows_18 : decode cX5_slows 18 = .ok (.iconst 0, 1) := by decide +kernel
theorem dX5_slows_19 : decode cX5_slows 19 = .ok (.sipush 999, 3) := by decide +kernel
theorem dX5_slows_22 : decode cX5_slows 22 = .ok (.invokestatic 52, 3) := by decide +kernel
theorem dX5_slows_25 : decode cX5_slows 25 = .ok (.ifCond .eq 7, 3) := by decide +kernel
theorem dX5_slows_28 : decode cX5_slows 28 = .ok (.iconst 1, 1) := by decide +kernel
theorem dX5_slows_29 : decode cX5_slows 29 = .ok (.goto 4, 3) := by decide +kernel
theorem dX5_slows_32 : decode cX5_slows 32 = .ok (.iconst 0, 1) := by decide +kernel
theorem dX5_slows_33 : decode cX5_slows 33 = .ok (.istore 4, 2) := by decide +kernel
theorem dX5_slows_35 : decode cX5_slows 35 = .ok (.iload 4, 2) := by decide +kernel
theorem dX5_slows_37 : decode cX5_slows 37 = .ok (.ifCond .eq 29, 3) := by decide +kernel
theorem dX5_slows_40 : decode cX5_slows 40 = .ok (.aload_n 0, 1) := by decide +kernel
theorem dX5_slows_41 : decode cX5_slows 41 = .ok (.iload_n 1, 1) := by decide +kernel
theorem dX5_slows_42 : decode cX5_slows 42 = .ok (.iconst 0, 1) := by decide +kernel
theorem dX5_slows_43 : decode cX5_slows 43 = .ok (.invokevirtual 92, 3) := by decide +kernel
theorem dX5_slows_46 : decode cX5_slows 46 = .ok (.iload_n 2, 1) := by decide +kernel
theorem dX5_slows_47 : decode cX5_slows 47 = .ok (.aload_n 0, 1) := by decide +kernel
theorem dX5_slows_48 : decode cX5_slows 48 = .ok (.iload_n 1, 1) := by decide +kernel
theorem dX5_slows_49 : decode cX5_slows 49 = .ok (.iconst 1, 1) := by decide +kernel
theorem dX5_slows_50 : decode cX5_slows 50 = .ok (.invokevirtual 92, 3) := by decide +kernel
theorem dX5_slows_53 : decode cX5_slows 53 = .ok (.aload_n 0, 1) := by decide +kernel
theorem dX5_slows_54 : decode cX5_slows 54 = .ok (.getfield 9, 3) := by decide +kernel
theorem dX5_slows_57 : decode cX5_slows 57 = .ok (.iconst 1, 1) := by decide +kernel
theorem dX5_slows_58 : decode cX5_slows 58 = .ok (.iaload, 1) := by decide +kernel
theorem dX5_slows_59 : decode cX5_slows 59 = .ok (.iload_n 3, 1) := by decide +kernel
theorem dX5_slows_60 : decode cX5_slows 60 = .ok (.invokestatic 86, 3) := by decide +kernel
theorem dX5_slows_63 : decode cX5_slows 63 = .ok (.goto 8, 3) := by decide +kernel
theorem dX5_slows_66 : decode cX5_slows 66 = .ok (.aload_n 0, 1) := by decide +kernel
theorem dX5_slows_67 : decode cX5_slows 67 = .ok (.iconst 0, 1) := by decide +kernel
theorem dX5_slows_68 : decode cX5_slows 68 = .ok (.invokevirtual 118, 3) := by decide +kernel
theorem dX5_slows_71 : decode cX5_slows 71 = .ok (.ireturn, 1) := by decide +kernel
theorem dX5_areBoth_0 : decode cX5_areBoth 0 = .ok (.aload_n 0, 1) := by decide +kernel
theorem dX5_areBoth_1 : decode cX5_areBoth 1 = .ok (.iload_n 1, 1) := by decide +kernel
theorem dX5_areBoth_2 : decode cX5_areBoth 2 = .ok (.invokevirtual 140, 3) := by decide +kernel
theorem dX5_areBoth_5 : decode cX5_areBoth 5 = .ok (.ifCond .eq 14, 3) := by decide +kernel
theorem dX5_areBoth_8 : decode cX5_areBoth 8 = .ok (.iload_n 2, 1) := by decide +kernel
theorem dX5_areBoth_9 : decode cX5_areBoth 9 = .ok (.invokestatic 112, 3) := by decide +kernel
theorem dX5_areBoth_12 : decode cX5_areBoth 12 = .ok (.ifCond .eq 7, 3) := by decide +kernel
theorem dX5_areBoth_15 : decode cX5_areBoth 15 = .ok (.iconst 1, 1) := by decide +kernel
theorem dX5_areBoth_16 : decode cX5_areBoth 16 = .ok (.goto 4, 3) := by decide +kernel
theorem dX5_areBoth_19 : decode cX5_areBoth 19 = .ok (.iconst 0, 1) := by decide +kernel
theorem dX5_areBoth_20 : decode cX5_areBoth 20 = .ok (.ireturn, 1) := by decide +kernel
theorem dX5_quick_0 : decode cX5_quick 0 = .ok (.aload_n 0, 1) := by decide +kernel
theorem dX5_quick_1 : decode cX5_quick 1 = .ok (.iload_n 1, 1) := by decide +kernel
theorem dX5_quick_2 : decode cX5_quick 2 = .ok (.iload_n 2, 1) := by decide +kernel
theorem dX5_quick_3 : decode cX5_quick 3 = .ok (.invokevirtual 146, 3) := by decide +kernel
theorem dX5_quick_6 : decode cX5_quick 6 = .ok (.ifCond .eq 10, 3) := by decide +kernel
theorem dX5_quick_9 : decode cX5_quick 9 = .ok (.iload_n 3, 1) := by decide +kernel
theorem dX5_quick_10 : decode cX5_quick 10 = .ok (.invokestatic 115, 3) := by decide +kernel
theorem dX5_quick_13 : decode cX5_quick 13 = .ok (.ifCond .ne 9, 3) := by decide +kernel
theorem dX5_quick_16 : decode cX5_quick 16 = .ok (.aload_n 0, 1) := by decide +kernel
theorem dX5_quick_17 : decode cX5_quick 17 = .ok (.iconst 0, 1) := by decide +kernel
theorem dX5_quick_18 : decode cX5_quick 18 = .ok (.invokevirtual 118, 3) := by decide +kernel
theorem dX5_quick_21 : decode cX5_quick 21 = .ok (.ireturn, 1) := by decide +kernel
theorem dX5_quick_22 : decode cX5_quick 22 = .ok (.aload_n 0, 1) := by decide +kernel
theorem dX5_quick_23 : decode cX5_quick 23 = .ok (.aload_n 0, 1) := by decide +kernel
theorem dX5_quick_24 : decode cX5_quick 24 = .ok (.iload_n 1, 1) := by decide +kernel
theorem dX5_quick_25 : decode cX5_quick 25 = .ok (.iconst 0, 1) := by decide +kernel
theorem dX5_quick_26 : decode cX5_quick 26 = .ok (.invokevirtual 92, 3) := by decide +kernel
theorem dX5_quick_29 : decode cX5_quick 29 = .ok (.aload_n 0, 1) := by decide +kernel
theorem dX5_quick_30 : decode cX5_quick 30 = .ok (.iload_n 1, 1) := by decide +kernel
theorem dX5_quick_31 : decode cX5_quick 31 = .ok (.iconst 1, 1) := by decide +kernel
theorem dX5_quick_32 : decode cX5_quick 32 = .ok (.invokevirtual 92, 3) := by decide +kernel
theorem dX5_quick_35 : decode cX5_quick 35 = .ok (.iload_n 2, 1) := by decide +kernel
theorem dX5_quick_36 : decode cX5_quick 36 = .ok (.invokevirtual 95, 3) := by decide +kernel
theorem dX5_quick_39 : decode cX5_quick 39 = .ok (.aload_n 0, 1) := by decide +kernel
theorem dX5_quick_40 : decode cX5_quick 40 = .ok (.getfield 22, 3) := by decide +kernel
theorem dX5_quick_43 : decode cX5_quick 43 = .ok (.iload_n 3, 1) := by decide +kernel
theorem dX5_quick_44 : decode cX5_quick 44 = .ok (.iaload, 1) := by decide +kernel
theorem dX5_quick_45 : decode cX5_quick 45 = .ok (.ireturn, 1) := by decide +kernel
theorem dX5_takes_0 : decode cX5_takes 0 = .ok (.aload_n 0, 1) := by decide +kernel
theorem dX5_takes_1 : decode cX5_takes 1 = .ok (.iload_n 1, 1) := by decide +kernel
theorem dX5_takes_2 : decode cX5_takes 2 = .ok (.iload_n 2, 1) := by decide +kernel
theorem dX5_takes_3 : decode cX5_takes 3 = .ok (.invokevirtual 146, 3) := by decide +kernel
theorem dX5_takes_6 : decode cX5_takes 6 = .ok (.ifCond .eq 12, 3) := by decide +kernel
theorem dX5_takes_9 : decode cX5_takes 9 = .ok (.aload_n 0, 1) := by decide +kernel
theorem dX5_takes_10 : decode cX5_takes 10 = .ok (.iload_n 1, 1) := by decide +kernel
theorem dX5_takes_11 : decode cX5_takes 11 = .ok (.iload_n 2, 1) := by decide +kernel
theorem dX5_takes_12 : decode cX5_takes 12 = .ok (.invokevirtual 102, 3) := by decide +kernel
theorem dX5_takes_15 : decode cX5_takes 15 = .ok (.goto 8, 3) := by decide +kernel
theorem dX5_takes_18 : decode cX5_takes 18 = .ok (.aload_n 0, 1) := by decide +kernel
theorem dX5_takes_19 : decode cX5_takes 19 = .ok (.iconst 0, 1) := by decide +kernel
theorem dX5_takes_20 : decode cX5_takes 20 = .ok (.invokevirtual 118, 3) := by decide +kernel
theorem dX5_takes_23 : decode cX5_takes 23 = .ok (.ireturn, 1) := by decide +kernel
theorem dX5_shaken_0 : decode cX5_shaken 0 = .ok (.aload_n 0, 1) := by decide +kernel
theorem dX5_shaken_1 : decode cX5_shaken 1 = .ok (.iload_n 1, 1) := by decide +kernel
theorem dX5_shaken_2 : decode cX5_shaken 2 = .ok (.iload_n 2, 1) := by decide +kernel
theorem dX5_shaken_3 : decode cX5_shaken 3 = .ok (.invokevirtual 146, 3) := by decide +kernel
theorem dX5_shaken_6 : decode cX5_shaken 6 = .ok (.ifCond .eq 12, 3) := by decide +kernel
theorem dX5_shaken_9 : decode cX5_shaken 9 = .ok (.aload_n 0, 1) := by decide +kernel
theorem dX5_shaken_10 : decode cX5_shaken 10 = .ok (.iload_n 1, 1) := by decide +kernel
theorem dX5_shaken_11 : decode cX5_shaken 11 = .ok (.iload_n 2, 1) := by decide +kernel
theorem dX5_shaken_12 : decode cX5_shaken 12 = .ok (.invokevirtual 99, 3) := by decide +kernel
theorem dX5_shaken_15 : decode cX5_shaken 15 = .ok (.goto 8, 3) := by decide +kernel
theorem dX5_shaken_18 : decode cX5_shaken 18 = .ok (.aload_n 0, 1) := by decide +kernel
theorem dX5_shaken_19 : decode cX5_shaken 19 = .ok (.iconst 0, 1) := by decide +kernel
theorem dX5_shaken_20 : decode cX5_shaken 20 = .ok (.invokevirtual 118, 3) := by decide +kernel
theorem dX5_shaken_23 : decode cX5_shaken 23 = .ok (.ireturn, 1) := by decide +kernel
theorem dX5_days_0 : decode cX5_days 0 = .ok (.iload_n 1, 1) := by decide +kernel
theorem dX5_days_1 : decode cX5_days 1 = .ok (.iconst 1, 1) := by decide +kernel
theorem dX5_days_2 : decode cX5_days 2 = .ok (.bipush 100, 2) := by decide +kernel
theorem dX5_days_4 : decode cX5_days 4 = .ok (.invokestatic 52, 3) := by decide +kernel
theorem dX5_days_7 : decode cX5_days 7 = .ok (.ifCond .ne 9, 3) := by decide +kernel
theorem dX5_days_10 : decode cX5_days 10 = .ok (.aload_n 0, 1) := by decide +kernel
theorem dX5_days_11 : decode cX5_days 11 = .ok (.iconst 0, 1) := by decide +kernel
theorem dX5_days_12 : decode cX5_days 12 = .ok (.invokevirtual 118, 3) := by decide +kernel
theorem dX5_days_15 : decode cX5_days 15 = .ok (.ireturn, 1) := by decide +kernel
theorem dX5_days_16 : decode cX5_days 16 = .ok (.aload_n 0, 1) := by decide +kernel
theorem dX5_days_17 : decode cX5_days 17 = .ok (.getfield 9, 3) := by decide +kernel
theorem dX5_days_20 : decode cX5_days 20 = .ok (.iconst 0, 1) := by decide +kernel
theorem dX5_days_21 : decode cX5_days 21 = .ok (.iaload, 1) := by decide +kernel
theorem dX5_days_22 : decode cX5_days 22 = .ok (.iload_n 1, 1) := by decide +kernel
theorem dX5_days_23 : decode cX5_days 23 = .ok (.iadd, 1) := by decide +kernel
theorem dX5_days_24 : decode cX5_days 24 = .ok (.sipush 9999, 3) := by decide +kernel
theorem dX5_days_27 : decode cX5_days 27 = .ok (.if_icmp .le 9, 3) := by decide +kernel
theorem dX5_days_30 : decode cX5_days 30 = .ok (.aload_n 0, 1) := by decide +kernel
theorem dX5_days_31 : decode cX5_days 31 = .ok (.iconst 4, 1) := by decide +kernel
theorem dX5_days_32 : decode cX5_days 32 = .ok (.invokevirtual 118, 3) := by decide +kernel
theorem dX5_days_35 : decode cX5_days 35 = .ok (.ireturn, 1) := by decide +kernel
theorem dX5_days_36 : decode cX5_days 36 = .ok (.aload_n 0, 1) := by decide +kernel
theorem dX5_days_37 : decode cX5_days 37 = .ok (.iload_n 1, 1) := by decide +kernel
theorem dX5_days_38 : decode cX5_days 38 = .ok (.invokevirtual 150, 3) := by decide +kernel
theorem dX5_days_41 : decode cX5_days 41 = .ok (.aload_n 0, 1) := by decide +kernel
theorem dX5_days_42 : decode cX5_days 42 = .ok (.invokevirtual 130, 3) := by decide +kernel
theorem dX5_days_45 : decode cX5_days 45 = .ok (.ireturn, 1) := by decide +kernel
theorem dX5_on_0 : decode cX5_on 0 = .ok (.aload_n 0, 1) := by decide +kernel
theorem dX5_on_1 : decode cX5_on 1 = .ok (.iload_n 1, 1) := by decide +kernel
theorem dX5_on_2 : decode cX5_on 2 = .ok (.invokevirtual 140, 3) := by decide +kernel
theorem dX5_on_5 : decode cX5_on 5 = .ok (.ifCond .eq 13, 3) := by decide +kernel
theorem dX5_on_8 : decode cX5_on 8 = .ok (.iload_n 2, 1) := by decide +kernel
theorem dX5_on_9 : decode cX5_on 9 = .ok (.iconst 0, 1) := by decide +kernel
theorem dX5_on_10 : decode cX5_on 10 = .ok (.bipush 100, 2) := by decide +kernel
theorem dX5_on_12 : decode cX5_on 12 = .ok (.invokestatic 52, 3) := by decide +kernel
theorem dX5_on_15 : decode cX5_on 15 = .ok (.ifCond .ne 9, 3) := by decide +kernel
theorem dX5_on_18 : decode cX5_on 18 = .ok (.aload_n 0, 1) := by decide +kernel
theorem dX5_on_19 : decode cX5_on 19 = .ok (.iconst 0, 1) := by decide +kernel
theorem dX5_on_20 : decode cX5_on 20 = .ok (.invokevirtual 118, 3) := by decide +kernel
theorem dX5_on_23 : decode cX5_on 23 = .ok (.ireturn, 1) := by decide +kernel
theorem dX5_on_24 : decode cX5_on 24 = .ok (.aload_n 0, 1) := by decide +kernel
theorem dX5_on_25 : decode cX5_on 25 = .ok (.invokevirtual 153, 3) := by decide +kernel
theorem dX5_on_28 : decode cX5_on 28 = .ok (.aload_n 0, 1) := by decide +kernel
theorem dX5_on_29 : decode cX5_on 29 = .ok (.iload_n 2, 1) := by decide +kernel
theorem dX5_on_30 : decode cX5_on 30 = .ok (.invokevirtual 150, 3) := by decide +kernel
theorem dX5_on_33 : decode cX5_on 33 = .ok (.aload_n 0, 1) := by decide +kernel
theorem dX5_on_34 : decode cX5_on 34 = .ok (.iload_n 1, 1) := by decide +kernel
theorem dX5_on_35 : decode cX5_on 35 = .ok (.iconst 2, 1) := by decide +kernel
theorem dX5_on_36 : decode cX5_on 36 = .ok (.invokevirtual 92, 3) := by decide +kernel
theorem dX5_on_39 : decode cX5_on 39 = .ok (.istore_n 3, 1) := by decide +kernel
theorem dX5_on_40 : decode cX5_on 40 = .ok (.aload_n 0, 1) := by decide +kernel
theorem dX5_on_41 : decode cX5_on 41 = .ok (.invokevirtual 156, 3) := by decide +kernel
theorem dX5_on_44 : decode cX5_on 44 = .ok (.iload_n 3, 1) := by decide +kernel
theorem dX5_on_45 : decode cX5_on 45 = .ok (.ireturn, 1) := by decide +kernel
theorem dX5_onBy_0 : decode cX5_onBy 0 = .ok (.aload_n 0, 1) := by decide +kernel
theorem dX5_onBy_1 : decode cX5_onBy 1 = .ok (.iload_n 1, 1) := by decide +kernel
theorem dX5_onBy_2 : decode cX5_onBy 2 = .ok (.invokevirtual 150, 3) := by decide +kernel
theorem dX5_onBy_5 : decode cX5_onBy 5 = .ok (.iload_n 2, 1) := by decide +kernel
theorem dX5_onBy_6 : decode cX5_onBy 6 = .ok (.ifCond .ne 10, 3) := by decide +kernel
theorem dX5_onBy_9 : decode cX5_onBy 9 = .ok (.aload_n 0, 1) := by decide +kernel
theorem dX5_onBy_10 : decode cX5_onBy 10 = .ok (.invokevirtual 130, 3) := by decide +kernel
theorem dX5_onBy_13 : decode cX5_onBy 13 = .ok (.goto 7, 3) := by decide +kernel
theorem dX5_onBy_16 : decode cX5_onBy 16 = .ok (.aload_n 0, 1) := by decide +kernel
theorem dX5_onBy_17 : decode cX5_onBy 17 = .ok (.invokevirtual 134, 3) := by decide +kernel
theorem dX5_onBy_20 : decode cX5_onBy 20 = .ok (.istore_n 3, 1) := by decide +kernel
theorem dX5_onBy_21 : decode cX5_onBy 21 = .ok (.aload_n 0, 1) := by decide +kernel
theorem dX5_onBy_22 : decode cX5_onBy 22 = .ok (.invokevirtual 156, 3) := by decide +kernel
theorem dX5_onBy_25 : decode cX5_onBy 25 = .ok (.iload_n 3, 1) := by decide +kernel
theorem dX5_onBy_26 : decode cX5_onBy 26 = .ok (.ireturn, 1) := by decide +kernel
theorem dX5_then_0 : decode cX5_then 0 = .ok (.iload_n 1, 1) := by decide +kernel
theorem dX5_then_1 : decode cX5_then 1 = .ok (.iconst 0, 1) := by decide +kernel
theorem dX5_then_2 : decode cX5_then 2 = .ok (.bipush 100, 2) := by decide +kernel
theorem dX5_then_4 : decode cX5_then 4 = .ok (.invokestatic 52, 3) := by decide +kernel
theorem dX5_then_7 : decode cX5_then 7 = .ok (.ifCond .eq 12, 3) := by decide +kernel
theorem dX5_then_10 : decode cX5_then 10 = .ok (.iload_n 2, 1) := by decide +kernel
theorem dX5_then_11 : decode cX5_then 11 = .ok (.iconst 0, 1) := by decide +kernel
theorem dX5_then_12 : decode cX5_then 12 = .ok (.iconst 1, 1) := by decide +kernel
theorem dX5_then_13 : decode cX5_then 13 = .ok (.invokestatic 52, 3) := by decide +kernel
theorem dX5_then_16 : decode cX5_then 16 = .ok (.ifCond .ne 9, 3) := by decide +kernel
theorem dX5_then_19 : decode cX5_then 19 = .ok (.aload_n 0, 1) := by decide +kernel
theorem dX5_then_20 : decode cX5_then 20 = .ok (.iconst 0, 1) := by decide +kernel
theorem dX5_then_21 : decode cX5_then 21 = .ok (.invokevirtual 118, 3) := by decide +kernel
theorem dX5_then_24 : decode cX5_then 24 = .ok (.ireturn, 1) := by decide +kernel
theorem dX5_then_25 : decode cX5_then 25 = .ok (.aload_n 0, 1) := by decide +kernel
theorem dX5_then_26 : decode cX5_then 26 = .ok (.invokevirtual 153, 3) := by decide +kernel
theorem dX5_then_29 : decode cX5_then 29 = .ok (.aload_n 0, 1) := by decide +kernel
theorem dX5_then_30 : decode cX5_then 30 = .ok (.iload_n 1, 1) := by decide +kernel
theorem dX5_then_31 : decode cX5_then 31 = .ok (.iload_n 2, 1) := by decide +kernel
theorem dX5_then_32 : decode cX5_then 32 = .ok (.invokevirtual 159, 3) := by decide +kernel
theorem dX5_then_35 : decode cX5_then 35 = .ok (.ireturn, 1) := by decide +kernel
theorem dX5_leaves_0 : decode cX5_leaves 0 = .ok (.aload_n 0, 1) := by decide +kernel
theorem dX5_leaves_1 : decode cX5_leaves 1 = .ok (.iload_n 1, 1) := by decide +kernel
theorem dX5_leaves_2 : decode cX5_leaves 2 = .ok (.invokevirtual 140, 3) := by decide +kernel
theorem dX5_leaves_5 : decode cX5_leaves 5 = .ok (.ifCond .ne 9, 3) := by decide +kernel
theorem dX5_leaves_8 : decode cX5_leaves 8 = .ok (.aload_n 0, 1) := by decide +kernel
theorem dX5_leaves_9 : decode cX5_leaves 9 = .ok (.iconst 0, 1) := by decide +kernel
theorem dX5_leaves_10 : decode cX5_leaves 10 = .ok (.invokevirtual 118, 3) := by decide +kernel
theorem dX5_leaves_13 : decode cX5_leaves 13 = .ok (.ireturn, 1) := by decide +kernel
theorem dX5_leaves_14 : decode cX5_leaves 14 = .ok (.aload_n 0, 1) := by decide +kernel
theorem dX5_leaves_15 : decode cX5_leaves 15 = .ok (.invokevirtual 153, 3) := by decide +kernel
theorem dX5_leaves_18 : decode cX5_leaves 18 = .ok (.aload_n 0, 1) := by decide +kernel
theorem dX5_leaves_19 : decode cX5_leaves 19 = .ok (.iload_n 1, 1) := by decide +kernel
theorem dX5_leaves_20 : decode cX5_leaves 20 = .ok (.iconst 2, 1) := by decide +kernel
theorem dX5_leaves_21 : decode cX5_leaves 21 = .ok (.invokevirtual 92, 3) := by decide +kernel
theorem dX5_leaves_24 : decode cX5_leaves 24 = .ok (.istore_n 2, 1) := by decide +kernel
theorem dX5_leaves_25 : decode cX5_leaves 25 = .ok (.iconst 0, 1) := by decide +kernel
theorem dX5_leaves_26 : decode cX5_leaves 26 = .ok (.istore_n 3, 1) := by decide +kernel
theorem dX5_leaves_27 : decode cX5_leaves 27 = .ok (.iload_n 3, 1) := by decide +kernel
theorem dX5_leaves_28 : decode cX5_leaves 28 = .ok (.bipush 100, 2) := by decide +kernel
theorem dX5_leaves_30 : decode cX5_leaves 30 = .ok (.if_icmp .gt 24, 3) := by decide +kernel
theorem dX5_leaves_33 : decode cX5_leaves 33 = .ok (.aload_n 0, 1) := by decide +kernel
theorem dX5_leaves_34 : decode cX5_leaves 34 = .ok (.iload_n 1, 1) := by decide +kernel
theorem dX5_leaves_35 : decode cX5_leaves 35 = .ok (.iconst 2, 1) := by decide +kernel
theorem dX5_leaves_36 : decode cX5_leaves 36 = .ok (.invokevirtual 92, 3) := by decide +kernel
theorem dX5_leaves_39 : decode cX5_leaves 39 = .ok (.iload_n 2, 1) := by decide +kernel
theorem dX5_leaves_40 : decode cX5_leaves 40 = .ok (.if_icmp .ne 14, 3) := by decide +kernel
theorem dX5_leaves_43 : decode cX5_leaves 43 = .ok (.aload_n 0, 1) := by decide +kernel
theorem dX5_leaves_44 : decode cX5_leaves 44 = .ok (.iconst 1, 1) := by decide +kernel
theorem dX5_leaves_45 : decode cX5_leaves 45 = .ok (.invokevirtual 150, 3) := by decide +kernel
theorem dX5_leaves_48 : decode cX5_leaves 48 = .ok (.iinc 3 1, 3) := by decide +kernel
theorem dX5_leaves_51 : decode cX5_leaves 51 = .ok (.goto (-24), 3) := by decide +kernel
theorem dX5_leaves_54 : decode cX5_leaves 54 = .ok (.aload_n 0, 1) := by decide +kernel
theorem dX5_leaves_55 : decode cX5_leaves 55 = .ok (.invokevirtual 156, 3) := by decide +kernel
theorem dX5_leaves_58 : decode cX5_leaves 58 = .ok (.iload_n 3, 1) := by decide +kernel
theorem dX5_leaves_59 : decode cX5_leaves 59 = .ok (.bipush 100, 2) := by decide +kernel
theorem dX5_leaves_61 : decode cX5_leaves 61 = .ok (.if_icmp .le 11, 3) := by decide +kernel
theorem dX5_leaves_64 : decode cX5_leaves 64 = .ok (.aload_n 0, 1) := by decide +kernel
theorem dX5_leaves_65 : decode cX5_leaves 65 = .ok (.iconst 3, 1) := by decide +kernel
theorem dX5_leaves_66 : decode cX5_leaves 66 = .ok (.invokevirtual 118, 3) := by decide +kernel
theorem dX5_leaves_69 : decode cX5_leaves 69 = .ok (.goto 4, 3) := by decide +kernel
theorem dX5_leaves_72 : decode cX5_leaves 72 = .ok (.iload_n 3, 1) := by decide +kernel
theorem dX5_leaves_73 : decode cX5_leaves 73 = .ok (.ireturn, 1) := by decide +kernel
theorem dX5_quickest_0 : decode cX5_quickest 0 = .ok (.iconst 0, 1) := by decide +kernel
theorem dX5_quickest_1 : decode cX5_quickest 1 = .ok (.istore_n 1, 1) := by decide +kernel
theorem dX5_quickest_2 : decode cX5_quickest 2 = .ok (.iconst 0, 1) := by decide +kernel
theorem dX5_quickest_3 : decode cX5_quickest 3 = .ok (.istore_n 2, 1) := by decide +kernel
theorem dX5_quickest_4 : decode cX5_quickest 4 = .ok (.iload_n 2, 1) := by decide +kernel
theorem dX5_quickest_5 : decode cX5_quickest 5 = .ok (.bipush 20, 2) := by decide +kernel
theorem dX5_quickest_7 : decode cX5_quickest 7 = .ok (.if_icmp .ge 30, 3) := by decide +kernel
theorem dX5_quickest_10 : decode cX5_quickest 10 = .ok (.aload_n 0, 1) := by decide +kernel
theorem dX5_quickest_11 : decode cX5_quickest 11 = .ok (.getfield 22, 3) := by decide +kernel
theorem dX5_quickest_14 : decode cX5_quickest 14 = .ok (.iload_n 2, 1) := by decide +kernel
theorem dX5_quickest_15 : decode cX5_quickest 15 = .ok (.iaload, 1) := by decide +kernel
theorem dX5_quickest_16 : decode cX5_quickest 16 = .ok (.iload_n 1, 1) := by decide +kernel
theorem dX5_quickest_17 : decode cX5_quickest 17 = .ok (.if_icmp .le 12, 3) := by decide +kernel
theorem dX5_quickest_20 : decode cX5_quickest 20 = .ok (.aload_n 0, 1) := by decide +kernel
theorem dX5_quickest_21 : decode cX5_quickest 21 = .ok (.getfield 22, 3) := by decide +kernel
theorem dX5_quickest_24 : decode cX5_quickest 24 = .ok (.iload_n 2, 1) := by decide +kernel
theorem dX5_quickest_25 : decode cX5_quickest 25 = .ok (.iaload, 1) := by decide +kernel
theorem dX5_quickest_26 : decode cX5_quickest 26 = .ok (.goto 4, 3) := by decide +kernel
theorem dX5_quickest_29 : decode cX5_quickest 29 = .ok (.iload_n 1, 1) := by decide +kernel
theorem dX5_quickest_30 : decode cX5_quickest 30 = .ok (.istore_n 1, 1) := by decide +kernel
theorem dX5_quickest_31 : decode cX5_quickest 31 = .ok (.iinc 2 1, 3) := by decide +kernel
theorem dX5_quickest_34 : decode cX5_quickest 34 = .ok (.goto (-30), 3) := by decide +kernel
theorem dX5_quickest_37 : decode cX5_quickest 37 = .ok (.iload_n 1, 1) := by decide +kernel
theorem dX5_quickest_38 : decode cX5_quickest 38 = .ok (.ireturn, 1) := by decide +kernel
theorem dX5_tame_0 : decode cX5_tame 0 = .ok (.aload_n 0, 1) := by decide +kernel
theorem dX5_tame_1 : decode cX5_tame 1 = .ok (.iload_n 1, 1) := by decide +kernel
theorem dX5_tame_2 : decode cX5_tame 2 = .ok (.iload_n 2, 1) := by decide +kernel
theorem dX5_tame_3 : decode cX5_tame 3 = .ok (.invokevirtual 146, 3) := by decide +kernel
theorem dX5_tame_6 : decode cX5_tame 6 = .ok (.ifCond .ne 9, 3) := by decide +kernel
theorem dX5_tame_9 : decode cX5_tame 9 = .ok (.aload_n 0, 1) := by decide +kernel
theorem dX5_tame_10 : decode cX5_tame 10 = .ok (.iconst 0, 1) := by decide +kernel
theorem dX5_tame_11 : decode cX5_tame 11 = .ok (.invokevirtual 118, 3) := by decide +kernel
theorem dX5_tame_14 : decode cX5_tame 14 = .ok (.ireturn, 1) := by decide +kernel
theorem dX5_tame_15 : decode cX5_tame 15 = .ok (.iconst (-1), 1) := by decide +kernel
theorem dX5_tame_16 : decode cX5_tame 16 = .ok (.istore_n 3, 1) := by decide +kernel
theorem dX5_tame_17 : decode cX5_tame 17 = .ok (.sipush 999, 3) := by decide +kernel
theorem dX5_tame_20 : decode cX5_tame 20 = .ok (.istore 4, 2) := by decide +kernel
theorem dX5_tame_22 : decode cX5_tame 22 = .ok (.iconst 0, 1) := by decide +kernel
theorem dX5_tame_23 : decode cX5_tame 23 = .ok (.istore 5, 2) := by decide +kernel
theorem dX5_tame_25 : decode cX5_tame 25 = .ok (.iload 5, 2) := by decide +kernel
theorem dX5_tame_27 : decode cX5_tame 27 = .ok (.bipush 20, 2) := by decide +kernel
theorem dX5_tame_29 : decode cX5_tame 29 = .ok (.if_icmp .ge 86, 3) := by decide +kernel
theorem dX5_tame_32 : decode cX5_tame 32 = .ok (.aload_n 0, 1) := by decide +kernel
theorem dX5_tame_33 : decode cX5_tame 33 = .ok (.getfield 9, 3) := by decide +kernel
theorem dX5_tame_36 : decode cX5_tame 36 = .ok (.iconst 3, 1) := by decide +kernel
theorem dX5_tame_37 : decode cX5_tame 37 = .ok (.bipush 20, 2) := by decide +kernel
theorem dX5_tame_39 : decode cX5_tame 39 = .ok (.iload_n 2, 1) := by decide +kernel
theorem dX5_tame_40 : decode cX5_tame 40 = .ok (.imul, 1) := by decide +kernel
theorem dX5_tame_41 : decode cX5_tame 41 = .ok (.iadd, 1) := by decide +kernel
theorem dX5_tame_42 : decode cX5_tame 42 = .ok (.iload 5, 2) := by decide +kernel
theorem dX5_tame_44 : decode cX5_tame 44 = .ok (.iadd, 1) := by decide +kernel
theorem dX5_tame_45 : decode cX5_tame 45 = .ok (.iaload, 1) := by decide +kernel
theorem dX5_tame_46 : decode cX5_tame 46 = .ok (.ifCond .ne 63, 3) := by decide +kernel
theorem dX5_tame_49 : decode cX5_tame 49 = .ok (.aload_n 0, 1) := by decide +kernel
theorem dX5_tame_50 : decode cX5_tame 50 = .ok (.iload_n 2, 1) := by decide +kernel
theorem dX5_tame_51 : decode cX5_tame 51 = .ok (.iload 5, 2) := by decide +kernel
theorem dX5_tame_53 : decode cX5_tame 53 = .ok (.iconst 1, 1) := by decide +kernel
theorem dX5_tame_54 : decode cX5_tame 54 = .ok (.invokevirtual 121, 3) := by decide +kernel
theorem dX5_tame_57 : decode cX5_tame 57 = .ok (.aload_n 0, 1) := by decide +kernel
theorem dX5_tame_58 : decode cX5_tame 58 = .ok (.aload_n 0, 1) := by decide +kernel
theorem dX5_tame_59 : decode cX5_tame 59 = .ok (.iload_n 1, 1) := by decide +kernel
theorem dX5_tame_60 : decode cX5_tame 60 = .ok (.iconst 0, 1) := by decide +kernel
theorem dX5_tame_61 : decode cX5_tame 61 = .ok (.invokevirtual 92, 3) := by decide +kernel
theorem dX5_tame_64 : decode cX5_tame 64 = .ok (.aload_n 0, 1) := by decide +kernel
theorem dX5_tame_65 : decode cX5_tame 65 = .ok (.iload_n 1, 1) := by decide +kernel
theorem dX5_tame_66 : decode cX5_tame 66 = .ok (.iconst 1, 1) := by decide +kernel
theorem dX5_tame_67 : decode cX5_tame 67 = .ok (.invokevirtual 92, 3) := by decide +kernel
theorem dX5_tame_70 : decode cX5_tame 70 = .ok (.iload_n 2, 1) := by decide +kernel
theorem dX5_tame_71 : decode cX5_tame 71 = .ok (.invokevirtual 95, 3) := by decide +kernel
theorem dX5_tame_74 : decode cX5_tame 74 = .ok (.aload_n 0, 1) := by decide +kernel
theorem dX5_tame_75 : decode cX5_tame 75 = .ok (.iload_n 2, 1) := by decide +kernel
theorem dX5_tame_76 : decode cX5_tame 76 = .ok (.iload 5, 2) := by decide +kernel
theorem dX5_tame_78 : decode cX5_tame 78 = .ok (.iconst 0, 1) := by decide +kernel
theorem dX5_tame_79 : decode cX5_tame 79 = .ok (.invokevirtual 121, 3) := by decide +kernel
theorem dX5_tame_82 : decode cX5_tame 82 = .ok (.aload_n 0, 1) := by decide +kernel
theorem dX5_tame_83 : decode cX5_tame 83 = .ok (.invokevirtual 162, 3) := by decide +kernel
theorem dX5_tame_86 : decode cX5_tame 86 = .ok (.iload 4, 2) := by decide +kernel
theorem dX5_tame_88 : decode cX5_tame 88 = .ok (.if_icmp .ge 8, 3) := by decide +kernel
theorem dX5_tame_91 : decode cX5_tame 91 = .ok (.iload 5, 2) := by decide +kernel
theorem dX5_tame_93 : decode cX5_tame 93 = .ok (.goto 4, 3) := by decide +kernel
theorem dX5_tame_96 : decode cX5_tame 96 = .ok (.iload_n 3, 1) := by decide +kernel
theorem dX5_tame_97 : decode cX5_tame 97 = .ok (.istore_n 3, 1) := by decide +kernel
theorem dX5_tame_98 : decode cX5_tame 98 = .ok (.iload 4, 2) := by decide +kernel
theorem dX5_tame_100 : decode cX5_tame 100 = .ok (.aload_n 0, 1) := by decide +kernel
theorem dX5_tame_101 : decode cX5_tame 101 = .ok (.invokevirtual 162, 3) := by decide +kernel
theorem dX5_tame_104 : decode cX5_tame 104 = .ok (.invokestatic 71, 3) := by decide +kernel
theorem dX5_tame_107 : decode cX5_tame 107 = .ok (.istore 4, 2) := by decide +kernel
theorem dX5_tame_109 : decode cX5_tame 109 = .ok (.iinc 5 1, 3) := by decide +kernel
theorem dX5_tame_112 : decode cX5_tame 112 = .ok (.goto (-87), 3) := by decide +kernel
theorem dX5_tame_115 : decode cX5_tame 115 = .ok (.iload_n 3, 1) := by decide +kernel
theorem dX5_tame_116 : decode cX5_tame 116 = .ok (.ifCond .ge 11, 3) := by decide +kernel
theorem dX5_tame_119 : decode cX5_tame 119 = .ok (.aload_n 0, 1) := by decide +kernel
theorem dX5_tame_120 : decode cX5_tame 120 = .ok (.iconst 3, 1) := by decide +kernel
theorem dX5_tame_121 : decode cX5_tame 121 = .ok (.invokevirtual 118, 3) := by decide +kernel
theorem dX5_tame_124 : decode cX5_tame 124 = .ok (.goto 4, 3) := by decide +kernel
theorem dX5_tame_127 : decode cX5_tame 127 = .ok (.iload_n 3, 1) := by decide +kernel
theorem dX5_tame_128 : decode cX5_tame 128 = .ok (.ireturn, 1) := by decide +kernel
theorem dX5_clear_0 : decode cX5_clear 0 = .ok (.iload_n 1, 1) := by decide +kernel
theorem dX5_clear_1 : decode cX5_clear 1 = .ok (.invokestatic 112, 3) := by decide +kernel
theorem dX5_clear_4 : decode cX5_clear 4 = .ok (.ifCond .eq 13, 3) := by decide +kernel
theorem dX5_clear_7 : decode cX5_clear 7 = .ok (.iload_n 2, 1) := by decide +kernel
theorem dX5_clear_8 : decode cX5_clear 8 = .ok (.iconst 0, 1) := by decide +kernel
theorem dX5_clear_9 : decode cX5_clear 9 = .ok (.bipush 20, 2) := by decide +kernel
theorem dX5_clear_11 : decode cX5_clear 11 = .ok (.invokestatic 52, 3) := by decide +kernel
theorem dX5_clear_14 : decode cX5_clear 14 = .ok (.ifCond .ne 9, 3) := by decide +kernel
theorem dX5_clear_17 : decode cX5_clear 17 = .ok (.aload_n 0, 1) := by decide +kernel
theorem dX5_clear_18 : decode cX5_clear 18 = .ok (.iconst 0, 1) := by decide +kernel
theorem dX5_clear_19 : decode cX5_clear 19 = .ok (.invokevirtual 118, 3) := by decide +kernel
theorem dX5_clear_22 : decode cX5_clear 22 = .ok (.ireturn, 1) := by decide +kernel
theorem dX5_clear_23 : decode cX5_clear 23 = .ok (.iconst (-1), 1) := by decide +kernel
theorem dX5_clear_24 : decode cX5_clear 24 = .ok (.istore_n 3, 1) := by decide +kernel
theorem dX5_clear_25 : decode cX5_clear 25 = .ok (.iconst 0, 1) := by decide +kernel
theorem dX5_clear_26 : decode cX5_clear 26 = .ok (.istore 4, 2) := by decide +kernel
theorem dX5_clear_28 : decode cX5_clear 28 = .ok (.iconst 0, 1) := by decide +kernel
theorem dX5_clear_29 : decode cX5_clear 29 = .ok (.istore 5, 2) := by decide +kernel
theorem dX5_clear_31 : decode cX5_clear 31 = .ok (.iload 5, 2) := by decide +kernel
theorem dX5_clear_33 : decode cX5_clear 33 = .ok (.bipush 20, 2) := by decide +kernel
theorem dX5_clear_35 : decode cX5_clear 35 = .ok (.if_icmp .ge 90, 3) := by decide +kernel
theorem dX5_clear_38 : decode cX5_clear 38 = .ok (.aload_n 0, 1) := by decide +kernel
theorem dX5_clear_39 : decode cX5_clear 39 = .ok (.getfield 9, 3) := by decide +kernel
theorem dX5_clear_42 : decode cX5_clear 42 = .ok (.iconst 3, 1) := by decide +kernel
theorem dX5_clear_43 : decode cX5_clear 43 = .ok (.bipush 20, 2) := by decide +kernel
theorem dX5_clear_45 : decode cX5_clear 45 = .ok (.iload_n 1, 1) := by decide +kernel
theorem dX5_clear_46 : decode cX5_clear 46 = .ok (.imul, 1) := by decide +kernel
theorem dX5_clear_47 : decode cX5_clear 47 = .ok (.iadd, 1) := by decide +kernel
theorem dX5_clear_48 : decode cX5_clear 48 = .ok (.iload 5, 2) := by decide +kernel
theorem dX5_clear_50 : decode cX5_clear 50 = .ok (.iadd, 1) := by decide +kernel
theorem dX5_clear_51 : decode cX5_clear 51 = .ok (.iaload, 1) := by decide +kernel
theorem dX5_clear_52 : decode cX5_clear 52 = .ok (.ifCond .le 67, 3) := by decide +kernel
theorem dX5_clear_55 : decode cX5_clear 55 = .ok (.aload_n 0, 1) := by decide +kernel
theorem dX5_clear_56 : decode cX5_clear 56 = .ok (.invokevirtual 153, 3) := by decide +kernel
theorem dX5_clear_59 : decode cX5_clear 59 = .ok (.aload_n 0, 1) := by decide +kernel
theorem dX5_clear_60 : decode cX5_clear 60 = .ok (.iload_n 1, 1) := by decide +kernel
theorem dX5_clear_61 : decode cX5_clear 61 = .ok (.iload 5, 2) := by decide +kernel
theorem dX5_clear_63 : decode cX5_clear 63 = .ok (.iconst 0, 1) := by decide +kernel
theorem dX5_clear_64 : decode cX5_clear 64 = .ok (.invokevirtual 121, 3) := by decide +kernel
theorem dX5_clear_67 : decode cX5_clear 67 = .ok (.aload_n 0, 1) := by decide +kernel
theorem dX5_clear_68 : decode cX5_clear 68 = .ok (.iload_n 2, 1) := by decide +kernel
theorem dX5_clear_69 : decode cX5_clear 69 = .ok (.iconst 0, 1) := by decide +kernel
theorem dX5_clear_70 : decode cX5_clear 70 = .ok (.invokevirtual 159, 3) := by decide +kernel
theorem dX5_clear_73 : decode cX5_clear 73 = .ok (.istore 6, 2) := by decide +kernel
theorem dX5_clear_75 : decode cX5_clear 75 = .ok (.iload_n 3, 1) := by decide +kernel
theorem dX5_clear_76 : decode cX5_clear 76 = .ok (.ifCond .lt 10, 3) := by decide +kernel
theorem dX5_clear_79 : decode cX5_clear 79 = .ok (.iload 6, 2) := by decide +kernel
theorem dX5_clear_81 : decode cX5_clear 81 = .ok (.iload 4, 2) := by decide +kernel
theorem dX5_clear_83 : decode cX5_clear 83 = .ok (.if_icmp .ge 7, 3) := by decide +kernel
theorem dX5_clear_86 : decode cX5_clear 86 = .ok (.iconst 1, 1) := by decide +kernel
theorem dX5_clear_87 : decode cX5_clear 87 = .ok (.goto 4, 3) := by decide +kernel
theorem dX5_clear_90 : decode cX5_clear 90 = .ok (.iconst 0, 1) := by decide +kernel
theorem dX5_clear_91 : decode cX5_clear 91 = .ok (.istore 7, 2) := by decide +kernel
theorem dX5_clear_93 : decode cX5_clear 93 = .ok (.iload 7, 2) := by decide +kernel
theorem dX5_clear_95 : decode cX5_clear 95 = .ok (.ifCond .eq 8, 3) := by decide +kernel
theorem dX5_clear_98 : decode cX5_clear 98 = .ok (.iload 5, 2) := by decide +kernel
theorem dX5_clear_100 : decode cX5_clear 100 = .ok (.goto 4, 3) := by decide +kernel
theorem dX5_clear_103 : decode cX5_clear 103 = .ok (.iload_n 3, 1) := by decide +kernel
theorem dX5_clear_104 : decode cX5_clear 104 = .ok (.istore_n 3, 1) := by decide +kernel
theorem dX5_clear_105 : decode cX5_clear 105 = .ok (.iload 7, 2) := by decide +kernel
theorem dX5_clear_107 : decode cX5_clear 107 = .ok (.ifCond .eq 8, 3) := by decide +kernel
theorem dX5_clear_110 : decode cX5_clear 110 = .ok (.iload 6, 2) := by decide +kernel
theorem dX5_clear_112 : decode cX5_clear 112 = .ok (.goto 5, 3) := by decide +kernel
theorem dX5_clear_115 : decode cX5_clear 115 = .ok (.iload 4, 2) := by decide +kernel
theorem dX5_clear_117 : decode cX5_clear 117 = .ok (.istore 4, 2) := by decide +kernel
theorem dX5_clear_119 : decode cX5_clear 119 = .ok (.iinc 5 1, 3) := by decide +kernel
theorem dX5_clear_122 : decode cX5_clear 122 = .ok (.goto (-91), 3) := by decide +kernel
theorem dX5_clear_125 : decode cX5_clear 125 = .ok (.iload_n 3, 1) := by decide +kernel
theorem dX5_clear_126 : decode cX5_clear 126 = .ok (.ifCond .ge 11, 3) := by decide +kernel
theorem dX5_clear_129 : decode cX5_clear 129 = .ok (.aload_n 0, 1) := by decide +kernel
theorem dX5_clear_130 : decode cX5_clear 130 = .ok (.iconst 3, 1) := by decide +kernel
theorem dX5_clear_131 : decode cX5_clear 131 = .ok (.invokevirtual 118, 3) := by decide +kernel
theorem dX5_clear_134 : decode cX5_clear 134 = .ok (.goto 4, 3) := by decide +kernel
theorem dX5_clear_137 : decode cX5_clear 137 = .ok (.iload_n 3, 1) := by decide +kernel
theorem dX5_clear_138 : decode cX5_clear 138 = .ok (.ireturn, 1) := by decide +kernel
theorem dX5_lower_0 : decode cX5_lower 0 = .ok (.iload_n 1, 1) := by decide +kernel
theorem dX5_lower_1 : decode cX5_lower 1 = .ok (.iconst 0, 1) := by decide +kernel
theorem dX5_lower_2 : decode cX5_lower 2 = .ok (.bipush 20, 2) := by decide +kernel
theorem dX5_lower_4 : decode cX5_lower 4 = .ok (.invokestatic 52, 3) := by decide +kernel
theorem dX5_lower_7 : decode cX5_lower 7 = .ok (.ifCond .eq 13, 3) := by decide +kernel
theorem dX5_lower_10 : decode cX5_lower 10 = .ok (.iload_n 2, 1) := by decide +kernel
theorem dX5_lower_11 : decode cX5_lower 11 = .ok (.iconst 0, 1) := by decide +kernel
theorem dX5_lower_12 : decode cX5_lower 12 = .ok (.ldc 165, 2) := by decide +kernel
theorem dX5_lower_14 : decode cX5_lower 14 = .ok (.invokestatic 52, 3) := by decide +kernel
theorem dX5_lower_17 : decode cX5_lower 17 = .ok (.ifCond .ne 9, 3) := by decide +kernel
theorem dX5_lower_20 : decode cX5_lower 20 = .ok (.aload_n 0, 1) := by decide +kernel
theorem dX5_lower_21 : decode cX5_lower 21 = .ok (.iconst 0, 1) := by decide +kernel
theorem dX5_lower_22 : decode cX5_lower 22 = .ok (.invokevirtual 118, 3) := by decide +kernel
theorem dX5_lower_25 : decode cX5_lower 25 = .ok (.ireturn, 1) := by decide +kernel
theorem dX5_lower_26 : decode cX5_lower 26 = .ok (.bipush 6, 2) := by decide +kernel
theorem dX5_lower_28 : decode cX5_lower 28 = .ok (.istore_n 3, 1) := by decide +kernel
theorem dX5_lower_29 : decode cX5_lower 29 = .ok (.iload_n 3, 1) := by decide +kernel
theorem dX5_lower_30 : decode cX5_lower 30 = .ok (.ifCond .le 32, 3) := by decide +kernel
theorem dX5_lower_33 : decode cX5_lower 33 = .ok (.aload_n 0, 1) := by decide +kernel
theorem dX5_lower_34 : decode cX5_lower 34 = .ok (.invokevirtual 153, 3) := by decide +kernel
theorem dX5_lower_37 : decode cX5_lower 37 = .ok (.aload_n 0, 1) := by decide +kernel
theorem dX5_lower_38 : decode cX5_lower 38 = .ok (.getfield 9, 3) := by decide +kernel
theorem dX5_lower_41 : decode cX5_lower 41 = .ok (.iconst 1, 1) := by decide +kernel
theorem dX5_lower_42 : decode cX5_lower 42 = .ok (.iload_n 3, 1) := by decide +kernel
theorem dX5_lower_43 : decode cX5_lower 43 = .ok (.iastore, 1) := by decide +kernel
theorem dX5_lower_44 : decode cX5_lower 44 = .ok (.aload_n 0, 1) := by decide +kernel
theorem dX5_lower_45 : decode cX5_lower 45 = .ok (.iload_n 1, 1) := by decide +kernel
theorem dX5_lower_46 : decode cX5_lower 46 = .ok (.iconst 0, 1) := by decide +kernel
theorem dX5_lower_47 : decode cX5_lower 47 = .ok (.invokevirtual 159, 3) := by decide +kernel
theorem dX5_lower_50 : decode cX5_lower 50 = .ok (.iload_n 2, 1) := by decide +kernel
theorem dX5_lower_51 : decode cX5_lower 51 = .ok (.if_icmp .gt 5, 3) := by decide +kernel
theorem dX5_lower_54 : decode cX5_lower 54 = .ok (.iload_n 3, 1) := by decide +kernel
theorem dX5_lower_55 : decode cX5_lower 55 = .ok (.ireturn, 1) := by decide +kernel
theorem dX5_lower_56 : decode cX5_lower 56 = .ok (.iinc 3 (-1), 3) := by decide +kernel
theorem dX5_lower_59 : decode cX5_lower 59 = .ok (.goto (-30), 3) := by decide +kernel
theorem dX5_lower_62 : decode cX5_lower 62 = .ok (.aload_n 0, 1) := by decide +kernel
theorem dX5_lower_63 : decode cX5_lower 63 = .ok (.iconst 3, 1) := by decide +kernel
theorem dX5_lower_64 : decode cX5_lower 64 = .ok (.invokevirtual 118, 3) := by decide +kernel
theorem dX5_lower_67 : decode cX5_lower 67 = .ok (.ireturn, 1) := by decide +kernel
theorem dX5_kind_0 : decode cX5_kind 0 = .ok (.aload_n 0, 1) := by decide +kernel
theorem dX5_kind_1 : decode cX5_kind 1 = .ok (.iload_n 1, 1) := by decide +kernel
theorem dX5_kind_2 : decode cX5_kind 2 = .ok (.iload_n 2, 1) := by decide +kernel
theorem dX5_kind_3 : decode cX5_kind 3 = .ok (.invokevirtual 146, 3) := by decide +kernel
theorem dX5_kind_6 : decode cX5_kind 6 = .ok (.ifCond .ne 9, 3) := by decide +kernel
theorem dX5_kind_9 : decode cX5_kind 9 = .ok (.aload_n 0, 1) := by decide +kernel
theorem dX5_kind_10 : decode cX5_kind 10 = .ok (.iconst 0, 1) := by decide +kernel
theorem dX5_kind_11 : decode cX5_kind 11 = .ok (.invokevirtual 118, 3) := by decide +kernel
theorem dX5_kind_14 : decode cX5_kind 14 = .ok (.ireturn, 1) := by decide +kernel
theorem dX5_kind_15 : decode cX5_kind 15 = .ok (.iconst 0, 1) := by decide +kernel
theorem dX5_kind_16 : decode cX5_kind 16 = .ok (.istore_n 3, 1) := by decide +kernel
theorem dX5_kind_17 : decode cX5_kind 17 = .ok (.ldc 165, 2) := by decide +kernel
theorem dX5_kind_19 : decode cX5_kind 19 = .ok (.istore 4, 2) := by decide +kernel
theorem dX5_kind_21 : decode cX5_kind 21 = .ok (.iconst 0, 1) := by decide +kernel
theorem dX5_kind_22 : decode cX5_kind 22 = .ok (.istore 5, 2) := by decide +kernel
theorem dX5_kind_24 : decode cX5_kind 24 = .ok (.iload 5, 2) := by decide +kernel
theorem dX5_kind_26 : decode cX5_kind 26 = .ok (.bipush 6, 2) := by decide +kernel
theorem dX5_kind_28 : decode cX5_kind 28 = .ok (.if_icmp .ge 49, 3) := by decide +kernel
theorem dX5_kind_31 : decode cX5_kind 31 = .ok (.aload_n 0, 1) := by decide +kernel
theorem dX5_kind_32 : decode cX5_kind 32 = .ok (.iload 5, 2) := by decide +kernel
theorem dX5_kind_34 : decode cX5_kind 34 = .ok (.aload_n 0, 1) := by decide +kernel
theorem dX5_kind_35 : decode cX5_kind 35 = .ok (.iload_n 1, 1) := by decide +kernel
theorem dX5_kind_36 : decode cX5_kind 36 = .ok (.iconst 1, 1) := by decide +kernel
theorem dX5_kind_37 : decode cX5_kind 37 = .ok (.invokevirtual 92, 3) := by decide +kernel
theorem dX5_kind_40 : decode cX5_kind 40 = .ok (.iload_n 2, 1) := by decide +kernel
theorem dX5_kind_41 : decode cX5_kind 41 = .ok (.invokevirtual 95, 3) := by decide +kernel
theorem dX5_kind_44 : decode cX5_kind 44 = .ok (.aload_n 0, 1) := by decide +kernel
theorem dX5_kind_45 : decode cX5_kind 45 = .ok (.getfield 75, 3) := by decide +kernel
theorem dX5_kind_48 : decode cX5_kind 48 = .ok (.iload 4, 2) := by decide +kernel
theorem dX5_kind_50 : decode cX5_kind 50 = .ok (.if_icmp .ge 8, 3) := by decide +kernel
theorem dX5_kind_53 : decode cX5_kind 53 = .ok (.iload 5, 2) := by decide +kernel
theorem dX5_kind_55 : decode cX5_kind 55 = .ok (.goto 4, 3) := by decide +kernel
theorem dX5_kind_58 : decode cX5_kind 58 = .ok (.iload_n 3, 1) := by decide +kernel
theorem dX5_kind_59 : decode cX5_kind 59 = .ok (.istore_n 3, 1) := by decide +kernel
theorem dX5_kind_60 : decode cX5_kind 60 = .ok (.iload 4, 2) := by decide +kernel
theorem dX5_kind_62 : decode cX5_kind 62 = .ok (.aload_n 0, 1) := by decide +kernel
theorem dX5_kind_63 : decode cX5_kind 63 = .ok (.getfield 75, 3) := by decide +kernel
theorem dX5_kind_66 : decode cX5_kind 66 = .ok (.invokestatic 71, 3) := by decide +kernel
theorem dX5_kind_69 : decode cX5_kind 69 = .ok (.istore 4, 2) := by decide +kernel
theorem dX5_kind_71 : decode cX5_kind 71 = .ok (.iinc 5 1, 3) := by decide +kernel
theorem dX5_kind_74 : decode cX5_kind 74 = .ok (.goto (-50), 3) := by decide +kernel
theorem dX5_kind_77 : decode cX5_kind 77 = .ok (.iload_n 3, 1) := by decide +kernel
theorem dX5_kind_78 : decode cX5_kind 78 = .ok (.ireturn, 1) := by decide +kernel
theorem dX5_wish_0 : decode cX5_wish 0 = .ok (.aload_n 0, 1) := by decide +kernel
theorem dX5_wish_1 : decode cX5_wish 1 = .ok (.iload_n 1, 1) := by decide +kernel
theorem dX5_wish_2 : decode cX5_wish 2 = .ok (.iload_n 2, 1) := by decide +kernel
theorem dX5_wish_3 : decode cX5_wish 3 = .ok (.invokevirtual 146, 3) := by decide +kernel
theorem dX5_wish_6 : decode cX5_wish 6 = .ok (.ifCond .eq 14, 3) := by decide +kernel
theorem dX5_wish_9 : decode cX5_wish 9 = .ok (.iload_n 3, 1) := by decide +kernel
theorem dX5_wish_10 : decode cX5_wish 10 = .ok (.iconst 0, 1) := by decide +kernel
theorem dX5_wish_11 : decode cX5_wish 11 = .ok (.sipush 9999, 3) := by decide +kernel
theorem dX5_wish_14 : decode cX5_wish 14 = .ok (.invokestatic 52, 3) := by decide +kernel
theorem dX5_wish_17 : decode cX5_wish 17 = .ok (.ifCond .ne 9, 3) := by decide +kernel
theorem dX5_wish_20 : decode cX5_wish 20 = .ok (.aload_n 0, 1) := by decide +kernel
theorem dX5_wish_21 : decode cX5_wish 21 = .ok (.iconst 0, 1) := by decide +kernel
theorem dX5_wish_22 : decode cX5_wish 22 = .ok (.invokevirtual 118, 3) := by decide +kernel
theorem dX5_wish_25 : decode cX5_wish 25 = .ok (.ireturn, 1) := by decide +kernel
theorem dX5_wish_26 : decode cX5_wish 26 = .ok (.iconst (-1), 1) := by decide +kernel
theorem dX5_wish_27 : decode cX5_wish 27 = .ok (.istore 4, 2) := by decide +kernel
theorem dX5_wish_29 : decode cX5_wish 29 = .ok (.ldc 165, 2) := by decide +kernel
theorem dX5_wish_31 : decode cX5_wish 31 = .ok (.istore 5, 2) := by decide +kernel
theorem dX5_wish_33 : decode cX5_wish 33 = .ok (.bipush 10, 2) := by decide +kernel
theorem dX5_wish_35 : decode cX5_wish 35 = .ok (.istore 6, 2) := by decide +kernel
theorem dX5_wish_37 : decode cX5_wish 37 = .ok (.iload 6, 2) := by decide +kernel
theorem dX5_wish_39 : decode cX5_wish 39 = .ok (.bipush 80, 2) := by decide +kernel
theorem dX5_wish_41 : decode cX5_wish 41 = .ok (.if_icmp .gt 76, 3) := by decide +kernel
theorem dX5_wish_44 : decode cX5_wish 44 = .ok (.aload_n 0, 1) := by decide +kernel
theorem dX5_wish_45 : decode cX5_wish 45 = .ok (.aload_n 0, 1) := by decide +kernel
theorem dX5_wish_46 : decode cX5_wish 46 = .ok (.iload_n 1, 1) := by decide +kernel
theorem dX5_wish_47 : decode cX5_wish 47 = .ok (.iconst 0, 1) := by decide +kernel
theorem dX5_wish_48 : decode cX5_wish 48 = .ok (.invokevirtual 92, 3) := by decide +kernel
theorem dX5_wish_51 : decode cX5_wish 51 = .ok (.iload 6, 2) := by decide +kernel
theorem dX5_wish_53 : decode cX5_wish 53 = .ok (.iload_n 2, 1) := by decide +kernel
theorem dX5_wish_54 : decode cX5_wish 54 = .ok (.invokevirtual 95, 3) := by decide +kernel
theorem dX5_wish_57 : decode cX5_wish 57 = .ok (.aload_n 0, 1) := by decide +kernel
theorem dX5_wish_58 : decode cX5_wish 58 = .ok (.getfield 75, 3) := by decide +kernel
theorem dX5_wish_61 : decode cX5_wish 61 = .ok (.iload_n 3, 1) := by decide +kernel
theorem dX5_wish_62 : decode cX5_wish 62 = .ok (.if_icmp .gt 16, 3) := by decide +kernel
theorem dX5_wish_65 : decode cX5_wish 65 = .ok (.aload_n 0, 1) := by decide +kernel
theorem dX5_wish_66 : decode cX5_wish 66 = .ok (.getfield 79, 3) := by decide +kernel
theorem dX5_wish_69 : decode cX5_wish 69 = .ok (.iload 5, 2) := by decide +kernel
theorem dX5_wish_71 : decode cX5_wish 71 = .ok (.if_icmp .ge 7, 3) := by decide +kernel
theorem dX5_wish_74 : decode cX5_wish 74 = .ok (.iconst 1, 1) := by decide +kernel
theorem dX5_wish_75 : decode cX5_wish 75 = .ok (.goto 4, 3) := by decide +kernel
theorem dX5_wish_78 : decode cX5_wish 78 = .ok (.iconst 0, 1) := by decide +kernel
theorem dX5_wish_79 : decode cX5_wish 79 = .ok (.istore 7, 2) := by decide +kernel
theorem dX5_wish_81 : decode cX5_wish 81 = .ok (.iload 7, 2) := by decide +kernel
theorem dX5_wish_83 : decode cX5_wish 83 = .ok (.ifCond .eq 8, 3) := by decide +kernel
theorem dX5_wish_86 : decode cX5_wish 86 = .ok (.iload 6, 2) := by decide +kernel
theorem dX5_wish_88 : decode cX5_wish 88 = .ok (.goto 5, 3) := by decide +kernel
theorem dX5_wish_91 : decode cX5_wish 91 = .ok (.iload 4, 2) := by decide +kernel
theorem dX5_wish_93 : decode cX5_wish 93 = .ok (.istore 4, 2) := by decide +kernel
theorem dX5_wish_95 : decode cX5_wish 95 = .ok (.iload 7, 2) := by decide +kernel
theorem dX5_wish_97 : decode cX5_wish 97 = .ok (.ifCond .eq 10, 3) := by decide +kernel
theorem dX5_wish_100 : decode cX5_wish 100 = .ok (.aload_n 0, 1) := by decide +kernel
theorem dX5_wish_101 : decode cX5_wish 101 = .ok (.getfield 79, 3) := by decide +kernel
theorem dX5_wish_104 : decode cX5_wish 104 = .ok (.goto 5, 3) := by decide +kernel
theorem dX5_wish_107 : decode cX5_wish 107 = .ok (.iload 5, 2) := by decide +kernel
theorem dX5_wish_109 : decode cX5_wish 109 = .ok (.istore 5, 2) := by decide +kernel
theorem dX5_wish_111 : decode cX5_wish 111 = .ok (.iinc 6 1, 3) := by decide +kernel
theorem dX5_wish_114 : decode cX5_wish 114 = .ok (.goto (-77), 3) := by decide +kernel
theorem dX5_wish_117 : decode cX5_wish 117 = .ok (.iload 4, 2) := by decide +kernel
theorem dX5_wish_119 : decode cX5_wish 119 = .ok (.ifCond .ge 11, 3) := by decide +kernel
theorem dX5_wish_122 : decode cX5_wish 122 = .ok (.aload_n 0, 1) := by decide +kernel
theorem dX5_wish_123 : decode cX5_wish 123 = .ok (.iconst 3, 1) := by decide +kernel
theorem dX5_wish_124 : decode cX5_wish 124 = .ok (.invokevirtual 118, 3) := by decide +kernel
theorem dX5_wish_127 : decode cX5_wish 127 = .ok (.goto 5, 3) := by decide +kernel
theorem dX5_wish_130 : decode cX5_wish 130 = .ok (.iload 4, 2) := by decide +kernel
theorem dX5_wish_132 : decode cX5_wish 132 = .ok (.ireturn, 1) := by decide +kernel
theorem dX5_drives_0 : decode cX5_drives 0 = .ok (.iload_n 1, 1) := by decide +kernel
theorem dX5_drives_1 : decode cX5_drives 1 = .ok (.invokestatic 115, 3) := by decide +kernel
theorem dX5_drives_4 : decode cX5_drives 4 = .ok (.ifCond .ne 9, 3) := by decide +kernel
theorem dX5_drives_7 : decode cX5_drives 7 = .ok (.aload_n 0, 1) := by decide +kernel
theorem dX5_drives_8 : decode cX5_drives 8 = .ok (.iconst 0, 1) := by decide +kernel
theorem dX5_drives_9 : decode cX5_drives 9 = .ok (.invokevirtual 118, 3) := by decide +kernel
theorem dX5_drives_12 : decode cX5_drives 12 = .ok (.ireturn, 1) := by decide +kernel
theorem dX5_drives_13 : decode cX5_drives 13 = .ok (.iconst 0, 1) := by decide +kernel
theorem dX5_drives_14 : decode cX5_drives 14 = .ok (.istore_n 2, 1) := by decide +kernel
theorem dX5_drives_15 : decode cX5_drives 15 = .ok (.iconst (-1), 1) := by decide +kernel
theorem dX5_drives_16 : decode cX5_drives 16 = .ok (.istore_n 3, 1) := by decide +kernel
theorem dX5_drives_17 : decode cX5_drives 17 = .ok (.iconst 0, 1) := by decide +kernel
theorem dX5_drives_18 : decode cX5_drives 18 = .ok (.istore 4, 2) := by decide +kernel
theorem dX5_drives_20 : decode cX5_drives 20 = .ok (.iload 4, 2) := by decide +kernel
theorem dX5_drives_22 : decode cX5_drives 22 = .ok (.iconst 3, 1) := by decide +kernel
theorem dX5_drives_23 : decode cX5_drives 23 = .ok (.if_icmp .ge 113, 3) := by decide +kernel
theorem dX5_drives_26 : decode cX5_drives 26 = .ok (.aload_n 0, 1) := by decide +kernel
theorem dX5_drives_27 : decode cX5_drives 27 = .ok (.invokevirtual 153, 3) := by decide +kernel
theorem dX5_drives_30 : decode cX5_drives 30 = .ok (.aload_n 0, 1) := by decide +kernel
theorem dX5_drives_31 : decode cX5_drives 31 = .ok (.iload 4, 2) := by decide +kernel
theorem dX5_drives_33 : decode cX5_drives 33 = .ok (.iload_n 1, 1) := by decide +kernel
theorem dX5_drives_34 : decode cX5_drives 34 = .ok (.iconst 1, 1) := by decide +kernel
theorem dX5_drives_35 : decode cX5_drives 35 = .ok (.invokevirtual 121, 3) := by decide +kernel
theorem dX5_drives_38 : decode cX5_drives 38 = .ok (.aload_n 0, 1) := by decide +kernel
theorem dX5_drives_39 : decode cX5_drives 39 = .ok (.iconst 1, 1) := by decide +kernel
theorem dX5_drives_40 : decode cX5_drives 40 = .ok (.invokevirtual 150, 3) := by decide +kernel
theorem dX5_drives_43 : decode cX5_drives 43 = .ok (.iconst 0, 1) := by decide +kernel
theorem dX5_drives_44 : decode cX5_drives 44 = .ok (.istore 5, 2) := by decide +kernel
theorem dX5_drives_46 : decode cX5_drives 46 = .ok (.iconst 0, 1) := by decide +kernel
theorem dX5_drives_47 : decode cX5_drives 47 = .ok (.istore 6, 2) := by decide +kernel
theorem dX5_drives_49 : decode cX5_drives 49 = .ok (.iload 6, 2) := by decide +kernel
theorem dX5_drives_51 : decode cX5_drives 51 = .ok (.aload_n 0, 1) := by decide +kernel
theorem dX5_drives_52 : decode cX5_drives 52 = .ok (.getfield 9, 3) := by decide +kernel
theorem dX5_drives_55 : decode cX5_drives 55 = .ok (.iconst 2, 1) := by decide +kernel
theorem dX5_drives_56 : decode cX5_drives 56 = .ok (.iaload, 1) := by decide +kernel
theorem dX5_drives_57 : decode cX5_drives 57 = .ok (.if_icmp .ge 43, 3) := by decide +kernel
theorem dX5_drives_60 : decode cX5_drives 60 = .ok (.iload 5, 2) := by decide +kernel
theorem dX5_drives_62 : decode cX5_drives 62 = .ok (.aload_n 0, 1) := by decide +kernel
theorem dX5_drives_63 : decode cX5_drives 63 = .ok (.iload 6, 2) := by decide +kernel
theorem dX5_drives_65 : decode cX5_drives 65 = .ok (.iconst 2, 1) := by decide +kernel
theorem dX5_drives_66 : decode cX5_drives 66 = .ok (.invokevirtual 92, 3) := by decide +kernel
theorem dX5_drives_69 : decode cX5_drives 69 = .ok (.aload_n 0, 1) := by decide +kernel
theorem dX5_drives_70 : decode cX5_drives 70 = .ok (.getfield 16, 3) := by decide +kernel
theorem dX5_drives_73 : decode cX5_drives 73 = .ok (.bipush 123, 2) := by decide +kernel
theorem dX5_drives_75 : decode cX5_drives 75 = .ok (.iconst 3, 1) := by decide +kernel
theorem dX5_drives_76 : decode cX5_drives 76 = .ok (.iload 6, 2) := by decide +kernel
theorem dX5_drives_78 : decode cX5_drives 78 = .ok (.imul, 1) := by decide +kernel
theorem dX5_drives_79 : decode cX5_drives 79 = .ok (.iadd, 1) := by decide +kernel
theorem dX5_drives_80 : decode cX5_drives 80 = .ok (.iconst 2, 1) := by decide +kernel
theorem dX5_drives_81 : decode cX5_drives 81 = .ok (.iadd, 1) := by decide +kernel
theorem dX5_drives_82 : decode cX5_drives 82 = .ok (.iaload, 1) := by decide +kernel
theorem dX5_drives_83 : decode cX5_drives 83 = .ok (.if_icmp .eq 7, 3) := by decide +kernel
theorem dX5_drives_86 : decode cX5_drives 86 = .ok (.iconst 1, 1) := by decide +kernel
theorem dX5_drives_87 : decode cX5_drives 87 = .ok (.goto 4, 3) := by decide +kernel
theorem dX5_drives_90 : decode cX5_drives 90 = .ok (.iconst 0, 1) := by decide +kernel
theorem dX5_drives_91 : decode cX5_drives 91 = .ok (.iadd, 1) := by decide +kernel
theorem dX5_drives_92 : decode cX5_drives 92 = .ok (.istore 5, 2) := by decide +kernel
theorem dX5_drives_94 : decode cX5_drives 94 = .ok (.iinc 6 1, 3) := by decide +kernel
theorem dX5_drives_97 : decode cX5_drives 97 = .ok (.goto (-48), 3) := by decide +kernel
theorem dX5_drives_100 : decode cX5_drives 100 = .ok (.aload_n 0, 1) := by decide +kernel
theorem dX5_drives_101 : decode cX5_drives 101 = .ok (.invokevirtual 156, 3) := by decide +kernel
theorem dX5_drives_104 : decode cX5_drives 104 = .ok (.iload 5, 2) := by decide +kernel
theorem dX5_drives_106 : decode cX5_drives 106 = .ok (.iload_n 3, 1) := by decide +kernel
theorem dX5_drives_107 : decode cX5_drives 107 = .ok (.if_icmp .le 8, 3) := by decide +kernel
theorem dX5_drives_110 : decode cX5_drives 110 = .ok (.iload 4, 2) := by decide +kernel
theorem dX5_drives_112 : decode cX5_drives 112 = .ok (.goto 4, 3) := by decide +kernel
theorem dX5_drives_115 : decode cX5_drives 115 = .ok (.iload_n 2, 1) := by decide +kernel
theorem dX5_drives_116 : decode cX5_drives 116 = .ok (.istore_n 2, 1) := by decide +kernel
theorem dX5_drives_117 : decode cX5_drives 117 = .ok (.iload 5, 2) := by decide +kernel
theorem dX5_drives_119 : decode cX5_drives 119 = .ok (.iload_n 3, 1) := by decide +kernel
theorem dX5_drives_120 : decode cX5_drives 120 = .ok (.if_icmp .le 8, 3) := by decide +kernel
theorem dX5_drives_123 : decode cX5_drives 123 = .ok (.iload 5, 2) := by decide +kernel
theorem dX5_drives_125 : decode cX5_drives 125 = .ok (.goto 4, 3) := by decide +kernel
theorem dX5_drives_128 : decode cX5_drives 128 = .ok (.iload_n 3, 1) := by decide +kernel
theorem dX5_drives_129 : decode cX5_drives 129 = .ok (.istore_n 3, 1) := by decide +kernel
theorem dX5_drives_130 : decode cX5_drives 130 = .ok (.iinc 4 1, 3) := by decide +kernel
theorem dX5_drives_133 : decode cX5_drives 133 = .ok (.goto (-113), 3) := by decide +kernel
theorem dX5_drives_136 : decode cX5_drives 136 = .ok (.iload_n 2, 1) := by decide +kernel
theorem dX5_drives_137 : decode cX5_drives 137 = .ok (.ireturn, 1) := by decide +kernel
theorem dX5_slowest_0 : decode cX5_slowest 0 = .ok (.iconst (-1), 1) := by decide +kernel
theorem dX5_slowest_1 : decode cX5_slowest 1 = .ok (.istore_n 1, 1) := by decide +kernel
theorem dX5_slowest_2 : decode cX5_slowest 2 = .ok (.iconst (-1), 1) := by decide +kernel
theorem dX5_slowest_3 : decode cX5_slowest 3 = .ok (.istore_n 2, 1) := by decide +kernel
theorem dX5_slowest_4 : decode cX5_slowest 4 = .ok (.iconst 0, 1) := by decide +kernel
theorem dX5_slowest_5 : decode cX5_slowest 5 = .ok (.istore_n 3, 1) := by decide +kernel
theorem dX5_slowest_6 : decode cX5_slowest 6 = .ok (.iload_n 3, 1) := by decide +kernel
theorem dX5_slowest_7 : decode cX5_slowest 7 = .ok (.aload_n 0, 1) := by decide +kernel
theorem dX5_slowest_8 : decode cX5_slowest 8 = .ok (.getfield 9, 3) := by decide +kernel
theorem dX5_slowest_11 : decode cX5_slowest 11 = .ok (.iconst 2, 1) := by decide +kernel
theorem dX5_slowest_12 : decode cX5_slowest 12 = .ok (.iaload, 1) := by decide +kernel
theorem dX5_slowest_13 : decode cX5_slowest 13 = .ok (.if_icmp .ge 56, 3) := by decide +kernel
theorem dX5_slowest_16 : decode cX5_slowest 16 = .ok (.aload_n 0, 1) := by decide +kernel
theorem dX5_slowest_17 : decode cX5_slowest 17 = .ok (.iload_n 3, 1) := by decide +kernel
theorem dX5_slowest_18 : decode cX5_slowest 18 = .ok (.iconst 0, 1) := by decide +kernel
theorem dX5_slowest_19 : decode cX5_slowest 19 = .ok (.invokevirtual 102, 3) := by decide +kernel
theorem dX5_slowest_22 : decode cX5_slowest 22 = .ok (.aload_n 0, 1) := by decide +kernel
theorem dX5_slowest_23 : decode cX5_slowest 23 = .ok (.iload_n 3, 1) := by decide +kernel
theorem dX5_slowest_24 : decode cX5_slowest 24 = .ok (.iconst 1, 1) := by decide +kernel
theorem dX5_slowest_25 : decode cX5_slowest 25 = .ok (.invokevirtual 102, 3) := by decide +kernel
theorem dX5_slowest_28 : decode cX5_slowest 28 = .ok (.iadd, 1) := by decide +kernel
theorem dX5_slowest_29 : decode cX5_slowest 29 = .ok (.aload_n 0, 1) := by decide +kernel
theorem dX5_slowest_30 : decode cX5_slowest 30 = .ok (.iload_n 3, 1) := by decide +kernel
theorem dX5_slowest_31 : decode cX5_slowest 31 = .ok (.iconst 2, 1) := by decide +kernel
theorem dX5_slowest_32 : decode cX5_slowest 32 = .ok (.invokevirtual 102, 3) := by decide +kernel
theorem dX5_slowest_35 : decode cX5_slowest 35 = .ok (.iadd, 1) := by decide +kernel
theorem dX5_slowest_36 : decode cX5_slowest 36 = .ok (.istore 4, 2) := by decide +kernel
theorem dX5_slowest_38 : decode cX5_slowest 38 = .ok (.iload 4, 2) := by decide +kernel
theorem dX5_slowest_40 : decode cX5_slowest 40 = .ok (.iload_n 2, 1) := by decide +kernel
theorem dX5_slowest_41 : decode cX5_slowest 41 = .ok (.if_icmp .le 7, 3) := by decide +kernel
theorem dX5_slowest_44 : decode cX5_slowest 44 = .ok (.iload_n 3, 1) := by decide +kernel
theorem dX5_slowest_45 : decode cX5_slowest 45 = .ok (.goto 4, 3) := by decide +kernel
theorem dX5_slowest_48 : decode cX5_slowest 48 = .ok (.iload_n 1, 1) := by decide +kernel
theorem dX5_slowest_49 : decode cX5_slowest 49 = .ok (.istore_n 1, 1) := by decide +kernel
theorem dX5_slowest_50 : decode cX5_slowest 50 = .ok (.iload 4, 2) := by decide +kernel
theorem dX5_slowest_52 : decode cX5_slowest 52 = .ok (.iload_n 2, 1) := by decide +kernel
theorem dX5_slowest_53 : decode cX5_slowest 53 = .ok (.if_icmp .le 8, 3) := by decide +kernel
theorem dX5_slowest_56 : decode cX5_slowest 56 = .ok (.iload 4, 2) := by decide +kernel
theorem dX5_slowest_58 : decode cX5_slowest 58 = .ok (.goto 4, 3) := by decide +kernel
theorem dX5_slowest_61 : decode cX5_slowest 61 = .ok (.iload_n 2, 1) := by decide +kernel
theorem dX5_slowest_62 : decode cX5_slowest 62 = .ok (.istore_n 2, 1) := by decide +kernel
theorem dX5_slowest_63 : decode cX5_slowest 63 = .ok (.iinc 3 1, 3) := by decide +kernel
theorem dX5_slowest_66 : decode cX5_slowest 66 = .ok (.goto (-60), 3) := by decide +kernel
theorem dX5_slowest_69 : decode cX5_slowest 69 = .ok (.iload_n 1, 1) := by decide +kernel
theorem dX5_slowest_70 : decode cX5_slowest 70 = .ok (.ifCond .ge 11, 3) := by decide +kernel
theorem dX5_slowest_73 : decode cX5_slowest 73 = .ok (.aload_n 0, 1) := by decide +kernel
theorem dX5_slowest_74 : decode cX5_slowest 74 = .ok (.iconst 3, 1) := by decide +kernel
theorem dX5_slowest_75 : decode cX5_slowest 75 = .ok (.invokevirtual 118, 3) := by decide +kernel
theorem dX5_slowest_78 : decode cX5_slowest 78 = .ok (.goto 4, 3) := by decide +kernel
theorem dX5_slowest_81 : decode cX5_slowest 81 = .ok (.iload_n 1, 1) := by decide +kernel
theorem dX5_slowest_82 : decode cX5_slowest 82 = .ok (.ireturn, 1) := by decide +kernel
theorem dX5_feed_0 : decode cX5_feed 0 = .ok (.iload_n 2, 1) := by decide +kernel
theorem dX5_feed_1 : decode cX5_feed 1 = .ok (.iconst 1, 1) := by decide +kernel
theorem dX5_feed_2 : decode cX5_feed 2 = .ok (.iconst 4, 1) := by decide +kernel
theorem dX5_feed_3 : decode cX5_feed 3 = .ok (.invokestatic 52, 3) := by decide +kernel
theorem dX5_feed_6 : decode cX5_feed 6 = .ok (.ifCond .ne 9, 3) := by decide +kernel
theorem dX5_feed_9 : decode cX5_feed 9 = .ok (.aload_n 0, 1) := by decide +kernel
theorem dX5_feed_10 : decode cX5_feed 10 = .ok (.iconst 0, 1) := by decide +kernel
theorem dX5_feed_11 : decode cX5_feed 11 = .ok (.invokevirtual 118, 3) := by decide +kernel
theorem dX5_feed_14 : decode cX5_feed 14 = .ok (.ireturn, 1) := by decide +kernel
theorem dX5_feed_15 : decode cX5_feed 15 = .ok (.aload_n 0, 1) := by decide +kernel
theorem dX5_feed_16 : decode cX5_feed 16 = .ok (.getfield 166, 3) := by decide +kernel
theorem dX5_feed_19 : decode cX5_feed 19 = .ok (.iload_n 2, 1) := by decide +kernel
theorem dX5_feed_20 : decode cX5_feed 20 = .ok (.iadd, 1) := by decide +kernel
theorem dX5_feed_21 : decode cX5_feed 21 = .ok (.bipush 120, 2) := by decide +kernel
theorem dX5_feed_23 : decode cX5_feed 23 = .ok (.if_icmp .le 9, 3) := by decide +kernel
theorem dX5_feed_26 : decode cX5_feed 26 = .ok (.aload_n 0, 1) := by decide +kernel
theorem dX5_feed_27 : decode cX5_feed 27 = .ok (.iconst 1, 1) := by decide +kernel
theorem dX5_feed_28 : decode cX5_feed 28 = .ok (.invokevirtual 118, 3) := by decide +kernel
theorem dX5_feed_31 : decode cX5_feed 31 = .ok (.ireturn, 1) := by decide +kernel
theorem dX5_feed_32 : decode cX5_feed 32 = .ok (.iload_n 2, 1) := by decide +kernel
theorem dX5_feed_33 : decode cX5_feed 33 = .ok (.iconst 1, 1) := by decide +kernel
theorem dX5_feed_34 : decode cX5_feed 34 = .ok (.isub, 1) := by decide +kernel
theorem dX5_feed_35 : decode cX5_feed 35 = .ok (.istore_n 3, 1) := by decide +kernel
theorem dX5_feed_36 : decode cX5_feed 36 = .ok (.iload_n 3, 1) := by decide +kernel
theorem dX5_feed_37 : decode cX5_feed 37 = .ok (.ifCond .lt 38, 3) := by decide +kernel
theorem dX5_feed_40 : decode cX5_feed 40 = .ok (.aload_n 0, 1) := by decide +kernel
theorem dX5_feed_41 : decode cX5_feed 41 = .ok (.getfield 25, 3) := by decide +kernel
theorem dX5_feed_44 : decode cX5_feed 44 = .ok (.aload_n 0, 1) := by decide +kernel
theorem dX5_feed_45 : decode cX5_feed 45 = .ok (.getfield 166, 3) := by decide +kernel
theorem dX5_feed_48 : decode cX5_feed 48 = .ok (.iload_n 1, 1) := by decide +kernel
theorem dX5_feed_49 : decode cX5_feed 49 = .ok (.bipush 8, 2) := by decide +kernel
theorem dX5_feed_51 : decode cX5_feed 51 = .ok (.iload_n 3, 1) := by decide +kernel
theorem dX5_feed_52 : decode cX5_feed 52 = .ok (.imul, 1) := by decide +kernel
theorem dX5_feed_53 : decode cX5_feed 53 = .ok (.ishr, 1) := by decide +kernel
theorem dX5_feed_54 : decode cX5_feed 54 = .ok (.sipush 255, 3) := by decide +kernel
theorem dX5_feed_57 : decode cX5_feed 57 = .ok (.iand, 1) := by decide +kernel
theorem dX5_feed_58 : decode cX5_feed 58 = .ok (.iastore, 1) := by decide +kernel
theorem dX5_feed_59 : decode cX5_feed 59 = .ok (.aload_n 0, 1) := by decide +kernel
theorem dX5_feed_60 : decode cX5_feed 60 = .ok (.dup, 1) := by decide +kernel
theorem dX5_feed_61 : decode cX5_feed 61 = .ok (.getfield 166, 3) := by decide +kernel
theorem dX5_feed_64 : decode cX5_feed 64 = .ok (.iconst 1, 1) := by decide +kernel
theorem dX5_feed_65 : decode cX5_feed 65 = .ok (.iadd, 1) := by decide +kernel
theorem dX5_feed_66 : decode cX5_feed 66 = .ok (.putfield 166, 3) := by decide +kernel
theorem dX5_feed_69 : decode cX5_feed 69 = .ok (.iinc 3 (-1), 3) := by decide +kernel
theorem dX5_feed_72 : decode cX5_feed 72 = .ok (.goto (-36), 3) := by decide +kernel
theorem dX5_feed_75 : decode cX5_feed 75 = .ok (.aload_n 0, 1) := by decide +kernel
theorem dX5_feed_76 : decode cX5_feed 76 = .ok (.getfield 166, 3) := by decide +kernel
theorem dX5_feed_79 : decode cX5_feed 79 = .ok (.ireturn, 1) := by decide +kernel
theorem dX5_wipe_0 : decode cX5_wipe 0 = .ok (.aload_n 0, 1) := by decide +kernel
theorem dX5_wipe_1 : decode cX5_wipe 1 = .ok (.getfield 166, 3) := by decide +kernel
theorem dX5_wipe_4 : decode cX5_wipe 4 = .ok (.istore_n 1, 1) := by decide +kernel
theorem dX5_wipe_5 : decode cX5_wipe 5 = .ok (.aload_n 0, 1) := by decide +kernel
theorem dX5_wipe_6 : decode cX5_wipe 6 = .ok (.iconst 0, 1) := by decide +kernel
theorem dX5_wipe_7 : decode cX5_wipe 7 = .ok (.putfield 166, 3) := by decide +kernel
theorem dX5_wipe_10 : decode cX5_wipe 10 = .ok (.iload_n 1, 1) := by decide +kernel
theorem dX5_wipe_11 : decode cX5_wipe 11 = .ok (.ireturn, 1) := by decide +kernel
theorem dX5_isLetter_0 : decode cX5_isLetter 0 = .ok (.iload_n 0, 1) := by decide +kernel
theorem dX5_isLetter_1 : decode cX5_isLetter 1 = .ok (.bipush 97, 2) := by decide +kernel
theorem dX5_isLetter_3 : decode cX5_isLetter 3 = .ok (.bipush 122, 2) := by decide +kernel
theorem dX5_isLetter_5 : decode cX5_isLetter 5 = .ok (.invokestatic 52, 3) := by decide +kernel
theorem dX5_isLetter_8 : decode cX5_isLetter 8 = .ok (.ireturn, 1) := by decide +kernel
theorem dX5_isDigit_0 : decode cX5_isDigit 0 = .ok (.iload_n 0, 1) := by decide +kernel
theorem dX5_isDigit_1 : decode cX5_isDigit 1 = .ok (.bipush 48, 2) := by decide +kernel
theorem dX5_isDigit_3 : decode cX5_isDigit 3 = .ok (.bipush 57, 2) := by decide +kernel
theorem dX5_isDigit_5 : decode cX5_isDigit 5 = .ok (.invokestatic 52, 3) := by decide +kernel
theorem dX5_isDigit_8 : decode cX5_isDigit 8 = .ok (.ireturn, 1) := by decide +kernel
theorem dX5_nextToken_0 : decode cX5_nextToken 0 = .ok (.aload_n 0, 1) := by decide +kernel
theorem dX5_nextToken_1 : decode cX5_nextToken 1 = .ok (.aload_n 0, 1) := by decide +kernel
theorem dX5_nextToken_2 : decode cX5_nextToken 2 = .ok (.getfield 169, 3) := by decide +kernel
theorem dX5_nextToken_5 : decode cX5_nextToken 5 = .ok (.putfield 172, 3) := by decide +kernel
theorem dX5_nextToken_8 : decode cX5_nextToken 8 = .ok (.aload_n 0, 1) := by decide +kernel
theorem dX5_nextToken_9 : decode cX5_nextToken 9 = .ok (.getfield 172, 3) := by decide +kernel
theorem dX5_nextToken_12 : decode cX5_nextToken 12 = .ok (.aload_n 0, 1) := by decide +kernel
theorem dX5_nextToken_13 : decode cX5_nextToken 13 = .ok (.getfield 166, 3) := by decide +kernel
theorem dX5_nextToken_16 : decode cX5_nextToken 16 = .ok (.if_icmp .ge 30, 3) := by decide +kernel
theorem dX5_nextToken_19 : decode cX5_nextToken 19 = .ok (.aload_n 0, 1) := by decide +kernel
theorem dX5_nextToken_20 : decode cX5_nextToken 20 = .ok (.getfield 25, 3) := by decide +kernel
theorem dX5_nextToken_23 : decode cX5_nextToken 23 = .ok (.aload_n 0, 1) := by decide +kernel
theorem dX5_nextToken_24 : decode cX5_nextToken 24 = .ok (.getfield 172, 3) := by decide +kernel
theorem dX5_nextToken_27 : decode cX5_nextToken 27 = .ok (.iaload, 1) := by decide +kernel
theorem dX5_nextToken_28 : decode cX5_nextToken 28 = .ok (.bipush 32, 2) := by decide +kernel
theorem dX5_nextToken_30 : decode cX5_nextToken 30 = .ok (.if_icmp .ne 16, 3) := by decide +kernel
theorem dX5_nextToken_33 : decode cX5_nextToken 33 = .ok (.aload_n 0, 1) := by decide +kernel
theorem dX5_nextToken_34 : decode cX5_nextToken 34 = .ok (.dup, 1) := by decide +kernel
theorem dX5_nextToken_35 : decode cX5_nextToken 35 = .ok (.getfield 172, 3) := by decide +kernel
theorem dX5_nextToken_38 : decode cX5_nextToken 38 = .ok (.iconst 1, 1) := by decide +kernel
theorem dX5_nextToken_39 : decode cX5_nextToken 39 = .ok (.iadd, 1) := by decide +kernel
theorem dX5_nextToken_40 : decode cX5_nextToken 40 = .ok (.putfield 172, 3) := by decide +kernel
theorem dX5_nextToken_43 : decode cX5_nextToken 43 = .ok (.goto (-35), 3) := by decide +kernel
theorem dX5_nextToken_46 : decode cX5_nextToken 46 = .ok (.aload_n 0, 1) := by decide +kernel
theorem dX5_nextToken_47 : decode cX5_nextToken 47 = .ok (.aload_n 0, 1) := by decide +kernel
theorem dX5_nextToken_48 : decode cX5_nextToken 48 = .ok (.getfield 172, 3) := by decide +kernel
theorem dX5_nextToken_51 : decode cX5_nextToken 51 = .ok (.putfield 169, 3) := by decide +kernel
theorem dX5_nextToken_54 : decode cX5_nextToken 54 = .ok (.aload_n 0, 1) := by decide +kernel
theorem dX5_nextToken_55 : decode cX5_nextToken 55 = .ok (.lconst 0, 1) := by decide +kernel
theorem dX5_nextToken_56 : decode cX5_nextToken 56 = .ok (.putfield 175, 3) := by decide +kernel
theorem dX5_nextToken_59 : decode cX5_nextToken 59 = .ok (.aload_n 0, 1) := by decide +kernel
theorem dX5_nextToken_60 : decode cX5_nextToken 60 = .ok (.getfield 172, 3) := by decide +kernel
theorem dX5_nextToken_63 : decode cX5_nextToken 63 = .ok (.aload_n 0, 1) := by decide +kernel
theorem dX5_nextToken_64 : decode cX5_nextToken 64 = .ok (.getfield 166, 3) := by decide +kernel
theorem dX5_nextToken_67 : decode cX5_nextToken 67 = .ok (.if_icmp .ne 11, 3) := by decide +kernel
theorem dX5_nextToken_70 : decode cX5_nextToken 70 = .ok (.aload_n 0, 1) := by decide +kernel
theorem dX5_nextToken_71 : decode cX5_nextToken 71 = .ok (.iconst 0, 1) := by decide +kernel
theorem dX5_nextToken_72 : decode cX5_nextToken 72 = .ok (.putfield 179, 3) := by decide +kernel
theorem dX5_nextToken_75 : decode cX5_nextToken 75 = .ok (.goto 262, 3) := by decide +kernel
theorem dX5_nextToken_78 : decode cX5_nextToken 78 = .ok (.aload_n 0, 1) := by decide +kernel
theorem dX5_nextToken_79 : decode cX5_nextToken 79 = .ok (.getfield 25, 3) := by decide +kernel
theorem dX5_nextToken_82 : decode cX5_nextToken 82 = .ok (.aload_n 0, 1) := by decide +kernel
theorem dX5_nextToken_83 : decode cX5_nextToken 83 = .ok (.getfield 172, 3) := by decide +kernel
theorem dX5_nextToken_86 : decode cX5_nextToken 86 = .ok (.iaload, 1) := by decide +kernel
theorem dX5_nextToken_87 : decode cX5_nextToken 87 = .ok (.invokestatic 182, 3) := by decide +kernel
theorem dX5_nextToken_90 : decode cX5_nextToken 90 = .ok (.ifCond .eq 92, 3) := by decide +kernel
theorem dX5_nextToken_93 : decode cX5_nextToken 93 = .ok (.aload_n 0, 1) := by decide +kernel
theorem dX5_nextToken_94 : decode cX5_nextToken 94 = .ok (.iconst 1, 1) := by decide +kernel
theorem dX5_nextToken_95 : decode cX5_nextToken 95 = .ok (.putfield 179, 3) := by decide +kernel
theorem dX5_nextToken_98 : decode cX5_nextToken 98 = .ok (.aload_n 0, 1) := by decide +kernel
theorem dX5_nextToken_99 : decode cX5_nextToken 99 = .ok (.getfield 169, 3) := by decide +kernel
theorem dX5_nextToken_102 : decode cX5_nextToken 102 = .ok (.aload_n 0, 1) := by decide +kernel
theorem dX5_nextToken_103 : decode cX5_nextToken 103 = .ok (.getfield 166, 3) := by decide +kernel
theorem dX5_nextToken_106 : decode cX5_nextToken 106 = .ok (.if_icmp .ge 231, 3) := by decide +kernel
theorem dX5_nextToken_109 : decode cX5_nextToken 109 = .ok (.aload_n 0, 1) := by decide +kernel
theorem dX5_nextToken_110 : decode cX5_nextToken 110 = .ok (.getfield 25, 3) := by decide +kernel
theorem dX5_nextToken_113 : decode cX5_nextToken 113 = .ok (.aload_n 0, 1) := by decide +kernel
theorem dX5_nextToken_114 : decode cX5_nextToken 114 = .ok (.getfield 169, 3) := by decide +kernel
theorem dX5_nextToken_117 : decode cX5_nextToken 117 = .ok (.iaload, 1) := by decide +kernel
theorem dX5_nextToken_118 : decode cX5_nextToken 118 = .ok (.invokestatic 182, 3) := by decide +kernel
theorem dX5_nextToken_121 : decode cX5_nextToken 121 = .ok (.ifCond .eq 216, 3) := by decide +kernel
theorem dX5_nextToken_124 : decode cX5_nextToken 124 = .ok (.aload_n 0, 1) := by decide +kernel
theorem dX5_nextToken_125 : decode cX5_nextToken 125 = .ok (.aload_n 0, 1) := by decide +kernel
theorem dX5_nextToken_126 : decode cX5_nextToken 126 = .ok (.getfield 175, 3) := by decide +kernel
theorem dX5_nextToken_129 : decode cX5_nextToken 129 = .ok (.ldc2_w 185, 3) := by decide +kernel
theorem dX5_nextToken_132 : decode cX5_nextToken 132 = .ok (.lcmp, 1) := by decide +kernel
theorem dX5_nextToken_133 : decode cX5_nextToken 133 = .ok (.ifCond .le 10, 3) := by decide +kernel
theorem dX5_nextToken_136 : decode cX5_nextToken 136 = .ok (.aload_n 0, 1) := by decide +kernel
theorem dX5_nextToken_137 : decode cX5_nextToken 137 = .ok (.getfield 175, 3) := by decide +kernel
theorem dX5_nextToken_140 : decode cX5_nextToken 140 = .ok (.goto 26, 3) := by decide +kernel
theorem dX5_nextToken_143 : decode cX5_nextToken 143 = .ok (.aload_n 0, 1) := by decide +kernel
theorem dX5_nextToken_144 : decode cX5_nextToken 144 = .ok (.getfield 175, 3) := by decide +kernel
theorem dX5_nextToken_147 : decode cX5_nextToken 147 = .ok (.ldc2_w 187, 3) := by decide +kernel
theorem dX5_nextToken_150 : decode cX5_nextToken 150 = .ok (.lmul, 1) := by decide +kernel
theorem dX5_nextToken_151 : decode cX5_nextToken 151 = .ok (.aload_n 0, 1) := by decide +kernel
theorem dX5_nextToken_152 : decode cX5_nextToken 152 = .ok (.getfield 25, 3) := by decide +kernel
theorem dX5_nextToken_155 : decode cX5_nextToken 155 = .ok (.aload_n 0, 1) := by decide +kernel
theorem dX5_nextToken_156 : decode cX5_nextToken 156 = .ok (.getfield 169, 3) := by decide +kernel
theorem dX5_nextToken_159 : decode cX5_nextToken 159 = .ok (.iaload, 1) := by decide +kernel
theorem dX5_nextToken_160 : decode cX5_nextToken 160 = .ok (.i2l, 1) := by decide +kernel
theorem dX5_nextToken_161 : decode cX5_nextToken 161 = .ok (.ladd, 1) := by decide +kernel
theorem dX5_nextToken_162 : decode cX5_nextToken 162 = .ok (.ldc2_w 189, 3) := by decide +kernel
theorem dX5_nextToken_165 : decode cX5_nextToken 165 = .ok (.lsub, 1) := by decide +kernel
theorem dX5_nextToken_166 : decode cX5_nextToken 166 = .ok (.putfield 175, 3) := by decide +kernel
theorem dX5_nextToken_169 : decode cX5_nextToken 169 = .ok (.aload_n 0, 1) := by decide +kernel
theorem dX5_nextToken_170 : decode cX5_nextToken 170 = .ok (.dup, 1) := by decide +kernel
theorem dX5_nextToken_171 : decode cX5_nextToken 171 = .ok (.getfield 169, 3) := by decide +kernel
theorem dX5_nextToken_174 : decode cX5_nextToken 174 = .ok (.iconst 1, 1) := by decide +kernel
theorem dX5_nextToken_175 : decode cX5_nextToken 175 = .ok (.iadd, 1) := by decide +kernel
theorem dX5_nextToken_176 : decode cX5_nextToken 176 = .ok (.putfield 169, 3) := by decide +kernel
theorem dX5_nextToken_179 : decode cX5_nextToken 179 = .ok (.goto (-81), 3) := by decide +kernel
theorem dX5_nextToken_182 : decode cX5_nextToken 182 = .ok (.aload_n 0, 1) := by decide +kernel
theorem dX5_nextToken_183 : decode cX5_nextToken 183 = .ok (.getfield 25, 3) := by decide +kernel
theorem dX5_nextToken_186 : decode cX5_nextToken 186 = .ok (.aload_n 0, 1) := by decide +kernel
theorem dX5_nextToken_187 : decode cX5_nextToken 187 = .ok (.getfield 172, 3) := by decide +kernel
theorem dX5_nextToken_190 : decode cX5_nextToken 190 = .ok (.iaload, 1) := by decide +kernel
theorem dX5_nextToken_191 : decode cX5_nextToken 191 = .ok (.invokestatic 191, 3) := by decide +kernel
theorem dX5_nextToken_194 : decode cX5_nextToken 194 = .ok (.ifCond .eq 110, 3) := by decide +kernel
theorem dX5_nextToken_197 : decode cX5_nextToken 197 = .ok (.aload_n 0, 1) := by decide +kernel
theorem dX5_nextToken_198 : decode cX5_nextToken 198 = .ok (.getfield 169, 3) := by decide +kernel
theorem dX5_nextToken_201 : decode cX5_nextToken 201 = .ok (.aload_n 0, 1) := by decide +kernel
theorem dX5_nextToken_202 : decode cX5_nextToken 202 = .ok (.getfield 166, 3) := by decide +kernel
theorem dX5_nextToken_205 : decode cX5_nextToken 205 = .ok (.if_icmp .ge 76, 3) := by decide +kernel
theorem dX5_nextToken_208 : decode cX5_nextToken 208 = .ok (.aload_n 0, 1) := by decide +kernel
theorem dX5_nextToken_209 : decode cX5_nextToken 209 = .ok (.getfield 25, 3) := by decide +kernel
theorem dX5_nextToken_212 : decode cX5_nextToken 212 = .ok (.aload_n 0, 1) := by decide +kernel
theorem dX5_nextToken_213 : decode cX5_nextToken 213 = .ok (.getfield 169, 3) := by decide +kernel
theorem dX5_nextToken_216 : decode cX5_nextToken 216 = .ok (.iaload, 1) := by decide +kernel
theorem dX5_nextToken_217 : decode cX5_nextToken 217 = .ok (.invokestatic 191, 3) := by decide +kernel
theorem dX5_nextToken_220 : decode cX5_nextToken 220 = .ok (.ifCond .eq 61, 3) := by decide +kernel
theorem dX5_nextToken_223 : decode cX5_nextToken 223 = .ok (.aload_n 0, 1) := by decide +kernel
theorem dX5_nextToken_224 : decode cX5_nextToken 224 = .ok (.aload_n 0, 1) := by decide +kernel
theorem dX5_nextToken_225 : decode cX5_nextToken 225 = .ok (.getfield 175, 3) := by decide +kernel
theorem dX5_nextToken_228 : decode cX5_nextToken 228 = .ok (.ldc2_w 194, 3) := by decide +kernel
theorem dX5_nextToken_231 : decode cX5_nextToken 231 = .ok (.lcmp, 1) := by decide +kernel
theorem dX5_nextToken_232 : decode cX5_nextToken 232 = .ok (.ifCond .le 10, 3) := by decide +kernel
theorem dX5_nextToken_235 : decode cX5_nextToken 235 = .ok (.aload_n 0, 1) := by decide +kernel
theorem dX5_nextToken_236 : decode cX5_nextToken 236 = .ok (.getfield 175, 3) := by decide +kernel
theorem dX5_nextToken_239 : decode cX5_nextToken 239 = .ok (.goto 26, 3) := by decide +kernel
theorem dX5_nextToken_242 : decode cX5_nextToken 242 = .ok (.aload_n 0, 1) := by decide +kernel
theorem dX5_nextToken_243 : decode cX5_nextToken 243 = .ok (.getfield 175, 3) := by decide +kernel
theorem dX5_nextToken_246 : decode cX5_nextToken 246 = .ok (.ldc2_w 196, 3) := by decide +kernel
theorem dX5_nextToken_249 : decode cX5_nextToken 249 = .ok (.lmul, 1) := by decide +kernel
theorem dX5_nextToken_250 : decode cX5_nextToken 250 = .ok (.aload_n 0, 1) := by decide +kernel
theorem dX5_nextToken_251 : decode cX5_nextToken 251 = .ok (.getfield 25, 3) := by decide +kernel
theorem dX5_nextToken_254 : decode cX5_nextToken 254 = .ok (.aload_n 0, 1) := by decide +kernel
theorem dX5_nextToken_255 : decode cX5_nextToken 255 = .ok (.getfield 169, 3) := by decide +kernel
theorem dX5_nextToken_258 : decode cX5_nextToken 258 = .ok (.iaload, 1) := by decide +kernel
theorem dX5_nextToken_259 : decode cX5_nextToken 259 = .ok (.i2l, 1) := by decide +kernel
theorem dX5_nextToken_260 : decode cX5_nextToken 260 = .ok (.ladd, 1) := by decide +kernel
theorem dX5_nextToken_261 : decode cX5_nextToken 261 = .ok (.ldc2_w 198, 3) := by decide +kernel
theorem dX5_nextToken_264 : decode cX5_nextToken 264 = .ok (.lsub, 1) := by decide +kernel
theorem dX5_nextToken_265 : decode cX5_nextToken 265 = .ok (.putfield 175, 3) := by decide +kernel
theorem dX5_nextToken_268 : decode cX5_nextToken 268 = .ok (.aload_n 0, 1) := by decide +kernel
theorem dX5_nextToken_269 : decode cX5_nextToken 269 = .ok (.dup, 1) := by decide +kernel
theorem dX5_nextToken_270 : decode cX5_nextToken 270 = .ok (.getfield 169, 3) := by decide +kernel
theorem dX5_nextToken_273 : decode cX5_nextToken 273 = .ok (.iconst 1, 1) := by decide +kernel
theorem dX5_nextToken_274 : decode cX5_nextToken 274 = .ok (.iadd, 1) := by decide +kernel
theorem dX5_nextToken_275 : decode cX5_nextToken 275 = .ok (.putfield 169, 3) := by decide +kernel
theorem dX5_nextToken_278 : decode cX5_nextToken 278 = .ok (.goto (-81), 3) := by decide +kernel
theorem dX5_nextToken_281 : decode cX5_nextToken 281 = .ok (.aload_n 0, 1) := by decide +kernel
theorem dX5_nextToken_282 : decode cX5_nextToken 282 = .ok (.aload_n 0, 1) := by decide +kernel
theorem dX5_nextToken_283 : decode cX5_nextToken 283 = .ok (.getfield 175, 3) := by decide +kernel
theorem dX5_nextToken_286 : decode cX5_nextToken 286 = .ok (.ldc2_w 194, 3) := by decide +kernel
theorem dX5_nextToken_289 : decode cX5_nextToken 289 = .ok (.lcmp, 1) := by decide +kernel
theorem dX5_nextToken_290 : decode cX5_nextToken 290 = .ok (.ifCond .le 7, 3) := by decide +kernel
theorem dX5_nextToken_293 : decode cX5_nextToken 293 = .ok (.iconst 4, 1) := by decide +kernel
theorem dX5_nextToken_294 : decode cX5_nextToken 294 = .ok (.goto 4, 3) := by decide +kernel
theorem dX5_nextToken_297 : decode cX5_nextToken 297 = .ok (.iconst 2, 1) := by decide +kernel
theorem dX5_nextToken_298 : decode cX5_nextToken 298 = .ok (.putfield 179, 3) := by decide +kernel
theorem dX5_nextToken_301 : decode cX5_nextToken 301 = .ok (.goto 36, 3) := by decide +kernel
theorem dX5_nextToken_304 : decode cX5_nextToken 304 = .ok (.aload_n 0, 1) := by decide +kernel
theorem dX5_nextToken_305 : decode cX5_nextToken 305 = .ok (.aload_n 0, 1) := by decide +kernel
theorem dX5_nextToken_306 : decode cX5_nextToken 306 = .ok (.getfield 25, 3) := by decide +kernel
theorem dX5_nextToken_309 : decode cX5_nextToken 309 = .ok (.aload_n 0, 1) := by decide +kernel
theorem dX5_nextToken_310 : decode cX5_nextToken 310 = .ok (.getfield 172, 3) := by decide +kernel
theorem dX5_nextToken_313 : decode cX5_nextToken 313 = .ok (.iaload, 1) := by decide +kernel
theorem dX5_nextToken_314 : decode cX5_nextToken 314 = .ok (.bipush 59, 2) := by decide +kernel
theorem dX5_nextToken_316 : decode cX5_nextToken 316 = .ok (.if_icmp .ne 7, 3) := by decide +kernel
theorem dX5_nextToken_319 : decode cX5_nextToken 319 = .ok (.iconst 3, 1) := by decide +kernel
theorem dX5_nextToken_320 : decode cX5_nextToken 320 = .ok (.goto 4, 3) := by decide +kernel
theorem dX5_nextToken_323 : decode cX5_nextToken 323 = .ok (.iconst 4, 1) := by decide +kernel
theorem dX5_nextToken_324 : decode cX5_nextToken 324 = .ok (.putfield 179, 3) := by decide +kernel
theorem dX5_nextToken_327 : decode cX5_nextToken 327 = .ok (.aload_n 0, 1) := by decide +kernel
theorem dX5_nextToken_328 : decode cX5_nextToken 328 = .ok (.dup, 1) := by decide +kernel
theorem dX5_nextToken_329 : decode cX5_nextToken 329 = .ok (.getfield 169, 3) := by decide +kernel
theorem dX5_nextToken_332 : decode cX5_nextToken 332 = .ok (.iconst 1, 1) := by decide +kernel
theorem dX5_nextToken_333 : decode cX5_nextToken 333 = .ok (.iadd, 1) := by decide +kernel
theorem dX5_nextToken_334 : decode cX5_nextToken 334 = .ok (.putfield 169, 3) := by decide +kernel
theorem dX5_nextToken_337 : decode cX5_nextToken 337 = .ok (.return_, 1) := by decide +kernel
theorem dX5_wordOf_0 : decode cX5_wordOf 0 = .ok (.iconst (-1), 1) := by decide +kernel
theorem dX5_wordOf_1 : decode cX5_wordOf 1 = .ok (.istore_n 2, 1) := by decide +kernel
theorem dX5_wordOf_2 : decode cX5_wordOf 2 = .ok (.iconst 0, 1) := by decide +kernel
theorem dX5_wordOf_3 : decode cX5_wordOf 3 = .ok (.istore_n 3, 1) := by decide +kernel
theorem dX5_wordOf_4 : decode cX5_wordOf 4 = .ok (.iload_n 3, 1) := by decide +kernel
theorem dX5_wordOf_5 : decode cX5_wordOf 5 = .ok (.aload_n 1, 1) := by decide +kernel
theorem dX5_wordOf_6 : decode cX5_wordOf 6 = .ok (.arraylength, 1) := by decide +kernel
theorem dX5_wordOf_7 : decode cX5_wordOf 7 = .ok (.bipush 9, 2) := by decide +kernel
theorem dX5_wordOf_9 : decode cX5_wordOf 9 = .ok (.idiv, 1) := by decide +kernel
theorem dX5_wordOf_10 : decode cX5_wordOf 10 = .ok (.if_icmp .ge 94, 3) := by decide +kernel
theorem dX5_wordOf_13 : decode cX5_wordOf 13 = .ok (.aload_n 0, 1) := by decide +kernel
theorem dX5_wordOf_14 : decode cX5_wordOf 14 = .ok (.getfield 179, 3) := by decide +kernel
theorem dX5_wordOf_17 : decode cX5_wordOf 17 = .ok (.iconst 1, 1) := by decide +kernel
theorem dX5_wordOf_18 : decode cX5_wordOf 18 = .ok (.if_icmp .ne 86, 3) := by decide +kernel
theorem dX5_wordOf_21 : decode cX5_wordOf 21 = .ok (.lconst 0, 1) := by decide +kernel
theorem dX5_wordOf_22 : decode cX5_wordOf 22 = .ok (.lstore 4, 2) := by decide +kernel
theorem dX5_wordOf_24 : decode cX5_wordOf 24 = .ok (.iconst 0, 1) := by decide +kernel
theorem dX5_wordOf_25 : decode cX5_wordOf 25 = .ok (.istore 6, 2) := by decide +kernel
theorem dX5_wordOf_27 : decode cX5_wordOf 27 = .ok (.iload 6, 2) := by decide +kernel
theorem dX5_wordOf_29 : decode cX5_wordOf 29 = .ok (.bipush 9, 2) := by decide +kernel
theorem dX5_wordOf_31 : decode cX5_wordOf 31 = .ok (.if_icmp .ge 51, 3) := by decide +kernel
theorem dX5_wordOf_34 : decode cX5_wordOf 34 = .ok (.aload_n 1, 1) := by decide +kernel
theorem dX5_wordOf_35 : decode cX5_wordOf 35 = .ok (.bipush 9, 2) := by decide +kernel
theorem dX5_wordOf_37 : decode cX5_wordOf 37 = .ok (.iload_n 3, 1) := by decide +kernel
theorem dX5_wordOf_38 : decode cX5_wordOf 38 = .ok (.imul, 1) := by decide +kernel
theorem dX5_wordOf_39 : decode cX5_wordOf 39 = .ok (.iload 6, 2) := by decide +kernel
theorem dX5_wordOf_41 : decode cX5_wordOf 41 = .ok (.iadd, 1) := by decide +kernel
theorem dX5_wordOf_42 : decode cX5_wordOf 42 = .ok (.caload, 1) := by decide +kernel
theorem dX5_wordOf_43 : decode cX5_wordOf 43 = .ok (.bipush 32, 2) := by decide +kernel
theorem dX5_wordOf_45 : decode cX5_wordOf 45 = .ok (.if_icmp .ne 8, 3) := by decide +kernel
theorem dX5_wordOf_48 : decode cX5_wordOf 48 = .ok (.lload 4, 2) := by decide +kernel
theorem dX5_wordOf_50 : decode cX5_wordOf 50 = .ok (.goto 24, 3) := by decide +kernel
theorem dX5_wordOf_53 : decode cX5_wordOf 53 = .ok (.lload 4, 2) := by decide +kernel
theorem dX5_wordOf_55 : decode cX5_wordOf 55 = .ok (.ldc2_w 187, 3) := by decide +kernel
theorem dX5_wordOf_58 : decode cX5_wordOf 58 = .ok (.lmul, 1) := by decide +kernel
theorem dX5_wordOf_59 : decode cX5_wordOf 59 = .ok (.aload_n 1, 1) := by decide +kernel
theorem dX5_wordOf_60 : decode cX5_wordOf 60 = .ok (.bipush 9, 2) := by decide +kernel
theorem dX5_wordOf_62 : decode cX5_wordOf 62 = .ok (.iload_n 3, 1) := by decide +kernel
theorem dX5_wordOf_63 : decode cX5_wordOf 63 = .ok (.imul, 1) := by decide +kernel
theorem dX5_wordOf_64 : decode cX5_wordOf 64 = .ok (.iload 6, 2) := by decide +kernel
theorem dX5_wordOf_66 : decode cX5_wordOf 66 = .ok (.iadd, 1) := by decide +kernel
theorem dX5_wordOf_67 : decode cX5_wordOf 67 = .ok (.caload, 1) := by decide +kernel
theorem dX5_wordOf_68 : decode cX5_wordOf 68 = .ok (.i2l, 1) := by decide +kernel
theorem dX5_wordOf_69 : decode cX5_wordOf 69 = .ok (.ladd, 1) := by decide +kernel
theorem dX5_wordOf_70 : decode cX5_wordOf 70 = .ok (.ldc2_w 189, 3) := by decide +kernel
theorem dX5_wordOf_73 : decode cX5_wordOf 73 = .ok (.lsub, 1) := by decide +kernel
theorem dX5_wordOf_74 : decode cX5_wordOf 74 = .ok (.lstore 4, 2) := by decide +kernel
theorem dX5_wordOf_76 : decode cX5_wordOf 76 = .ok (.iinc 6 1, 3) := by decide +kernel
theorem dX5_wordOf_79 : decode cX5_wordOf 79 = .ok (.goto (-52), 3) := by decide +kernel
theorem dX5_wordOf_82 : decode cX5_wordOf 82 = .ok (.lload 4, 2) := by decide +kernel
theorem dX5_wordOf_84 : decode cX5_wordOf 84 = .ok (.aload_n 0, 1) := by decide +kernel
theorem dX5_wordOf_85 : decode cX5_wordOf 85 = .ok (.getfield 175, 3) := by decide +kernel
theorem dX5_wordOf_88 : decode cX5_wordOf 88 = .ok (.lcmp, 1) := by decide +kernel
theorem dX5_wordOf_89 : decode cX5_wordOf 89 = .ok (.ifCond .ne 7, 3) := by decide +kernel
theorem dX5_wordOf_92 : decode cX5_wordOf 92 = .ok (.iload_n 3, 1) := by decide +kernel
theorem dX5_wordOf_93 : decode cX5_wordOf 93 = .ok (.goto 4, 3) := by decide +kernel
theorem dX5_wordOf_96 : decode cX5_wordOf 96 = .ok (.iload_n 2, 1) := by decide +kernel
theorem dX5_wordOf_97 : decode cX5_wordOf 97 = .ok (.istore_n 2, 1) := by decide +kernel
theorem dX5_wordOf_98 : decode cX5_wordOf 98 = .ok (.iinc 3 1, 3) := by decide +kernel
theorem dX5_wordOf_101 : decode cX5_wordOf 101 = .ok (.goto (-97), 3) := by decide +kernel
theorem dX5_wordOf_104 : decode cX5_wordOf 104 = .ok (.iload_n 2, 1) := by decide +kernel
theorem dX5_wordOf_105 : decode cX5_wordOf 105 = .ok (.ireturn, 1) := by decide +kernel
theorem dX5_takesNumber_0 : decode cX5_takesNumber 0 = .ok (.aload_n 0, 1) := by decide +kernel
theorem dX5_takesNumber_1 : decode cX5_takesNumber 1 = .ok (.getfield 179, 3) := by decide +kernel
theorem dX5_takesNumber_4 : decode cX5_takesNumber 4 = .ok (.iconst 2, 1) := by decide +kernel
theorem dX5_takesNumber_5 : decode cX5_takesNumber 5 = .ok (.if_icmp .ne 24, 3) := by decide +kernel
theorem dX5_takesNumber_8 : decode cX5_takesNumber 8 = .ok (.aload_n 0, 1) := by decide +kernel
theorem dX5_takesNumber_9 : decode cX5_takesNumber 9 = .ok (.getfield 175, 3) := by decide +kernel
theorem dX5_takesNumber_12 : decode cX5_takesNumber 12 = .ok (.l2i, 1) := by decide +kernel
theorem dX5_takesNumber_13 : decode cX5_takesNumber 13 = .ok (.iload_n 1, 1) := by decide +kernel
theorem dX5_takesNumber_14 : decode cX5_takesNumber 14 = .ok (.iload_n 2, 1) := by decide +kernel
theorem dX5_takesNumber_15 : decode cX5_takesNumber 15 = .ok (.invokestatic 52, 3) := by decide +kernel
theorem dX5_takesNumber_18 : decode cX5_takesNumber 18 = .ok (.ifCond .eq 11, 3) := by decide +kernel
theorem dX5_takesNumber_21 : decode cX5_takesNumber 21 = .ok (.aload_n 0, 1) := by decide +kernel
theorem dX5_takesNumber_22 : decode cX5_takesNumber 22 = .ok (.getfield 175, 3) := by decide +kernel
theorem dX5_takesNumber_25 : decode cX5_takesNumber 25 = .ok (.l2i, 1) := by decide +kernel
theorem dX5_takesNumber_26 : decode cX5_takesNumber 26 = .ok (.goto 4, 3) := by decide +kernel
theorem dX5_takesNumber_29 : decode cX5_takesNumber 29 = .ok (.iconst (-1), 1) := by decide +kernel
theorem dX5_takesNumber_30 : decode cX5_takesNumber 30 = .ok (.istore_n 3, 1) := by decide +kernel
theorem dX5_takesNumber_31 : decode cX5_takesNumber 31 = .ok (.iload_n 3, 1) := by decide +kernel
theorem dX5_takesNumber_32 : decode cX5_takesNumber 32 = .ok (.ifCond .lt 7, 3) := by decide +kernel
theorem dX5_takesNumber_35 : decode cX5_takesNumber 35 = .ok (.aload_n 0, 1) := by decide +kernel
theorem dX5_takesNumber_36 : decode cX5_takesNumber 36 = .ok (.invokevirtual 200, 3) := by decide +kernel
theorem dX5_takesNumber_39 : decode cX5_takesNumber 39 = .ok (.iload_n 3, 1) := by decide +kernel
theorem dX5_takesNumber_40 : decode cX5_takesNumber 40 = .ok (.ireturn, 1) := by decide +kernel
theorem dX5_readsDriver_0 : decode cX5_readsDriver 0 = .ok (.aload_n 0, 1) := by decide +kernel
theorem dX5_readsDriver_1 : decode cX5_readsDriver 1 = .ok (.getfield 9, 3) := by decide +kernel
theorem dX5_readsDriver_4 : decode cX5_readsDriver 4 = .ok (.iconst 2, 1) := by decide +kernel
theorem dX5_readsDriver_5 : decode cX5_readsDriver 5 = .ok (.iaload, 1) := by decide +kernel
theorem dX5_readsDriver_6 : decode cX5_readsDriver 6 = .ok (.bipush 8, 2) := by decide +kernel
theorem dX5_readsDriver_8 : decode cX5_readsDriver 8 = .ok (.if_icmp .ne 5, 3) := by decide +kernel
theorem dX5_readsDriver_11 : decode cX5_readsDriver 11 = .ok (.iconst 0, 1) := by decide +kernel
theorem dX5_readsDriver_12 : decode cX5_readsDriver 12 = .ok (.ireturn, 1) := by decide +kernel
theorem dX5_readsDriver_13 : decode cX5_readsDriver 13 = .ok (.aload_n 0, 1) := by decide +kernel
theorem dX5_readsDriver_14 : decode cX5_readsDriver 14 = .ok (.getfield 9, 3) := by decide +kernel
theorem dX5_readsDriver_17 : decode cX5_readsDriver 17 = .ok (.iconst 2, 1) := by decide +kernel
theorem dX5_readsDriver_18 : decode cX5_readsDriver 18 = .ok (.iaload, 1) := by decide +kernel
theorem dX5_readsDriver_19 : decode cX5_readsDriver 19 = .ok (.istore_n 2, 1) := by decide +kernel
theorem dX5_readsDriver_20 : decode cX5_readsDriver 20 = .ok (.aload_n 0, 1) := by decide +kernel
theorem dX5_readsDriver_21 : decode cX5_readsDriver 21 = .ok (.iload_n 1, 1) := by decide +kernel
theorem dX5_readsDriver_22 : decode cX5_readsDriver 22 = .ok (.invokevirtual 137, 3) := by decide +kernel
theorem dX5_readsDriver_25 : decode cX5_readsDriver 25 = .ok (.aload_n 0, 1) := by decide +kernel
theorem dX5_readsDriver_26 : decode cX5_readsDriver 26 = .ok (.invokevirtual 200, 3) := by decide +kernel
theorem dX5_readsDriver_29 : decode cX5_readsDriver 29 = .ok (.iconst 0, 1) := by decide +kernel
theorem dX5_readsDriver_30 : decode cX5_readsDriver 30 = .ok (.istore_n 3, 1) := by decide +kernel
theorem dX5_readsDriver_31 : decode cX5_readsDriver 31 = .ok (.iload_n 3, 1) := by decide +kernel
theorem dX5_readsDriver_32 : decode cX5_readsDriver 32 = .ok (.iconst 2, 1) := by decide +kernel
theorem dX5_readsDriver_33 : decode cX5_readsDriver 33 = .ok (.if_icmp .ge 68, 3) := by decide +kernel
theorem dX5_readsDriver_36 : decode cX5_readsDriver 36 = .ok (.aload_n 0, 1) := by decide +kernel
theorem dX5_readsDriver_37 : decode cX5_readsDriver 37 = .ok (.aload_n 0, 1) := by decide +kernel
theorem dX5_readsDriver_38 : decode cX5_readsDriver 38 = .ok (.getfield 32, 3) := by decide +kernel
theorem dX5_readsDriver_41 : decode cX5_readsDriver 41 = .ok (.invokevirtual 203, 3) := by decide +kernel
theorem dX5_readsDriver_44 : decode cX5_readsDriver 44 = .ok (.iload_n 3, 1) := by decide +kernel
theorem dX5_readsDriver_45 : decode cX5_readsDriver 45 = .ok (.if_icmp .ne 50, 3) := by decide +kernel
theorem dX5_readsDriver_48 : decode cX5_readsDriver 48 = .ok (.aload_n 0, 1) := by decide +kernel
theorem dX5_readsDriver_49 : decode cX5_readsDriver 49 = .ok (.invokevirtual 200, 3) := by decide +kernel
theorem dX5_readsDriver_52 : decode cX5_readsDriver 52 = .ok (.aload_n 0, 1) := by decide +kernel
theorem dX5_readsDriver_53 : decode cX5_readsDriver 53 = .ok (.iload_n 3, 1) := by decide +kernel
theorem dX5_readsDriver_54 : decode cX5_readsDriver 54 = .ok (.ifCond .ne 8, 3) := by decide +kernel
theorem dX5_readsDriver_57 : decode cX5_readsDriver 57 = .ok (.bipush 10, 2) := by decide +kernel
theorem dX5_readsDriver_59 : decode cX5_readsDriver 59 = .ok (.goto 4, 3) := by decide +kernel
theorem dX5_readsDriver_62 : decode cX5_readsDriver 62 = .ok (.iconst 0, 1) := by decide +kernel
theorem dX5_readsDriver_63 : decode cX5_readsDriver 63 = .ok (.iload_n 3, 1) := by decide +kernel
theorem dX5_readsDriver_64 : decode cX5_readsDriver 64 = .ok (.ifCond .ne 8, 3) := by decide +kernel
theorem dX5_readsDriver_67 : decode cX5_readsDriver 67 = .ok (.bipush 80, 2) := by decide +kernel
theorem dX5_readsDriver_69 : decode cX5_readsDriver 69 = .ok (.goto 4, 3) := by decide +kernel
theorem dX5_readsDriver_72 : decode cX5_readsDriver 72 = .ok (.iconst 2, 1) := by decide +kernel
theorem dX5_readsDriver_73 : decode cX5_readsDriver 73 = .ok (.invokevirtual 207, 3) := by decide +kernel
theorem dX5_readsDriver_76 : decode cX5_readsDriver 76 = .ok (.istore 4, 2) := by decide +kernel
theorem dX5_readsDriver_78 : decode cX5_readsDriver 78 = .ok (.iload 4, 2) := by decide +kernel
theorem dX5_readsDriver_80 : decode cX5_readsDriver 80 = .ok (.ifCond .ge 5, 3) := by decide +kernel
theorem dX5_readsDriver_83 : decode cX5_readsDriver 83 = .ok (.iconst 0, 1) := by decide +kernel
theorem dX5_readsDriver_84 : decode cX5_readsDriver 84 = .ok (.ireturn, 1) := by decide +kernel
theorem dX5_readsDriver_85 : decode cX5_readsDriver 85 = .ok (.aload_n 0, 1) := by decide +kernel
theorem dX5_readsDriver_86 : decode cX5_readsDriver 86 = .ok (.iload_n 2, 1) := by decide +kernel
theorem dX5_readsDriver_87 : decode cX5_readsDriver 87 = .ok (.iconst 1, 1) := by decide +kernel
theorem dX5_readsDriver_88 : decode cX5_readsDriver 88 = .ok (.iload_n 3, 1) := by decide +kernel
theorem dX5_readsDriver_89 : decode cX5_readsDriver 89 = .ok (.iadd, 1) := by decide +kernel
theorem dX5_readsDriver_90 : decode cX5_readsDriver 90 = .ok (.iload 4, 2) := by decide +kernel
theorem dX5_readsDriver_92 : decode cX5_readsDriver 92 = .ok (.invokevirtual 105, 3) := by decide +kernel
theorem dX5_readsDriver_95 : decode cX5_readsDriver 95 = .ok (.iinc 3 1, 3) := by decide +kernel
theorem dX5_readsDriver_98 : decode cX5_readsDriver 98 = .ok (.goto (-67), 3) := by decide +kernel
theorem dX5_readsDriver_101 : decode cX5_readsDriver 101 = .ok (.iconst 1, 1) := by decide +kernel
theorem dX5_readsDriver_102 : decode cX5_readsDriver 102 = .ok (.ireturn, 1) := by decide +kernel
theorem dX5_readsThing_0 : decode cX5_readsThing 0 = .ok (.aload_n 0, 1) := by decide +kernel
theorem dX5_readsThing_1 : decode cX5_readsThing 1 = .ok (.iconst 0, 1) := by decide +kernel
theorem dX5_readsThing_2 : decode cX5_readsThing 2 = .ok (.iconst 2, 1) := by decide +kernel
theorem dX5_readsThing_3 : decode cX5_readsThing 3 = .ok (.invokevirtual 207, 3) := by decide +kernel
theorem dX5_readsThing_6 : decode cX5_readsThing 6 = .ok (.istore_n 2, 1) := by decide +kernel
theorem dX5_readsThing_7 : decode cX5_readsThing 7 = .ok (.iload_n 2, 1) := by decide +kernel
theorem dX5_readsThing_8 : decode cX5_readsThing 8 = .ok (.ifCond .ge 7, 3) := by decide +kernel
theorem dX5_readsThing_11 : decode cX5_readsThing 11 = .ok (.iconst (-1), 1) := by decide +kernel
theorem dX5_readsThing_12 : decode cX5_readsThing 12 = .ok (.goto 10, 3) := by decide +kernel
theorem dX5_readsThing_15 : decode cX5_readsThing 15 = .ok (.aload_n 0, 1) := by decide +kernel
theorem dX5_readsThing_16 : decode cX5_readsThing 16 = .ok (.iconst 0, 1) := by decide +kernel
theorem dX5_readsThing_17 : decode cX5_readsThing 17 = .ok (.bipush 19, 2) := by decide +kernel
theorem dX5_readsThing_19 : decode cX5_readsThing 19 = .ok (.invokevirtual 207, 3) := by decide +kernel
theorem dX5_readsThing_22 : decode cX5_readsThing 22 = .ok (.istore_n 3, 1) := by decide +kernel
theorem dX5_readsThing_23 : decode cX5_readsThing 23 = .ok (.iload_n 3, 1) := by decide +kernel
theorem dX5_readsThing_24 : decode cX5_readsThing 24 = .ok (.ifCond .lt 10, 3) := by decide +kernel
theorem dX5_readsThing_27 : decode cX5_readsThing 27 = .ok (.aload_n 0, 1) := by decide +kernel
theorem dX5_readsThing_28 : decode cX5_readsThing 28 = .ok (.iload_n 2, 1) := by decide +kernel
theorem dX5_readsThing_29 : decode cX5_readsThing 29 = .ok (.iload_n 3, 1) := by decide +kernel
theorem dX5_readsThing_30 : decode cX5_readsThing 30 = .ok (.iload_n 1, 1) := by decide +kernel
theorem dX5_readsThing_31 : decode cX5_readsThing 31 = .ok (.invokevirtual 121, 3) := by decide +kernel
theorem dX5_readsThing_34 : decode cX5_readsThing 34 = .ok (.iload_n 3, 1) := by decide +kernel
theorem dX5_readsThing_35 : decode cX5_readsThing 35 = .ok (.ifCond .lt 7, 3) := by decide +kernel
theorem dX5_readsThing_38 : decode cX5_readsThing 38 = .ok (.iconst 1, 1) := by decide +kernel
theorem dX5_readsThing_39 : decode cX5_readsThing 39 = .ok (.goto 4, 3) := by decide +kernel
theorem dX5_readsThing_42 : decode cX5_readsThing 42 = .ok (.iconst 0, 1) := by decide +kernel
theorem dX5_readsThing_43 : decode cX5_readsThing 43 = .ok (.ireturn, 1) := by decide +kernel
theorem dX5_readsItem_0 : decode cX5_readsItem 0 = .ok (.aload_n 0, 1) := by decide +kernel
theorem dX5_readsItem_1 : decode cX5_readsItem 1 = .ok (.aload_n 0, 1) := by decide +kernel
theorem dX5_readsItem_2 : decode cX5_readsItem 2 = .ok (.getfield 28, 3) := by decide +kernel
theorem dX5_readsItem_5 : decode cX5_readsItem 5 = .ok (.invokevirtual 203, 3) := by decide +kernel
theorem dX5_readsItem_8 : decode cX5_readsItem 8 = .ok (.istore_n 1, 1) := by decide +kernel
theorem dX5_readsItem_9 : decode cX5_readsItem 9 = .ok (.iload_n 1, 1) := by decide +kernel
theorem dX5_readsItem_10 : decode cX5_readsItem 10 = .ok (.ifCond .lt 9, 3) := by decide +kernel
theorem dX5_readsItem_13 : decode cX5_readsItem 13 = .ok (.aload_n 0, 1) := by decide +kernel
theorem dX5_readsItem_14 : decode cX5_readsItem 14 = .ok (.iload_n 1, 1) := by decide +kernel
theorem dX5_readsItem_15 : decode cX5_readsItem 15 = .ok (.invokevirtual 210, 3) := by decide +kernel
theorem dX5_readsItem_18 : decode cX5_readsItem 18 = .ok (.ireturn, 1) := by decide +kernel
theorem dX5_readsItem_19 : decode cX5_readsItem 19 = .ok (.aload_n 0, 1) := by decide +kernel
theorem dX5_readsItem_20 : decode cX5_readsItem 20 = .ok (.aload_n 0, 1) := by decide +kernel
theorem dX5_readsItem_21 : decode cX5_readsItem 21 = .ok (.getfield 35, 3) := by decide +kernel
theorem dX5_readsItem_24 : decode cX5_readsItem 24 = .ok (.invokevirtual 203, 3) := by decide +kernel
theorem dX5_readsItem_27 : decode cX5_readsItem 27 = .ok (.istore_n 2, 1) := by decide +kernel
theorem dX5_readsItem_28 : decode cX5_readsItem 28 = .ok (.iload_n 2, 1) := by decide +kernel
theorem dX5_readsItem_29 : decode cX5_readsItem 29 = .ok (.ifCond .ge 5, 3) := by decide +kernel
theorem dX5_readsItem_32 : decode cX5_readsItem 32 = .ok (.iconst 0, 1) := by decide +kernel
theorem dX5_readsItem_33 : decode cX5_readsItem 33 = .ok (.ireturn, 1) := by decide +kernel
theorem dX5_readsItem_34 : decode cX5_readsItem 34 = .ok (.aload_n 0, 1) := by decide +kernel
theorem dX5_readsItem_35 : decode cX5_readsItem 35 = .ok (.invokevirtual 200, 3) := by decide +kernel
theorem dX5_readsItem_38 : decode cX5_readsItem 38 = .ok (.iload_n 2, 1) := by decide +kernel
theorem dX5_readsItem_39 : decode cX5_readsItem 39 = .ok (.iconst 5, 1) := by decide +kernel
theorem dX5_readsItem_40 : decode cX5_readsItem 40 = .ok (.if_icmp .ge 9, 3) := by decide +kernel
theorem dX5_readsItem_43 : decode cX5_readsItem 43 = .ok (.aload_n 0, 1) := by decide +kernel
theorem dX5_readsItem_44 : decode cX5_readsItem 44 = .ok (.iload_n 2, 1) := by decide +kernel
theorem dX5_readsItem_45 : decode cX5_readsItem 45 = .ok (.invokevirtual 213, 3) := by decide +kernel
theorem dX5_readsItem_48 : decode cX5_readsItem 48 = .ok (.ireturn, 1) := by decide +kernel
theorem dX5_readsItem_49 : decode cX5_readsItem 49 = .ok (.aload_n 0, 1) := by decide +kernel
theorem dX5_readsItem_50 : decode cX5_readsItem 50 = .ok (.iconst 1, 1) := by decide +kernel
theorem dX5_readsItem_51 : decode cX5_readsItem 51 = .ok (.bipush 6, 2) := by decide +kernel
theorem dX5_readsItem_53 : decode cX5_readsItem 53 = .ok (.invokevirtual 207, 3) := by decide +kernel
theorem dX5_readsItem_56 : decode cX5_readsItem 56 = .ok (.istore_n 3, 1) := by decide +kernel
theorem dX5_readsItem_57 : decode cX5_readsItem 57 = .ok (.aload_n 0, 1) := by decide +kernel
theorem dX5_readsItem_58 : decode cX5_readsItem 58 = .ok (.getfield 9, 3) := by decide +kernel
theorem dX5_readsItem_61 : decode cX5_readsItem 61 = .ok (.iconst 1, 1) := by decide +kernel
theorem dX5_readsItem_62 : decode cX5_readsItem 62 = .ok (.iload_n 3, 1) := by decide +kernel
theorem dX5_readsItem_63 : decode cX5_readsItem 63 = .ok (.ifCond .ge 12, 3) := by decide +kernel
theorem dX5_readsItem_66 : decode cX5_readsItem 66 = .ok (.aload_n 0, 1) := by decide +kernel
theorem dX5_readsItem_67 : decode cX5_readsItem 67 = .ok (.getfield 9, 3) := by decide +kernel
theorem dX5_readsItem_70 : decode cX5_readsItem 70 = .ok (.iconst 1, 1) := by decide +kernel
theorem dX5_readsItem_71 : decode cX5_readsItem 71 = .ok (.iaload, 1) := by decide +kernel
theorem dX5_readsItem_72 : decode cX5_readsItem 72 = .ok (.goto 4, 3) := by decide +kernel
theorem dX5_readsItem_75 : decode cX5_readsItem 75 = .ok (.iload_n 3, 1) := by decide +kernel
theorem dX5_readsItem_76 : decode cX5_readsItem 76 = .ok (.iastore, 1) := by decide +kernel
theorem dX5_readsItem_77 : decode cX5_readsItem 77 = .ok (.iload_n 3, 1) := by decide +kernel
theorem dX5_readsItem_78 : decode cX5_readsItem 78 = .ok (.ifCond .lt 7, 3) := by decide +kernel
theorem dX5_readsItem_81 : decode cX5_readsItem 81 = .ok (.iconst 1, 1) := by decide +kernel
theorem dX5_readsItem_82 : decode cX5_readsItem 82 = .ok (.goto 4, 3) := by decide +kernel
theorem dX5_readsItem_85 : decode cX5_readsItem 85 = .ok (.iconst 0, 1) := by decide +kernel
theorem dX5_readsItem_86 : decode cX5_readsItem 86 = .ok (.ireturn, 1) := by decide +kernel
theorem dX5_town_0 : decode cX5_town 0 = .ok (.aload_n 0, 1) := by decide +kernel
theorem dX5_town_1 : decode cX5_town 1 = .ok (.invokevirtual 153, 3) := by decide +kernel
theorem dX5_town_4 : decode cX5_town 4 = .ok (.aload_n 0, 1) := by decide +kernel
theorem dX5_town_5 : decode cX5_town 5 = .ok (.iconst 0, 1) := by decide +kernel
theorem dX5_town_6 : decode cX5_town 6 = .ok (.putfield 169, 3) := by decide +kernel
theorem dX5_town_9 : decode cX5_town 9 = .ok (.aload_n 0, 1) := by decide +kernel
theorem dX5_town_10 : decode cX5_town 10 = .ok (.invokevirtual 200, 3) := by decide +kernel
theorem dX5_town_13 : decode cX5_town 13 = .ok (.iconst 1, 1) := by decide +kernel
theorem dX5_town_14 : decode cX5_town 14 = .ok (.istore_n 1, 1) := by decide +kernel
theorem dX5_town_15 : decode cX5_town 15 = .ok (.aload_n 0, 1) := by decide +kernel
theorem dX5_town_16 : decode cX5_town 16 = .ok (.invokevirtual 216, 3) := by decide +kernel
theorem dX5_town_19 : decode cX5_town 19 = .ok (.istore_n 2, 1) := by decide +kernel
theorem dX5_town_20 : decode cX5_town 20 = .ok (.iload_n 2, 1) := by decide +kernel
theorem dX5_town_21 : decode cX5_town 21 = .ok (.ifCond .eq 26, 3) := by decide +kernel
theorem dX5_town_24 : decode cX5_town 24 = .ok (.aload_n 0, 1) := by decide +kernel
theorem dX5_town_25 : decode cX5_town 25 = .ok (.getfield 179, 3) := by decide +kernel
theorem dX5_town_28 : decode cX5_town 28 = .ok (.iconst 3, 1) := by decide +kernel
theorem dX5_town_29 : decode cX5_town 29 = .ok (.if_icmp .ne 18, 3) := by decide +kernel
theorem dX5_town_32 : decode cX5_town 32 = .ok (.aload_n 0, 1) := by decide +kernel
theorem dX5_town_33 : decode cX5_town 33 = .ok (.invokevirtual 200, 3) := by decide +kernel
theorem dX5_town_36 : decode cX5_town 36 = .ok (.aload_n 0, 1) := by decide +kernel
theorem dX5_town_37 : decode cX5_town 37 = .ok (.invokevirtual 216, 3) := by decide +kernel
theorem dX5_town_40 : decode cX5_town 40 = .ok (.istore_n 2, 1) := by decide +kernel
theorem dX5_town_41 : decode cX5_town 41 = .ok (.iinc 1 1, 3) := by decide +kernel
theorem dX5_town_44 : decode cX5_town 44 = .ok (.goto (-24), 3) := by decide +kernel
theorem dX5_town_47 : decode cX5_town 47 = .ok (.iload_n 2, 1) := by decide +kernel
theorem dX5_town_48 : decode cX5_town 48 = .ok (.ifCond .eq 14, 3) := by decide +kernel
theorem dX5_town_51 : decode cX5_town 51 = .ok (.aload_n 0, 1) := by decide +kernel
theorem dX5_town_52 : decode cX5_town 52 = .ok (.getfield 179, 3) := by decide +kernel
theorem dX5_town_55 : decode cX5_town 55 = .ok (.ifCond .ne 7, 3) := by decide +kernel
theorem dX5_town_58 : decode cX5_town 58 = .ok (.iconst 1, 1) := by decide +kernel
theorem dX5_town_59 : decode cX5_town 59 = .ok (.goto 4, 3) := by decide +kernel
theorem dX5_town_62 : decode cX5_town 62 = .ok (.iconst 0, 1) := by decide +kernel
theorem dX5_town_63 : decode cX5_town 63 = .ok (.istore_n 2, 1) := by decide +kernel
theorem dX5_town_64 : decode cX5_town 64 = .ok (.aload_n 0, 1) := by decide +kernel
theorem dX5_town_65 : decode cX5_town 65 = .ok (.iconst 0, 1) := by decide +kernel
theorem dX5_town_66 : decode cX5_town 66 = .ok (.putfield 166, 3) := by decide +kernel
theorem dX5_town_69 : decode cX5_town 69 = .ok (.iload_n 2, 1) := by decide +kernel
theorem dX5_town_70 : decode cX5_town 70 = .ok (.ifCond .ne 14, 3) := by decide +kernel
theorem dX5_town_73 : decode cX5_town 73 = .ok (.aload_n 0, 1) := by decide +kernel
theorem dX5_town_74 : decode cX5_town 74 = .ok (.invokevirtual 156, 3) := by decide +kernel
theorem dX5_town_77 : decode cX5_town 77 = .ok (.iconst (-1), 1) := by decide +kernel
theorem dX5_town_78 : decode cX5_town 78 = .ok (.aload_n 0, 1) := by decide +kernel
theorem dX5_town_79 : decode cX5_town 79 = .ok (.getfield 172, 3) := by decide +kernel
theorem dX5_town_82 : decode cX5_town 82 = .ok (.isub, 1) := by decide +kernel
theorem dX5_town_83 : decode cX5_town 83 = .ok (.ireturn, 1) := by decide +kernel
theorem dX5_town_84 : decode cX5_town 84 = .ok (.iload_n 1, 1) := by decide +kernel
theorem dX5_town_85 : decode cX5_town 85 = .ok (.ireturn, 1) := by decide +kernel
theorem dX5_isSheet_0 : decode cX5_isSheet 0 = .ok (.iload_n 0, 1) := by decide +kernel
theorem dX5_isSheet_1 : decode cX5_isSheet 1 = .ok (.iconst 0, 1) := by decide +kernel
theorem dX5_isSheet_2 : decode cX5_isSheet 2 = .ok (.iconst 3, 1) := by decide +kernel
theorem dX5_isSheet_3 : decode cX5_isSheet 3 = .ok (.invokestatic 52, 3) := by decide +kernel
theorem dX5_isSheet_6 : decode cX5_isSheet 6 = .ok (.ireturn, 1) := by decide +kernel
theorem dX5_wrongSheet_0 : decode cX5_wrongSheet 0 = .ok (.iload_n 1, 1) := by decide +kernel
theorem dX5_wrongSheet_1 : decode cX5_wrongSheet 1 = .ok (.invokestatic 220, 3) := by decide +kernel
theorem dX5_wrongSheet_4 : decode cX5_wrongSheet 4 = .ok (.ifCond .ne 7, 3) := by decide +kernel
theorem dX5_wrongSheet_7 : decode cX5_wrongSheet 7 = .ok (.iconst 0, 1) := by decide +kernel
theorem dX5_wrongSheet_8 : decode cX5_wrongSheet 8 = .ok (.goto 17, 3) := by decide +kernel
theorem dX5_wrongSheet_11 : decode cX5_wrongSheet 11 = .ok (.aload_n 0, 1) := by decide +kernel
theorem dX5_wrongSheet_12 : decode cX5_wrongSheet 12 = .ok (.getfield 38, 3) := by decide +kernel
theorem dX5_wrongSheet_15 : decode cX5_wrongSheet 15 = .ok (.iload_n 1, 1) := by decide +kernel
theorem dX5_wrongSheet_16 : decode cX5_wrongSheet 16 = .ok (.iaload, 1) := by decide +kernel
theorem dX5_wrongSheet_17 : decode cX5_wrongSheet 17 = .ok (.ifCond .ne 7, 3) := by decide +kernel
theorem dX5_wrongSheet_20 : decode cX5_wrongSheet 20 = .ok (.iconst 5, 1) := by decide +kernel
theorem dX5_wrongSheet_21 : decode cX5_wrongSheet 21 = .ok (.goto 4, 3) := by decide +kernel
theorem dX5_wrongSheet_24 : decode cX5_wrongSheet 24 = .ok (.iconst (-1), 1) := by decide +kernel
theorem dX5_wrongSheet_25 : decode cX5_wrongSheet 25 = .ok (.ireturn, 1) := by decide +kernel
theorem dX5_told_0 : decode cX5_told 0 = .ok (.aload_n 0, 1) := by decide +kernel
theorem dX5_told_1 : decode cX5_told 1 = .ok (.getfield 44, 3) := by decide +kernel
theorem dX5_told_4 : decode cX5_told 4 = .ok (.bipush 40, 2) := by decide +kernel
theorem dX5_told_6 : decode cX5_told 6 = .ok (.iload_n 1, 1) := by decide +kernel
theorem dX5_told_7 : decode cX5_told 7 = .ok (.imul, 1) := by decide +kernel
theorem dX5_told_8 : decode cX5_told 8 = .ok (.iload_n 2, 1) := by decide +kernel
theorem dX5_told_9 : decode cX5_told 9 = .ok (.iadd, 1) := by decide +kernel
theorem dX5_told_10 : decode cX5_told 10 = .ok (.laload, 1) := by decide +kernel
theorem dX5_told_11 : decode cX5_told 11 = .ok (.lreturn, 1) := by decide +kernel
theorem dX5_tells_0 : decode cX5_tells 0 = .ok (.aload_n 0, 1) := by decide +kernel
theorem dX5_tells_1 : decode cX5_tells 1 = .ok (.getfield 44, 3) := by decide +kernel
theorem dX5_tells_4 : decode cX5_tells 4 = .ok (.bipush 40, 2) := by decide +kernel
theorem dX5_tells_6 : decode cX5_tells 6 = .ok (.iload_n 1, 1) := by decide +kernel
theorem dX5_tells_7 : decode cX5_tells 7 = .ok (.imul, 1) := by decide +kernel
theorem dX5_tells_8 : decode cX5_tells 8 = .ok (.iload_n 2, 1) := by decide +kernel
theorem dX5_tells_9 : decode cX5_tells 9 = .ok (.iadd, 1) := by decide +kernel
theorem dX5_tells_10 : decode cX5_tells 10 = .ok (.aload_n 0, 1) := by decide +kernel
theorem dX5_tells_11 : decode cX5_tells 11 = .ok (.getfield 38, 3) := by decide +kernel
theorem dX5_tells_14 : decode cX5_tells 14 = .ok (.iload_n 1, 1) := by decide +kernel
theorem dX5_tells_15 : decode cX5_tells 15 = .ok (.iaload, 1) := by decide +kernel
theorem dX5_tells_16 : decode cX5_tells 16 = .ok (.bipush 8, 2) := by decide +kernel
theorem dX5_tells_18 : decode cX5_tells 18 = .ok (.if_icmp .ne 10, 3) := by decide +kernel
theorem dX5_tells_21 : decode cX5_tells 21 = .ok (.lload_n 3, 1) := by decide +kernel
theorem dX5_tells_22 : decode cX5_tells 22 = .ok (.l2i, 1) := by decide +kernel
theorem dX5_tells_23 : decode cX5_tells 23 = .ok (.i2b, 1) := by decide +kernel
theorem dX5_tells_24 : decode cX5_tells 24 = .ok (.i2l, 1) := by decide +kernel
theorem dX5_tells_25 : decode cX5_tells 25 = .ok (.goto 22, 3) := by decide +kernel
theorem dX5_tells_28 : decode cX5_tells 28 = .ok (.aload_n 0, 1) := by decide +kernel
theorem dX5_tells_29 : decode cX5_tells 29 = .ok (.getfield 38, 3) := by decide +kernel
theorem dX5_tells_32 : decode cX5_tells 32 = .ok (.iload_n 1, 1) := by decide +kernel
theorem dX5_tells_33 : decode cX5_tells 33 = .ok (.iaload, 1) := by decide +kernel
theorem dX5_tells_34 : decode cX5_tells 34 = .ok (.bipush 16, 2) := by decide +kernel
theorem dX5_tells_36 : decode cX5_tells 36 = .ok (.if_icmp .ne 10, 3) := by decide +kernel
theorem dX5_tells_39 : decode cX5_tells 39 = .ok (.lload_n 3, 1) := by decide +kernel
theorem dX5_tells_40 : decode cX5_tells 40 = .ok (.l2i, 1) := by decide +kernel
theorem dX5_tells_41 : decode cX5_tells 41 = .ok (.i2s, 1) := by decide +kernel
theorem dX5_tells_42 : decode cX5_tells 42 = .ok (.i2l, 1) := by decide +kernel
theorem dX5_tells_43 : decode cX5_tells 43 = .ok (.goto 4, 3) := by decide +kernel
theorem dX5_tells_46 : decode cX5_tells 46 = .ok (.lload_n 3, 1) := by decide +kernel
theorem dX5_tells_47 : decode cX5_tells 47 = .ok (.lastore, 1) := by decide +kernel
theorem dX5_tells_48 : decode cX5_tells 48 = .ok (.return_, 1) := by decide +kernel
theorem dX5_sheet_0 : decode cX5_sheet 0 = .ok (.iload_n 1, 1) := by decide +kernel
theorem dX5_sheet_1 : decode cX5_sheet 1 = .ok (.invokestatic 220, 3) := by decide +kernel
theorem dX5_sheet_4 : decode cX5_sheet 4 = .ok (.ifCond .eq 25, 3) := by decide +kernel
theorem dX5_sheet_7 : decode cX5_sheet 7 = .ok (.iload_n 2, 1) := by decide +kernel
theorem dX5_sheet_8 : decode cX5_sheet 8 = .ok (.ifCond .eq 27, 3) := by decide +kernel
theorem dX5_sheet_11 : decode cX5_sheet 11 = .ok (.iload_n 2, 1) := by decide +kernel
theorem dX5_sheet_12 : decode cX5_sheet 12 = .ok (.bipush 8, 2) := by decide +kernel
theorem dX5_sheet_14 : decode cX5_sheet 14 = .ok (.if_icmp .eq 21, 3) := by decide +kernel
theorem dX5_sheet_17 : decode cX5_sheet 17 = .ok (.iload_n 2, 1) := by decide +kernel
theorem dX5_sheet_18 : decode cX5_sheet 18 = .ok (.bipush 16, 2) := by decide +kernel
theorem dX5_sheet_20 : decode cX5_sheet 20 = .ok (.if_icmp .eq 15, 3) := by decide +kernel
theorem dX5_sheet_23 : decode cX5_sheet 23 = .ok (.iload_n 2, 1) := by decide +kernel
theorem dX5_sheet_24 : decode cX5_sheet 24 = .ok (.bipush 64, 2) := by decide +kernel
theorem dX5_sheet_26 : decode cX5_sheet 26 = .ok (.if_icmp .eq 9, 3) := by decide +kernel
theorem dX5_sheet_29 : decode cX5_sheet 29 = .ok (.aload_n 0, 1) := by decide +kernel
theorem dX5_sheet_30 : decode cX5_sheet 30 = .ok (.iconst 0, 1) := by decide +kernel
theorem dX5_sheet_31 : decode cX5_sheet 31 = .ok (.invokevirtual 118, 3) := by decide +kernel
theorem dX5_sheet_34 : decode cX5_sheet 34 = .ok (.ireturn, 1) := by decide +kernel
theorem dX5_sheet_35 : decode cX5_sheet 35 = .ok (.iload_n 3, 1) := by decide +kernel
theorem dX5_sheet_36 : decode cX5_sheet 36 = .ok (.ifCond .ge 10, 3) := by decide +kernel
theorem dX5_sheet_39 : decode cX5_sheet 39 = .ok (.aload_n 0, 1) := by decide +kernel
theorem dX5_sheet_40 : decode cX5_sheet 40 = .ok (.bipush 6, 2) := by decide +kernel
theorem dX5_sheet_42 : decode cX5_sheet 42 = .ok (.invokevirtual 118, 3) := by decide +kernel
theorem dX5_sheet_45 : decode cX5_sheet 45 = .ok (.ireturn, 1) := by decide +kernel
theorem dX5_sheet_46 : decode cX5_sheet 46 = .ok (.iload_n 3, 1) := by decide +kernel
theorem dX5_sheet_47 : decode cX5_sheet 47 = .ok (.bipush 40, 2) := by decide +kernel
theorem dX5_sheet_49 : decode cX5_sheet 49 = .ok (.if_icmp .le 9, 3) := by decide +kernel
theorem dX5_sheet_52 : decode cX5_sheet 52 = .ok (.aload_n 0, 1) := by decide +kernel
theorem dX5_sheet_53 : decode cX5_sheet 53 = .ok (.iconst 0, 1) := by decide +kernel
theorem dX5_sheet_54 : decode cX5_sheet 54 = .ok (.invokevirtual 118, 3) := by decide +kernel
theorem dX5_sheet_57 : decode cX5_sheet 57 = .ok (.ireturn, 1) := by decide +kernel
theorem dX5_sheet_58 : decode cX5_sheet 58 = .ok (.aload_n 0, 1) := by decide +kernel
theorem dX5_sheet_59 : decode cX5_sheet 59 = .ok (.getfield 38, 3) := by decide +kernel
theorem dX5_sheet_62 : decode cX5_sheet 62 = .ok (.iload_n 1, 1) := by decide +kernel
theorem dX5_sheet_63 : decode cX5_sheet 63 = .ok (.iload_n 2, 1) := by decide +kernel
theorem dX5_sheet_64 : decode cX5_sheet 64 = .ok (.iastore, 1) := by decide +kernel
theorem dX5_sheet_65 : decode cX5_sheet 65 = .ok (.aload_n 0, 1) := by decide +kernel
theorem dX5_sheet_66 : decode cX5_sheet 66 = .ok (.getfield 41, 3) := by decide +kernel
theorem dX5_sheet_69 : decode cX5_sheet 69 = .ok (.iload_n 1, 1) := by decide +kernel
theorem dX5_sheet_70 : decode cX5_sheet 70 = .ok (.iload_n 2, 1) := by decide +kernel
theorem dX5_sheet_71 : decode cX5_sheet 71 = .ok (.ifCond .ne 7, 3) := by decide +kernel
theorem dX5_sheet_74 : decode cX5_sheet 74 = .ok (.iconst 0, 1) := by decide +kernel
theorem dX5_sheet_75 : decode cX5_sheet 75 = .ok (.goto 4, 3) := by decide +kernel
theorem dX5_sheet_78 : decode cX5_sheet 78 = .ok (.iload_n 3, 1) := by decide +kernel
theorem dX5_sheet_79 : decode cX5_sheet 79 = .ok (.iastore, 1) := by decide +kernel
theorem dX5_sheet_80 : decode cX5_sheet 80 = .ok (.iconst 0, 1) := by decide +kernel
theorem dX5_sheet_81 : decode cX5_sheet 81 = .ok (.istore 4, 2) := by decide +kernel
theorem dX5_sheet_83 : decode cX5_sheet 83 = .ok (.iload 4, 2) := by decide +kernel
theorem dX5_sheet_85 : decode cX5_sheet 85 = .ok (.bipush 40, 2) := by decide +kernel
theorem dX5_sheet_87 : decode cX5_sheet 87 = .ok (.if_icmp .ge 22, 3) := by decide +kernel
theorem dX5_sheet_90 : decode cX5_sheet 90 = .ok (.aload_n 0, 1) := by decide +kernel
theorem dX5_sheet_91 : decode cX5_sheet 91 = .ok (.getfield 44, 3) := by decide +kernel
theorem dX5_sheet_94 : decode cX5_sheet 94 = .ok (.bipush 40, 2) := by decide +kernel
theorem dX5_sheet_96 : decode cX5_sheet 96 = .ok (.iload_n 1, 1) := by decide +kernel
theorem dX5_sheet_97 : decode cX5_sheet 97 = .ok (.imul, 1) := by decide +kernel
theorem dX5_sheet_98 : decode cX5_sheet 98 = .ok (.iload 4, 2) := by decide +kernel
theorem dX5_sheet_100 : decode cX5_sheet 100 = .ok (.iadd, 1) := by decide +kernel
theorem dX5_sheet_101 : decode cX5_sheet 101 = .ok (.lconst 0, 1) := by decide +kernel
theorem dX5_sheet_102 : decode cX5_sheet 102 = .ok (.lastore, 1) := by decide +kernel
theorem dX5_sheet_103 : decode cX5_sheet 103 = .ok (.iinc 4 1, 3) := by decide +kernel
theorem dX5_sheet_106 : decode cX5_sheet 106 = .ok (.goto (-23), 3) := by decide +kernel
theorem dX5_sheet_109 : decode cX5_sheet 109 = .ok (.aload_n 0, 1) := by decide +kernel
theorem dX5_sheet_110 : decode cX5_sheet 110 = .ok (.getfield 41, 3) := by decide +kernel
theorem dX5_sheet_113 : decode cX5_sheet 113 = .ok (.iload_n 1, 1) := by decide +kernel
theorem dX5_sheet_114 : decode cX5_sheet 114 = .ok (.iaload, 1) := by decide +kernel
theorem dX5_sheet_115 : decode cX5_sheet 115 = .ok (.ireturn, 1) := by decide +kernel
theorem dX5_write_0 : decode cX5_write 0 = .ok (.aload_n 0, 1) := by decide +kernel
theorem dX5_write_1 : decode cX5_write 1 = .ok (.iload_n 1, 1) := by decide +kernel
theorem dX5_write_2 : decode cX5_write 2 = .ok (.invokevirtual 223, 3) := by decide +kernel
theorem dX5_write_5 : decode cX5_write 5 = .ok (.istore 5, 2) := by decide +kernel
theorem dX5_write_7 : decode cX5_write 7 = .ok (.iload 5, 2) := by decide +kernel
theorem dX5_write_9 : decode cX5_write 9 = .ok (.ifCond .ge 22, 3) := by decide +kernel
theorem dX5_write_12 : decode cX5_write 12 = .ok (.iload_n 2, 1) := by decide +kernel
theorem dX5_write_13 : decode cX5_write 13 = .ok (.iconst 0, 1) := by decide +kernel
theorem dX5_write_14 : decode cX5_write 14 = .ok (.aload_n 0, 1) := by decide +kernel
theorem dX5_write_15 : decode cX5_write 15 = .ok (.getfield 41, 3) := by decide +kernel
theorem dX5_write_18 : decode cX5_write 18 = .ok (.iload_n 1, 1) := by decide +kernel
theorem dX5_write_19 : decode cX5_write 19 = .ok (.iaload, 1) := by decide +kernel
theorem dX5_write_20 : decode cX5_write 20 = .ok (.iconst 1, 1) := by decide +kernel
theorem dX5_write_21 : decode cX5_write 21 = .ok (.isub, 1) := by decide +kernel
theorem dX5_write_22 : decode cX5_write 22 = .ok (.invokestatic 52, 3) := by decide +kernel
theorem dX5_write_25 : decode cX5_write 25 = .ok (.ifCond .ne 6, 3) := by decide +kernel
theorem dX5_write_28 : decode cX5_write 28 = .ok (.iconst 0, 1) := by decide +kernel
theorem dX5_write_29 : decode cX5_write 29 = .ok (.istore 5, 2) := by decide +kernel
theorem dX5_write_31 : decode cX5_write 31 = .ok (.iload 5, 2) := by decide +kernel
theorem dX5_write_33 : decode cX5_write 33 = .ok (.ifCond .lt 11, 3) := by decide +kernel
theorem dX5_write_36 : decode cX5_write 36 = .ok (.aload_n 0, 1) := by decide +kernel
theorem dX5_write_37 : decode cX5_write 37 = .ok (.iload 5, 2) := by decide +kernel
theorem dX5_write_39 : decode cX5_write 39 = .ok (.invokevirtual 118, 3) := by decide +kernel
theorem dX5_write_42 : decode cX5_write 42 = .ok (.i2l, 1) := by decide +kernel
theorem dX5_write_43 : decode cX5_write 43 = .ok (.lreturn, 1) := by decide +kernel
theorem dX5_write_44 : decode cX5_write 44 = .ok (.aload_n 0, 1) := by decide +kernel
theorem dX5_write_45 : decode cX5_write 45 = .ok (.iload_n 1, 1) := by decide +kernel
theorem dX5_write_46 : decode cX5_write 46 = .ok (.iload_n 2, 1) := by decide +kernel
theorem dX5_write_47 : decode cX5_write 47 = .ok (.invokevirtual 226, 3) := by decide +kernel
theorem dX5_write_50 : decode cX5_write 50 = .ok (.lstore 6, 2) := by decide +kernel
theorem dX5_write_52 : decode cX5_write 52 = .ok (.aload_n 0, 1) := by decide +kernel
theorem dX5_write_53 : decode cX5_write 53 = .ok (.iload_n 1, 1) := by decide +kernel
theorem dX5_write_54 : decode cX5_write 54 = .ok (.iload_n 2, 1) := by decide +kernel
theorem dX5_write_55 : decode cX5_write 55 = .ok (.lload_n 3, 1) := by decide +kernel
theorem dX5_write_56 : decode cX5_write 56 = .ok (.invokevirtual 230, 3) := by decide +kernel
theorem dX5_write_59 : decode cX5_write 59 = .ok (.lload 6, 2) := by decide +kernel
theorem dX5_write_61 : decode cX5_write 61 = .ok (.lreturn, 1) := by decide +kernel
theorem dX5_copy_0 : decode cX5_copy 0 = .ok (.iload_n 1, 1) := by decide +kernel
theorem dX5_copy_1 : decode cX5_copy 1 = .ok (.invokestatic 220, 3) := by decide +kernel
theorem dX5_copy_4 : decode cX5_copy 4 = .ok (.ifCond .eq 10, 3) := by decide +kernel
theorem dX5_copy_7 : decode cX5_copy 7 = .ok (.iload_n 3, 1) := by decide +kernel
theorem dX5_copy_8 : decode cX5_copy 8 = .ok (.invokestatic 220, 3) := by decide +kernel
theorem dX5_copy_11 : decode cX5_copy 11 = .ok (.ifCond .ne 9, 3) := by decide +kernel
theorem dX5_copy_14 : decode cX5_copy 14 = .ok (.aload_n 0, 1) := by decide +kernel
theorem dX5_copy_15 : decode cX5_copy 15 = .ok (.iconst 0, 1) := by decide +kernel
theorem dX5_copy_16 : decode cX5_copy 16 = .ok (.invokevirtual 118, 3) := by decide +kernel
theorem dX5_copy_19 : decode cX5_copy 19 = .ok (.ireturn, 1) := by decide +kernel
theorem dX5_copy_20 : decode cX5_copy 20 = .ok (.aload_n 0, 1) := by decide +kernel
theorem dX5_copy_21 : decode cX5_copy 21 = .ok (.getfield 38, 3) := by decide +kernel
theorem dX5_copy_24 : decode cX5_copy 24 = .ok (.iload_n 1, 1) := by decide +kernel
theorem dX5_copy_25 : decode cX5_copy 25 = .ok (.iaload, 1) := by decide +kernel
theorem dX5_copy_26 : decode cX5_copy 26 = .ok (.ifCond .eq 12, 3) := by decide +kernel
theorem dX5_copy_29 : decode cX5_copy 29 = .ok (.aload_n 0, 1) := by decide +kernel
theorem dX5_copy_30 : decode cX5_copy 30 = .ok (.getfield 38, 3) := by decide +kernel
theorem dX5_copy_33 : decode cX5_copy 33 = .ok (.iload_n 3, 1) := by decide +kernel
theorem dX5_copy_34 : decode cX5_copy 34 = .ok (.iaload, 1) := by decide +kernel
theorem dX5_copy_35 : decode cX5_copy 35 = .ok (.ifCond .ne 9, 3) := by decide +kernel
theorem dX5_copy_38 : decode cX5_copy 38 = .ok (.aload_n 0, 1) := by decide +kernel
theorem dX5_copy_39 : decode cX5_copy 39 = .ok (.iconst 5, 1) := by decide +kernel
theorem dX5_copy_40 : decode cX5_copy 40 = .ok (.invokevirtual 118, 3) := by decide +kernel
theorem dX5_copy_43 : decode cX5_copy 43 = .ok (.ireturn, 1) := by decide +kernel
theorem dX5_copy_44 : decode cX5_copy 44 = .ok (.aload_n 0, 1) := by decide +kernel
theorem dX5_copy_45 : decode cX5_copy 45 = .ok (.getfield 38, 3) := by decide +kernel
theorem dX5_copy_48 : decode cX5_copy 48 = .ok (.iload_n 1, 1) := by decide +kernel
theorem dX5_copy_49 : decode cX5_copy 49 = .ok (.iaload, 1) := by decide +kernel
theorem dX5_copy_50 : decode cX5_copy 50 = .ok (.aload_n 0, 1) := by decide +kernel
theorem dX5_copy_51 : decode cX5_copy 51 = .ok (.getfield 38, 3) := by decide +kernel
theorem dX5_copy_54 : decode cX5_copy 54 = .ok (.iload_n 3, 1) := by decide +kernel
theorem dX5_copy_55 : decode cX5_copy 55 = .ok (.iaload, 1) := by decide +kernel
theorem dX5_copy_56 : decode cX5_copy 56 = .ok (.if_icmp .eq 9, 3) := by decide +kernel
theorem dX5_copy_59 : decode cX5_copy 59 = .ok (.aload_n 0, 1) := by decide +kernel
theorem dX5_copy_60 : decode cX5_copy 60 = .ok (.iconst 2, 1) := by decide +kernel
theorem dX5_copy_61 : decode cX5_copy 61 = .ok (.invokevirtual 118, 3) := by decide +kernel
theorem dX5_copy_64 : decode cX5_copy 64 = .ok (.ireturn, 1) := by decide +kernel
theorem dX5_copy_65 : decode cX5_copy 65 = .ok (.iload 5, 2) := by decide +kernel
theorem dX5_copy_67 : decode cX5_copy 67 = .ok (.ifCond .lt 39, 3) := by decide +kernel
theorem dX5_copy_70 : decode cX5_copy 70 = .ok (.iload_n 2, 1) := by decide +kernel
theorem dX5_copy_71 : decode cX5_copy 71 = .ok (.ifCond .lt 35, 3) := by decide +kernel
theorem dX5_copy_74 : decode cX5_copy 74 = .ok (.iload 4, 2) := by decide +kernel
theorem dX5_copy_76 : decode cX5_copy 76 = .ok (.ifCond .lt 30, 3) := by decide +kernel
theorem dX5_copy_79 : decode cX5_copy 79 = .ok (.iload_n 2, 1) := by decide +kernel
theorem dX5_copy_80 : decode cX5_copy 80 = .ok (.aload_n 0, 1) := by decide +kernel
theorem dX5_copy_81 : decode cX5_copy 81 = .ok (.getfield 41, 3) := by decide +kernel
theorem dX5_copy_84 : decode cX5_copy 84 = .ok (.iload_n 1, 1) := by decide +kernel
theorem dX5_copy_85 : decode cX5_copy 85 = .ok (.iaload, 1) := by decide +kernel
theorem dX5_copy_86 : decode cX5_copy 86 = .ok (.iload 5, 2) := by decide +kernel
theorem dX5_copy_88 : decode cX5_copy 88 = .ok (.isub, 1) := by decide +kernel
theorem dX5_copy_89 : decode cX5_copy 89 = .ok (.if_icmp .gt 17, 3) := by decide +kernel
theorem dX5_copy_92 : decode cX5_copy 92 = .ok (.iload 4, 2) := by decide +kernel
theorem dX5_copy_94 : decode cX5_copy 94 = .ok (.aload_n 0, 1) := by decide +kernel
theorem dX5_copy_95 : decode cX5_copy 95 = .ok (.getfield 41, 3) := by decide +kernel
theorem dX5_copy_98 : decode cX5_copy 98 = .ok (.iload_n 3, 1) := by decide +kernel
theorem dX5_copy_99 : decode cX5_copy 99 = .ok (.iaload, 1) := by decide +kernel
theorem dX5_copy_100 : decode cX5_copy 100 = .ok (.iload 5, 2) := by decide +kernel
theorem dX5_copy_102 : decode cX5_copy 102 = .ok (.isub, 1) := by decide +kernel
theorem dX5_copy_103 : decode cX5_copy 103 = .ok (.if_icmp .le 9, 3) := by decide +kernel
theorem dX5_copy_106 : decode cX5_copy 106 = .ok (.aload_n 0, 1) := by decide +kernel
theorem dX5_copy_107 : decode cX5_copy 107 = .ok (.iconst 0, 1) := by decide +kernel
theorem dX5_copy_108 : decode cX5_copy 108 = .ok (.invokevirtual 118, 3) := by decide +kernel
theorem dX5_copy_111 : decode cX5_copy 111 = .ok (.ireturn, 1) := by decide +kernel
theorem dX5_copy_112 : decode cX5_copy 112 = .ok (.iconst 0, 1) := by decide +kernel
theorem dX5_copy_113 : decode cX5_copy 113 = .ok (.istore 6, 2) := by decide +kernel
theorem dX5_copy_115 : decode cX5_copy 115 = .ok (.iload 6, 2) := by decide +kernel
theorem dX5_copy_117 : decode cX5_copy 117 = .ok (.iload 5, 2) := by decide +kernel
theorem dX5_copy_119 : decode cX5_copy 119 = .ok (.if_icmp .ge 25, 3) := by decide +kernel
theorem dX5_copy_122 : decode cX5_copy 122 = .ok (.aload_n 0, 1) := by decide +kernel
theorem dX5_copy_123 : decode cX5_copy 123 = .ok (.getfield 48, 3) := by decide +kernel
theorem dX5_copy_126 : decode cX5_copy 126 = .ok (.iload 6, 2) := by decide +kernel
theorem dX5_copy_128 : decode cX5_copy 128 = .ok (.aload_n 0, 1) := by decide +kernel
theorem dX5_copy_129 : decode cX5_copy 129 = .ok (.iload_n 1, 1) := by decide +kernel
theorem dX5_copy_130 : decode cX5_copy 130 = .ok (.iload_n 2, 1) := by decide +kernel
theorem dX5_copy_131 : decode cX5_copy 131 = .ok (.iload 6, 2) := by decide +kernel
theorem dX5_copy_133 : decode cX5_copy 133 = .ok (.iadd, 1) := by decide +kernel
theorem dX5_copy_134 : decode cX5_copy 134 = .ok (.invokevirtual 226, 3) := by decide +kernel
theorem dX5_copy_137 : decode cX5_copy 137 = .ok (.lastore, 1) := by decide +kernel
theorem dX5_copy_138 : decode cX5_copy 138 = .ok (.iinc 6 1, 3) := by decide +kernel
theorem dX5_copy_141 : decode cX5_copy 141 = .ok (.goto (-26), 3) := by decide +kernel
theorem dX5_copy_144 : decode cX5_copy 144 = .ok (.iconst 0, 1) := by decide +kernel
theorem dX5_copy_145 : decode cX5_copy 145 = .ok (.istore 6, 2) := by decide +kernel
theorem dX5_copy_147 : decode cX5_copy 147 = .ok (.iload 6, 2) := by decide +kernel
theorem dX5_copy_149 : decode cX5_copy 149 = .ok (.iload 5, 2) := by decide +kernel
theorem dX5_copy_151 : decode cX5_copy 151 = .ok (.if_icmp .ge 31, 3) := by decide +kernel
theorem dX5_copy_154 : decode cX5_copy 154 = .ok (.aload_n 0, 1) := by decide +kernel
theorem dX5_copy_155 : decode cX5_copy 155 = .ok (.getfield 44, 3) := by decide +kernel
theorem dX5_copy_158 : decode cX5_copy 158 = .ok (.bipush 40, 2) := by decide +kernel
theorem dX5_copy_160 : decode cX5_copy 160 = .ok (.iload_n 3, 1) := by decide +kernel
theorem dX5_copy_161 : decode cX5_copy 161 = .ok (.imul, 1) := by decide +kernel
theorem dX5_copy_162 : decode cX5_copy 162 = .ok (.iload 4, 2) := by decide +kernel
theorem dX5_copy_164 : decode cX5_copy 164 = .ok (.iadd, 1) := by decide +kernel
theorem dX5_copy_165 : decode cX5_copy 165 = .ok (.iload 6, 2) := by decide +kernel
theorem dX5_copy_167 : decode cX5_copy 167 = .ok (.iadd, 1) := by decide +kernel
theorem dX5_copy_168 : decode cX5_copy 168 = .ok (.aload_n 0, 1) := by decide +kernel
theorem dX5_copy_169 : decode cX5_copy 169 = .ok (.getfield 48, 3) := by decide +kernel
theorem dX5_copy_172 : decode cX5_copy 172 = .ok (.iload 6, 2) := by decide +kernel
theorem dX5_copy_174 : decode cX5_copy 174 = .ok (.laload, 1) := by decide +kernel
theorem dX5_copy_175 : decode cX5_copy 175 = .ok (.lastore, 1) := by decide +kernel
theorem dX5_copy_176 : decode cX5_copy 176 = .ok (.iinc 6 1, 3) := by decide +kernel
theorem dX5_copy_179 : decode cX5_copy 179 = .ok (.goto (-32), 3) := by decide +kernel
theorem dX5_copy_182 : decode cX5_copy 182 = .ok (.iload 5, 2) := by decide +kernel
theorem dX5_copy_184 : decode cX5_copy 184 = .ok (.ireturn, 1) := by decide +kernel
theorem dX5_wrongWith_0 : decode cX5_wrongWith 0 = .ok (.aload_n 0, 1) := by decide +kernel
theorem dX5_wrongWith_1 : decode cX5_wrongWith 1 = .ok (.iload_n 1, 1) := by decide +kernel
theorem dX5_wrongWith_2 : decode cX5_wrongWith 2 = .ok (.invokevirtual 223, 3) := by decide +kernel
theorem dX5_wrongWith_5 : decode cX5_wrongWith 5 = .ok (.istore_n 3, 1) := by decide +kernel
theorem dX5_wrongWith_6 : decode cX5_wrongWith 6 = .ok (.iload_n 3, 1) := by decide +kernel
theorem dX5_wrongWith_7 : decode cX5_wrongWith 7 = .ok (.ifCond .lt 7, 3) := by decide +kernel
theorem dX5_wrongWith_10 : decode cX5_wrongWith 10 = .ok (.iload_n 3, 1) := by decide +kernel
theorem dX5_wrongWith_11 : decode cX5_wrongWith 11 = .ok (.goto 12, 3) := by decide +kernel
theorem dX5_wrongWith_14 : decode cX5_wrongWith 14 = .ok (.iload_n 2, 1) := by decide +kernel
theorem dX5_wrongWith_15 : decode cX5_wrongWith 15 = .ok (.ifCond .eq 7, 3) := by decide +kernel
theorem dX5_wrongWith_18 : decode cX5_wrongWith 18 = .ok (.iconst (-1), 1) := by decide +kernel
theorem dX5_wrongWith_19 : decode cX5_wrongWith 19 = .ok (.goto 4, 3) := by decide +kernel
theorem dX5_wrongWith_22 : decode cX5_wrongWith 22 = .ok (.iconst 0, 1) := by decide +kernel
theorem dX5_wrongWith_23 : decode cX5_wrongWith 23 = .ok (.ireturn, 1) := by decide +kernel
theorem dX5_lays_0 : decode cX5_lays 0 = .ok (.aload_n 0, 1) := by decide +kernel
theorem dX5_lays_1 : decode cX5_lays 1 = .ok (.iload_n 1, 1) := by decide +kernel
theorem dX5_lays_2 : decode cX5_lays 2 = .ok (.iload_n 2, 1) := by decide +kernel
theorem dX5_lays_3 : decode cX5_lays 3 = .ok (.invokestatic 112, 3) := by decide +kernel
theorem dX5_lays_6 : decode cX5_lays 6 = .ok (.invokevirtual 234, 3) := by decide +kernel
theorem dX5_lays_9 : decode cX5_lays 9 = .ok (.istore_n 3, 1) := by decide +kernel
theorem dX5_lays_10 : decode cX5_lays 10 = .ok (.iload_n 3, 1) := by decide +kernel
theorem dX5_lays_11 : decode cX5_lays 11 = .ok (.ifCond .lt 9, 3) := by decide +kernel
theorem dX5_lays_14 : decode cX5_lays 14 = .ok (.aload_n 0, 1) := by decide +kernel
theorem dX5_lays_15 : decode cX5_lays 15 = .ok (.iload_n 3, 1) := by decide +kernel
theorem dX5_lays_16 : decode cX5_lays 16 = .ok (.invokevirtual 118, 3) := by decide +kernel
theorem dX5_lays_19 : decode cX5_lays 19 = .ok (.ireturn, 1) := by decide +kernel
theorem dX5_lays_20 : decode cX5_lays 20 = .ok (.iconst 0, 1) := by decide +kernel
theorem dX5_lays_21 : decode cX5_lays 21 = .ok (.istore 4, 2) := by decide +kernel
theorem dX5_lays_23 : decode cX5_lays 23 = .ok (.iconst 0, 1) := by decide +kernel
theorem dX5_lays_24 : decode cX5_lays 24 = .ok (.istore 5, 2) := by decide +kernel
theorem dX5_lays_26 : decode cX5_lays 26 = .ok (.iload 5, 2) := by decide +kernel
theorem dX5_lays_28 : decode cX5_lays 28 = .ok (.aload_n 0, 1) := by decide +kernel
theorem dX5_lays_29 : decode cX5_lays 29 = .ok (.getfield 41, 3) := by decide +kernel
theorem dX5_lays_32 : decode cX5_lays 32 = .ok (.iload_n 1, 1) := by decide +kernel
theorem dX5_lays_33 : decode cX5_lays 33 = .ok (.iaload, 1) := by decide +kernel
theorem dX5_lays_34 : decode cX5_lays 34 = .ok (.if_icmp .ge 60, 3) := by decide +kernel
theorem dX5_lays_37 : decode cX5_lays 37 = .ok (.iload 5, 2) := by decide +kernel
theorem dX5_lays_39 : decode cX5_lays 39 = .ok (.bipush 20, 2) := by decide +kernel
theorem dX5_lays_41 : decode cX5_lays 41 = .ok (.if_icmp .ge 53, 3) := by decide +kernel
theorem dX5_lays_44 : decode cX5_lays 44 = .ok (.aload_n 0, 1) := by decide +kernel
theorem dX5_lays_45 : decode cX5_lays 45 = .ok (.iload_n 1, 1) := by decide +kernel
theorem dX5_lays_46 : decode cX5_lays 46 = .ok (.iload 5, 2) := by decide +kernel
theorem dX5_lays_48 : decode cX5_lays 48 = .ok (.invokevirtual 226, 3) := by decide +kernel
theorem dX5_lays_51 : decode cX5_lays 51 = .ok (.lconst 0, 1) := by decide +kernel
theorem dX5_lays_52 : decode cX5_lays 52 = .ok (.lcmp, 1) := by decide +kernel
theorem dX5_lays_53 : decode cX5_lays 53 = .ok (.ifCond .lt 35, 3) := by decide +kernel
theorem dX5_lays_56 : decode cX5_lays 56 = .ok (.aload_n 0, 1) := by decide +kernel
theorem dX5_lays_57 : decode cX5_lays 57 = .ok (.iload_n 1, 1) := by decide +kernel
theorem dX5_lays_58 : decode cX5_lays 58 = .ok (.iload 5, 2) := by decide +kernel
theorem dX5_lays_60 : decode cX5_lays 60 = .ok (.invokevirtual 226, 3) := by decide +kernel
theorem dX5_lays_63 : decode cX5_lays 63 = .ok (.ldc2_w 238, 3) := by decide +kernel
theorem dX5_lays_66 : decode cX5_lays 66 = .ok (.lcmp, 1) := by decide +kernel
theorem dX5_lays_67 : decode cX5_lays 67 = .ok (.ifCond .gt 21, 3) := by decide +kernel
theorem dX5_lays_70 : decode cX5_lays 70 = .ok (.aload_n 0, 1) := by decide +kernel
theorem dX5_lays_71 : decode cX5_lays 71 = .ok (.iload_n 2, 1) := by decide +kernel
theorem dX5_lays_72 : decode cX5_lays 72 = .ok (.iload 5, 2) := by decide +kernel
theorem dX5_lays_74 : decode cX5_lays 74 = .ok (.aload_n 0, 1) := by decide +kernel
theorem dX5_lays_75 : decode cX5_lays 75 = .ok (.iload_n 1, 1) := by decide +kernel
theorem dX5_lays_76 : decode cX5_lays 76 = .ok (.iload 5, 2) := by decide +kernel
theorem dX5_lays_78 : decode cX5_lays 78 = .ok (.invokevirtual 226, 3) := by decide +kernel
theorem dX5_lays_81 : decode cX5_lays 81 = .ok (.l2i, 1) := by decide +kernel
theorem dX5_lays_82 : decode cX5_lays 82 = .ok (.invokevirtual 121, 3) := by decide +kernel
theorem dX5_lays_85 : decode cX5_lays 85 = .ok (.iinc 4 1, 3) := by decide +kernel
theorem dX5_lays_88 : decode cX5_lays 88 = .ok (.iinc 5 1, 3) := by decide +kernel
theorem dX5_lays_91 : decode cX5_lays 91 = .ok (.goto (-65), 3) := by decide +kernel
theorem dX5_lays_94 : decode cX5_lays 94 = .ok (.iload 4, 2) := by decide +kernel
theorem dX5_lays_96 : decode cX5_lays 96 = .ok (.ireturn, 1) := by decide +kernel
theorem dX5_book_0 : decode cX5_book 0 = .ok (.aload_n 0, 1) := by decide +kernel
theorem dX5_book_1 : decode cX5_book 1 = .ok (.iload_n 1, 1) := by decide +kernel
theorem dX5_book_2 : decode cX5_book 2 = .ok (.aload_n 0, 1) := by decide +kernel
theorem dX5_book_3 : decode cX5_book 3 = .ok (.iload_n 2, 1) := by decide +kernel
theorem dX5_book_4 : decode cX5_book 4 = .ok (.iload_n 3, 1) := by decide +kernel
theorem dX5_book_5 : decode cX5_book 5 = .ok (.invokevirtual 146, 3) := by decide +kernel
theorem dX5_book_8 : decode cX5_book 8 = .ok (.invokevirtual 234, 3) := by decide +kernel
theorem dX5_book_11 : decode cX5_book 11 = .ok (.istore 4, 2) := by decide +kernel
theorem dX5_book_13 : decode cX5_book 13 = .ok (.iload 4, 2) := by decide +kernel
theorem dX5_book_15 : decode cX5_book 15 = .ok (.ifCond .lt 10, 3) := by decide +kernel
theorem dX5_book_18 : decode cX5_book 18 = .ok (.aload_n 0, 1) := by decide +kernel
theorem dX5_book_19 : decode cX5_book 19 = .ok (.iload 4, 2) := by decide +kernel
theorem dX5_book_21 : decode cX5_book 21 = .ok (.invokevirtual 118, 3) := by decide +kernel
theorem dX5_book_24 : decode cX5_book 24 = .ok (.ireturn, 1) := by decide +kernel
theorem dX5_book_25 : decode cX5_book 25 = .ok (.aload_n 0, 1) := by decide +kernel
theorem dX5_book_26 : decode cX5_book 26 = .ok (.aload_n 0, 1) := by decide +kernel
theorem dX5_book_27 : decode cX5_book 27 = .ok (.iload_n 2, 1) := by decide +kernel
theorem dX5_book_28 : decode cX5_book 28 = .ok (.iconst 0, 1) := by decide +kernel
theorem dX5_book_29 : decode cX5_book 29 = .ok (.invokevirtual 92, 3) := by decide +kernel
theorem dX5_book_32 : decode cX5_book 32 = .ok (.aload_n 0, 1) := by decide +kernel
theorem dX5_book_33 : decode cX5_book 33 = .ok (.iload_n 2, 1) := by decide +kernel
theorem dX5_book_34 : decode cX5_book 34 = .ok (.iconst 1, 1) := by decide +kernel
theorem dX5_book_35 : decode cX5_book 35 = .ok (.invokevirtual 92, 3) := by decide +kernel
theorem dX5_book_38 : decode cX5_book 38 = .ok (.iload_n 3, 1) := by decide +kernel
theorem dX5_book_39 : decode cX5_book 39 = .ok (.invokevirtual 95, 3) := by decide +kernel
theorem dX5_book_42 : decode cX5_book 42 = .ok (.aload_n 0, 1) := by decide +kernel
theorem dX5_book_43 : decode cX5_book 43 = .ok (.getfield 41, 3) := by decide +kernel
theorem dX5_book_46 : decode cX5_book 46 = .ok (.iload_n 1, 1) := by decide +kernel
theorem dX5_book_47 : decode cX5_book 47 = .ok (.iaload, 1) := by decide +kernel
theorem dX5_book_48 : decode cX5_book 48 = .ok (.bipush 20, 2) := by decide +kernel
theorem dX5_book_50 : decode cX5_book 50 = .ok (.invokestatic 71, 3) := by decide +kernel
theorem dX5_book_53 : decode cX5_book 53 = .ok (.istore 5, 2) := by decide +kernel
theorem dX5_book_55 : decode cX5_book 55 = .ok (.iconst 0, 1) := by decide +kernel
theorem dX5_book_56 : decode cX5_book 56 = .ok (.istore 6, 2) := by decide +kernel
theorem dX5_book_58 : decode cX5_book 58 = .ok (.iload 6, 2) := by decide +kernel
theorem dX5_book_60 : decode cX5_book 60 = .ok (.iload 5, 2) := by decide +kernel
theorem dX5_book_62 : decode cX5_book 62 = .ok (.if_icmp .ge 24, 3) := by decide +kernel
theorem dX5_book_65 : decode cX5_book 65 = .ok (.aload_n 0, 1) := by decide +kernel
theorem dX5_book_66 : decode cX5_book 66 = .ok (.iload_n 1, 1) := by decide +kernel
theorem dX5_book_67 : decode cX5_book 67 = .ok (.iload 6, 2) := by decide +kernel
theorem dX5_book_69 : decode cX5_book 69 = .ok (.aload_n 0, 1) := by decide +kernel
theorem dX5_book_70 : decode cX5_book 70 = .ok (.getfield 22, 3) := by decide +kernel
theorem dX5_book_73 : decode cX5_book 73 = .ok (.iload 6, 2) := by decide +kernel
theorem dX5_book_75 : decode cX5_book 75 = .ok (.iaload, 1) := by decide +kernel
theorem dX5_book_76 : decode cX5_book 76 = .ok (.i2l, 1) := by decide +kernel
theorem dX5_book_77 : decode cX5_book 77 = .ok (.invokevirtual 230, 3) := by decide +kernel
theorem dX5_book_80 : decode cX5_book 80 = .ok (.iinc 6 1, 3) := by decide +kernel
theorem dX5_book_83 : decode cX5_book 83 = .ok (.goto (-25), 3) := by decide +kernel
theorem dX5_book_86 : decode cX5_book 86 = .ok (.iload 5, 2) := by decide +kernel
theorem dX5_book_88 : decode cX5_book 88 = .ok (.ireturn, 1) := by decide +kernel
theorem dX5_isSo_0 : decode cX5_isSo 0 = .ok (.iconst 1, 1) := by decide +kernel
theorem dX5_isSo_1 : decode cX5_isSo 1 = .ok (.istore_n 2, 1) := by decide +kernel
theorem dX5_isSo_2 : decode cX5_isSo 2 = .ok (.iconst 0, 1) := by decide +kernel
theorem dX5_isSo_3 : decode cX5_isSo 3 = .ok (.istore_n 3, 1) := by decide +kernel
theorem dX5_isSo_4 : decode cX5_isSo 4 = .ok (.iload_n 3, 1) := by decide +kernel
theorem dX5_isSo_5 : decode cX5_isSo 5 = .ok (.aload_n 0, 1) := by decide +kernel
theorem dX5_isSo_6 : decode cX5_isSo 6 = .ok (.getfield 41, 3) := by decide +kernel
theorem dX5_isSo_9 : decode cX5_isSo 9 = .ok (.iload_n 1, 1) := by decide +kernel
theorem dX5_isSo_10 : decode cX5_isSo 10 = .ok (.iaload, 1) := by decide +kernel
theorem dX5_isSo_11 : decode cX5_isSo 11 = .ok (.if_icmp .ge 36, 3) := by decide +kernel
theorem dX5_isSo_14 : decode cX5_isSo 14 = .ok (.iload_n 2, 1) := by decide +kernel
theorem dX5_isSo_15 : decode cX5_isSo 15 = .ok (.ifCond .eq 32, 3) := by decide +kernel
theorem dX5_isSo_18 : decode cX5_isSo 18 = .ok (.aload_n 0, 1) := by decide +kernel
theorem dX5_isSo_19 : decode cX5_isSo 19 = .ok (.iload_n 1, 1) := by decide +kernel
theorem dX5_isSo_20 : decode cX5_isSo 20 = .ok (.iload_n 3, 1) := by decide +kernel
theorem dX5_isSo_21 : decode cX5_isSo 21 = .ok (.invokevirtual 226, 3) := by decide +kernel
theorem dX5_isSo_24 : decode cX5_isSo 24 = .ok (.aload_n 0, 1) := by decide +kernel
theorem dX5_isSo_25 : decode cX5_isSo 25 = .ok (.getfield 22, 3) := by decide +kernel
theorem dX5_isSo_28 : decode cX5_isSo 28 = .ok (.iload_n 3, 1) := by decide +kernel
theorem dX5_isSo_29 : decode cX5_isSo 29 = .ok (.iaload, 1) := by decide +kernel
theorem dX5_isSo_30 : decode cX5_isSo 30 = .ok (.i2l, 1) := by decide +kernel
theorem dX5_isSo_31 : decode cX5_isSo 31 = .ok (.lcmp, 1) := by decide +kernel
theorem dX5_isSo_32 : decode cX5_isSo 32 = .ok (.ifCond .ne 7, 3) := by decide +kernel
theorem dX5_isSo_35 : decode cX5_isSo 35 = .ok (.iconst 1, 1) := by decide +kernel
theorem dX5_isSo_36 : decode cX5_isSo 36 = .ok (.goto 4, 3) := by decide +kernel
theorem dX5_isSo_39 : decode cX5_isSo 39 = .ok (.iconst 0, 1) := by decide +kernel
theorem dX5_isSo_40 : decode cX5_isSo 40 = .ok (.istore_n 2, 1) := by decide +kernel
theorem dX5_isSo_41 : decode cX5_isSo 41 = .ok (.iinc 3 1, 3) := by decide +kernel
theorem dX5_isSo_44 : decode cX5_isSo 44 = .ok (.goto (-40), 3) := by decide +kernel
theorem dX5_isSo_47 : decode cX5_isSo 47 = .ok (.iload_n 2, 1) := by decide +kernel
theorem dX5_isSo_48 : decode cX5_isSo 48 = .ok (.ireturn, 1) := by decide +kernel
theorem dX5_read_0 : decode cX5_read 0 = .ok (.aload_n 0, 1) := by decide +kernel
theorem dX5_read_1 : decode cX5_read 1 = .ok (.iload_n 1, 1) := by decide +kernel
theorem dX5_read_2 : decode cX5_read 2 = .ok (.aload_n 0, 1) := by decide +kernel
theorem dX5_read_3 : decode cX5_read 3 = .ok (.iload_n 2, 1) := by decide +kernel
theorem dX5_read_4 : decode cX5_read 4 = .ok (.iload_n 3, 1) := by decide +kernel
theorem dX5_read_5 : decode cX5_read 5 = .ok (.invokevirtual 146, 3) := by decide +kernel
theorem dX5_read_8 : decode cX5_read 8 = .ok (.invokevirtual 234, 3) := by decide +kernel
theorem dX5_read_11 : decode cX5_read 11 = .ok (.istore 4, 2) := by decide +kernel
theorem dX5_read_13 : decode cX5_read 13 = .ok (.iload 4, 2) := by decide +kernel
theorem dX5_read_15 : decode cX5_read 15 = .ok (.ifCond .lt 10, 3) := by decide +kernel
theorem dX5_read_18 : decode cX5_read 18 = .ok (.aload_n 0, 1) := by decide +kernel
theorem dX5_read_19 : decode cX5_read 19 = .ok (.iload 4, 2) := by decide +kernel
theorem dX5_read_21 : decode cX5_read 21 = .ok (.invokevirtual 118, 3) := by decide +kernel
theorem dX5_read_24 : decode cX5_read 24 = .ok (.ireturn, 1) := by decide +kernel
theorem dX5_read_25 : decode cX5_read 25 = .ok (.aload_n 0, 1) := by decide +kernel
theorem dX5_read_26 : decode cX5_read 26 = .ok (.getfield 41, 3) := by decide +kernel
theorem dX5_read_29 : decode cX5_read 29 = .ok (.iload_n 1, 1) := by decide +kernel
theorem dX5_read_30 : decode cX5_read 30 = .ok (.iaload, 1) := by decide +kernel
theorem dX5_read_31 : decode cX5_read 31 = .ok (.bipush 20, 2) := by decide +kernel
theorem dX5_read_33 : decode cX5_read 33 = .ok (.if_icmp .le 10, 3) := by decide +kernel
theorem dX5_read_36 : decode cX5_read 36 = .ok (.aload_n 0, 1) := by decide +kernel
theorem dX5_read_37 : decode cX5_read 37 = .ok (.bipush 6, 2) := by decide +kernel
theorem dX5_read_39 : decode cX5_read 39 = .ok (.invokevirtual 118, 3) := by decide +kernel
theorem dX5_read_42 : decode cX5_read 42 = .ok (.ireturn, 1) := by decide +kernel
theorem dX5_read_43 : decode cX5_read 43 = .ok (.iconst 0, 1) := by decide +kernel
theorem dX5_read_44 : decode cX5_read 44 = .ok (.istore 5, 2) := by decide +kernel
theorem dX5_read_46 : decode cX5_read 46 = .ok (.iconst 0, 1) := by decide +kernel
theorem dX5_read_47 : decode cX5_read 47 = .ok (.istore 6, 2) := by decide +kernel
theorem dX5_read_49 : decode cX5_read 49 = .ok (.iload 6, 2) := by decide +kernel
theorem dX5_read_51 : decode cX5_read 51 = .ok (.bipush 6, 2) := by decide +kernel
theorem dX5_read_53 : decode cX5_read 53 = .ok (.if_icmp .ge 53, 3) := by decide +kernel
theorem dX5_read_56 : decode cX5_read 56 = .ok (.bipush 10, 2) := by decide +kernel
theorem dX5_read_58 : decode cX5_read 58 = .ok (.istore 7, 2) := by decide +kernel
theorem dX5_read_60 : decode cX5_read 60 = .ok (.iload 7, 2) := by decide +kernel
theorem dX5_read_62 : decode cX5_read 62 = .ok (.bipush 80, 2) := by decide +kernel
theorem dX5_read_64 : decode cX5_read 64 = .ok (.if_icmp .gt 36, 3) := by decide +kernel
theorem dX5_read_67 : decode cX5_read 67 = .ok (.aload_n 0, 1) := by decide +kernel
theorem dX5_read_68 : decode cX5_read 68 = .ok (.iload 6, 2) := by decide +kernel
theorem dX5_read_70 : decode cX5_read 70 = .ok (.iload 7, 2) := by decide +kernel
theorem dX5_read_72 : decode cX5_read 72 = .ok (.iload_n 3, 1) := by decide +kernel
theorem dX5_read_73 : decode cX5_read 73 = .ok (.invokevirtual 95, 3) := by decide +kernel
theorem dX5_read_76 : decode cX5_read 76 = .ok (.iload 5, 2) := by decide +kernel
theorem dX5_read_78 : decode cX5_read 78 = .ok (.aload_n 0, 1) := by decide +kernel
theorem dX5_read_79 : decode cX5_read 79 = .ok (.iload_n 1, 1) := by decide +kernel
theorem dX5_read_80 : decode cX5_read 80 = .ok (.invokevirtual 240, 3) := by decide +kernel
theorem dX5_read_83 : decode cX5_read 83 = .ok (.ifCond .eq 7, 3) := by decide +kernel
theorem dX5_read_86 : decode cX5_read 86 = .ok (.iconst 1, 1) := by decide +kernel
theorem dX5_read_87 : decode cX5_read 87 = .ok (.goto 4, 3) := by decide +kernel
theorem dX5_read_90 : decode cX5_read 90 = .ok (.iconst 0, 1) := by decide +kernel
theorem dX5_read_91 : decode cX5_read 91 = .ok (.iadd, 1) := by decide +kernel
theorem dX5_read_92 : decode cX5_read 92 = .ok (.istore 5, 2) := by decide +kernel
theorem dX5_read_94 : decode cX5_read 94 = .ok (.iinc 7 1, 3) := by decide +kernel
theorem dX5_read_97 : decode cX5_read 97 = .ok (.goto (-37), 3) := by decide +kernel
theorem dX5_read_100 : decode cX5_read 100 = .ok (.iinc 6 1, 3) := by decide +kernel
theorem dX5_read_103 : decode cX5_read 103 = .ok (.goto (-54), 3) := by decide +kernel
theorem dX5_read_106 : decode cX5_read 106 = .ok (.iload 5, 2) := by decide +kernel
theorem dX5_read_108 : decode cX5_read 108 = .ok (.ireturn, 1) := by decide +kernel
theorem dX5_image_0 : decode cX5_image 0 = .ok (.iconst 0, 1) := by decide +kernel
theorem dX5_image_1 : decode cX5_image 1 = .ok (.istore_n 1, 1) := by decide +kernel
theorem dX5_image_2 : decode cX5_image 2 = .ok (.iload_n 1, 1) := by decide +kernel
theorem dX5_image_3 : decode cX5_image 3 = .ok (.sipush 147, 3) := by decide +kernel
theorem dX5_image_6 : decode cX5_image 6 = .ok (.if_icmp .ge 21, 3) := by decide +kernel
theorem dX5_image_9 : decode cX5_image 9 = .ok (.aload_n 0, 1) := by decide +kernel
theorem dX5_image_10 : decode cX5_image 10 = .ok (.getfield 13, 3) := by decide +kernel
theorem dX5_image_13 : decode cX5_image 13 = .ok (.iload_n 1, 1) := by decide +kernel
theorem dX5_image_14 : decode cX5_image 14 = .ok (.aload_n 0, 1) := by decide +kernel
theorem dX5_image_15 : decode cX5_image 15 = .ok (.getfield 9, 3) := by decide +kernel
theorem dX5_image_18 : decode cX5_image 18 = .ok (.iload_n 1, 1) := by decide +kernel
theorem dX5_image_19 : decode cX5_image 19 = .ok (.iaload, 1) := by decide +kernel
theorem dX5_image_20 : decode cX5_image 20 = .ok (.iastore, 1) := by decide +kernel
theorem dX5_image_21 : decode cX5_image 21 = .ok (.iinc 1 1, 3) := by decide +kernel
theorem dX5_image_24 : decode cX5_image 24 = .ok (.goto (-22), 3) := by decide +kernel
theorem dX5_image_27 : decode cX5_image 27 = .ok (.aload_n 0, 1) := by decide +kernel
theorem dX5_image_28 : decode cX5_image 28 = .ok (.iconst 1, 1) := by decide +kernel
theorem dX5_image_29 : decode cX5_image 29 = .ok (.putfield 243, 3) := by decide +kernel
theorem dX5_image_32 : decode cX5_image 32 = .ok (.iconst 1, 1) := by decide +kernel
theorem dX5_image_33 : decode cX5_image 33 = .ok (.ireturn, 1) := by decide +kernel
theorem dX5_undo_0 : decode cX5_undo 0 = .ok (.aload_n 0, 1) := by decide +kernel
theorem dX5_undo_1 : decode cX5_undo 1 = .ok (.getfield 243, 3) := by decide +kernel
theorem dX5_undo_4 : decode cX5_undo 4 = .ok (.ifCond .ne 9, 3) := by decide +kernel
theorem dX5_undo_7 : decode cX5_undo 7 = .ok (.aload_n 0, 1) := by decide +kernel
theorem dX5_undo_8 : decode cX5_undo 8 = .ok (.iconst 3, 1) := by decide +kernel
theorem dX5_undo_9 : decode cX5_undo 9 = .ok (.invokevirtual 118, 3) := by decide +kernel
theorem dX5_undo_12 : decode cX5_undo 12 = .ok (.ireturn, 1) := by decide +kernel
theorem dX5_undo_13 : decode cX5_undo 13 = .ok (.iconst 0, 1) := by decide +kernel
theorem dX5_undo_14 : decode cX5_undo 14 = .ok (.istore_n 1, 1) := by decide +kernel
theorem dX5_undo_15 : decode cX5_undo 15 = .ok (.iload_n 1, 1) := by decide +kernel
theorem dX5_undo_16 : decode cX5_undo 16 = .ok (.sipush 147, 3) := by decide +kernel
theorem dX5_undo_19 : decode cX5_undo 19 = .ok (.if_icmp .ge 21, 3) := by decide +kernel
theorem dX5_undo_22 : decode cX5_undo 22 = .ok (.aload_n 0, 1) := by decide +kernel
theorem dX5_undo_23 : decode cX5_undo 23 = .ok (.getfield 9, 3) := by decide +kernel
theorem dX5_undo_26 : decode cX5_undo 26 = .ok (.iload_n 1, 1) := by decide +kernel
theorem dX5_undo_27 : decode cX5_undo 27 = .ok (.aload_n 0, 1) := by decide +kernel
theorem dX5_undo_28 : decode cX5_undo 28 = .ok (.getfield 13, 3) := by decide +kernel
theorem dX5_undo_31 : decode cX5_undo 31 = .ok (.iload_n 1, 1) := by decide +kernel
theorem dX5_undo_32 : decode cX5_undo 32 = .ok (.iaload, 1) := by decide +kernel
theorem dX5_undo_33 : decode cX5_undo 33 = .ok (.iastore, 1) := by decide +kernel
theorem dX5_undo_34 : decode cX5_undo 34 = .ok (.iinc 1 1, 3) := by decide +kernel
theorem dX5_undo_37 : decode cX5_undo 37 = .ok (.goto (-22), 3) := by decide +kernel
theorem dX5_undo_40 : decode cX5_undo 40 = .ok (.aload_n 0, 1) := by decide +kernel
theorem dX5_undo_41 : decode cX5_undo 41 = .ok (.getfield 9, 3) := by decide +kernel
theorem dX5_undo_44 : decode cX5_undo 44 = .ok (.iconst 2, 1) := by decide +kernel
theorem dX5_undo_45 : decode cX5_undo 45 = .ok (.iaload, 1) := by decide +kernel
theorem dX5_undo_46 : decode cX5_undo 46 = .ok (.ireturn, 1) := by decide +kernel
theorem dX5_tear_0 : decode cX5_tear 0 = .ok (.aload_n 0, 1) := by decide +kernel
theorem dX5_tear_1 : decode cX5_tear 1 = .ok (.getfield 243, 3) := by decide +kernel
theorem dX5_tear_4 : decode cX5_tear 4 = .ok (.ifCond .eq 7, 3) := by decide +kernel
theorem dX5_tear_7 : decode cX5_tear 7 = .ok (.iconst 1, 1) := by decide +kernel
theorem dX5_tear_8 : decode cX5_tear 8 = .ok (.goto 4, 3) := by decide +kernel
theorem dX5_tear_11 : decode cX5_tear 11 = .ok (.iconst 0, 1) := by decide +kernel
theorem dX5_tear_12 : decode cX5_tear 12 = .ok (.istore_n 1, 1) := by decide +kernel
theorem dX5_tear_13 : decode cX5_tear 13 = .ok (.aload_n 0, 1) := by decide +kernel
theorem dX5_tear_14 : decode cX5_tear 14 = .ok (.iconst 0, 1) := by decide +kernel
theorem dX5_tear_15 : decode cX5_tear 15 = .ok (.putfield 243, 3) := by decide +kernel
theorem dX5_tear_18 : decode cX5_tear 18 = .ok (.iload_n 1, 1) := by decide +kernel
theorem dX5_tear_19 : decode cX5_tear 19 = .ok (.ireturn, 1) := by decide +kernel
theorem dX5_count_0 : decode cX5_count 0 = .ok (.iconst 0, 1) := by decide +kernel
theorem dX5_count_1 : decode cX5_count 1 = .ok (.istore_n 2, 1) := by decide +kernel
theorem dX5_count_2 : decode cX5_count 2 = .ok (.iconst 0, 1) := by decide +kernel
theorem dX5_count_3 : decode cX5_count 3 = .ok (.istore_n 3, 1) := by decide +kernel
theorem dX5_count_4 : decode cX5_count 4 = .ok (.iload_n 3, 1) := by decide +kernel
theorem dX5_count_5 : decode cX5_count 5 = .ok (.aload_n 0, 1) := by decide +kernel
theorem dX5_count_6 : decode cX5_count 6 = .ok (.getfield 9, 3) := by decide +kernel
theorem dX5_count_9 : decode cX5_count 9 = .ok (.iconst 2, 1) := by decide +kernel
theorem dX5_count_10 : decode cX5_count 10 = .ok (.iaload, 1) := by decide +kernel
theorem dX5_count_11 : decode cX5_count 11 = .ok (.if_icmp .ge 18, 3) := by decide +kernel
theorem dX5_count_14 : decode cX5_count 14 = .ok (.iload_n 2, 1) := by decide +kernel
theorem dX5_count_15 : decode cX5_count 15 = .ok (.aload_n 0, 1) := by decide +kernel
theorem dX5_count_16 : decode cX5_count 16 = .ok (.iload_n 3, 1) := by decide +kernel
theorem dX5_count_17 : decode cX5_count 17 = .ok (.iconst 1, 1) := by decide +kernel
theorem dX5_count_18 : decode cX5_count 18 = .ok (.invokevirtual 92, 3) := by decide +kernel
theorem dX5_count_21 : decode cX5_count 21 = .ok (.iadd, 1) := by decide +kernel
theorem dX5_count_22 : decode cX5_count 22 = .ok (.istore_n 2, 1) := by decide +kernel
theorem dX5_count_23 : decode cX5_count 23 = .ok (.iinc 3 1, 3) := by decide +kernel
theorem dX5_count_26 : decode cX5_count 26 = .ok (.goto (-22), 3) := by decide +kernel
theorem dX5_count_29 : decode cX5_count 29 = .ok (.iload_n 1, 1) := by decide +kernel
theorem dX5_count_30 : decode cX5_count 30 = .ok (.tableswitch 62 0 3 #[30, 37, 42, 60], 30) := by decide +kernel
theorem dX5_count_60 : decode cX5_count 60 = .ok (.aload_n 0, 1) := by decide +kernel
theorem dX5_count_61 : decode cX5_count 61 = .ok (.getfield 9, 3) := by decide +kernel
theorem dX5_count_64 : decode cX5_count 64 = .ok (.iconst 2, 1) := by decide +kernel
theorem dX5_count_65 : decode cX5_count 65 = .ok (.iaload, 1) := by decide +kernel
theorem dX5_count_66 : decode cX5_count 66 = .ok (.ireturn, 1) := by decide +kernel
theorem dX5_count_67 : decode cX5_count 67 = .ok (.aload_n 0, 1) := by decide +kernel
theorem dX5_count_68 : decode cX5_count 68 = .ok (.getfield 166, 3) := by decide +kernel
theorem dX5_count_71 : decode cX5_count 71 = .ok (.ireturn, 1) := by decide +kernel
theorem dX5_count_72 : decode cX5_count 72 = .ok (.aload_n 0, 1) := by decide +kernel
theorem dX5_count_73 : decode cX5_count 73 = .ok (.iconst 0, 1) := by decide +kernel
theorem dX5_count_74 : decode cX5_count 74 = .ok (.invokevirtual 127, 3) := by decide +kernel
theorem dX5_count_77 : decode cX5_count 77 = .ok (.aload_n 0, 1) := by decide +kernel
theorem dX5_count_78 : decode cX5_count 78 = .ok (.iconst 1, 1) := by decide +kernel
theorem dX5_count_79 : decode cX5_count 79 = .ok (.invokevirtual 127, 3) := by decide +kernel
theorem dX5_count_82 : decode cX5_count 82 = .ok (.iadd, 1) := by decide +kernel
theorem dX5_count_83 : decode cX5_count 83 = .ok (.aload_n 0, 1) := by decide +kernel
theorem dX5_count_84 : decode cX5_count 84 = .ok (.iconst 2, 1) := by decide +kernel
theorem dX5_count_85 : decode cX5_count 85 = .ok (.invokevirtual 127, 3) := by decide +kernel
theorem dX5_count_88 : decode cX5_count 88 = .ok (.iadd, 1) := by decide +kernel
theorem dX5_count_89 : decode cX5_count 89 = .ok (.ireturn, 1) := by decide +kernel
theorem dX5_count_90 : decode cX5_count 90 = .ok (.iload_n 2, 1) := by decide +kernel
theorem dX5_count_91 : decode cX5_count 91 = .ok (.ireturn, 1) := by decide +kernel
theorem dX5_count_92 : decode cX5_count 92 = .ok (.aload_n 0, 1) := by decide +kernel
theorem dX5_count_93 : decode cX5_count 93 = .ok (.iconst 0, 1) := by decide +kernel
theorem dX5_count_94 : decode cX5_count 94 = .ok (.invokevirtual 118, 3) := by decide +kernel
theorem dX5_count_97 : decode cX5_count 97 = .ok (.ireturn, 1) := by decide +kernel
theorem dX5_status_0 : decode cX5_status 0 = .ok (.iload_n 1, 1) := by decide +kernel
theorem dX5_status_1 : decode cX5_status 1 = .ok (.iconst (-1), 1) := by decide +kernel
theorem dX5_status_2 : decode cX5_status 2 = .ok (.bipush 6, 2) := by decide +kernel
theorem dX5_status_4 : decode cX5_status 4 = .ok (.invokestatic 52, 3) := by decide +kernel
theorem dX5_status_7 : decode cX5_status 7 = .ok (.ifCond .ne 9, 3) := by decide +kernel
theorem dX5_status_10 : decode cX5_status 10 = .ok (.aload_n 0, 1) := by decide +kernel
theorem dX5_status_11 : decode cX5_status 11 = .ok (.iconst 0, 1) := by decide +kernel
theorem dX5_status_12 : decode cX5_status 12 = .ok (.invokevirtual 118, 3) := by decide +kernel
theorem dX5_status_15 : decode cX5_status 15 = .ok (.ireturn, 1) := by decide +kernel
theorem dX5_status_16 : decode cX5_status 16 = .ok (.iconst 0, 1) := by decide +kernel
theorem dX5_status_17 : decode cX5_status 17 = .ok (.istore_n 2, 1) := by decide +kernel
theorem dX5_status_18 : decode cX5_status 18 = .ok (.iconst 0, 1) := by decide +kernel
theorem dX5_status_19 : decode cX5_status 19 = .ok (.istore_n 3, 1) := by decide +kernel
theorem dX5_status_20 : decode cX5_status 20 = .ok (.iload_n 3, 1) := by decide +kernel
theorem dX5_status_21 : decode cX5_status 21 = .ok (.bipush 7, 2) := by decide +kernel
theorem dX5_status_23 : decode cX5_status 23 = .ok (.if_icmp .ge 32, 3) := by decide +kernel
theorem dX5_status_26 : decode cX5_status 26 = .ok (.iload_n 2, 1) := by decide +kernel
theorem dX5_status_27 : decode cX5_status 27 = .ok (.iload_n 1, 1) := by decide +kernel
theorem dX5_status_28 : decode cX5_status 28 = .ok (.iconst (-1), 1) := by decide +kernel
theorem dX5_status_29 : decode cX5_status 29 = .ok (.if_icmp .eq 8, 3) := by decide +kernel
theorem dX5_status_32 : decode cX5_status 32 = .ok (.iload_n 1, 1) := by decide +kernel
theorem dX5_status_33 : decode cX5_status 33 = .ok (.iload_n 3, 1) := by decide +kernel
theorem dX5_status_34 : decode cX5_status 34 = .ok (.if_icmp .ne 12, 3) := by decide +kernel
theorem dX5_status_37 : decode cX5_status 37 = .ok (.aload_n 0, 1) := by decide +kernel
theorem dX5_status_38 : decode cX5_status 38 = .ok (.getfield 19, 3) := by decide +kernel
theorem dX5_status_41 : decode cX5_status 41 = .ok (.iload_n 3, 1) := by decide +kernel
theorem dX5_status_42 : decode cX5_status 42 = .ok (.iaload, 1) := by decide +kernel
theorem dX5_status_43 : decode cX5_status 43 = .ok (.goto 4, 3) := by decide +kernel
theorem dX5_status_46 : decode cX5_status 46 = .ok (.iconst 0, 1) := by decide +kernel
theorem dX5_status_47 : decode cX5_status 47 = .ok (.iadd, 1) := by decide +kernel
theorem dX5_status_48 : decode cX5_status 48 = .ok (.istore_n 2, 1) := by decide +kernel
theorem dX5_status_49 : decode cX5_status 49 = .ok (.iinc 3 1, 3) := by decide +kernel
theorem dX5_status_52 : decode cX5_status 52 = .ok (.goto (-32), 3) := by decide +kernel
theorem dX5_status_55 : decode cX5_status 55 = .ok (.iload_n 2, 1) := by decide +kernel
theorem dX5_status_56 : decode cX5_status 56 = .ok (.ireturn, 1) := by decide +kernel
end
section
theorem dL_law_0 : decode cL_law 0 = .ok (.new 7, 3) := by decide +kernel
theorem dL_law_3 : decode cL_law 3 = .ok (.dup, 1) := by decide +kernel
theorem dL_law_4 : decode cL_law 4 = .ok (.invokespecial 9, 3) := by decide +kernel
theorem dL_law_7 : decode cL_law 7 = .ok (.astore_n 1, 1) := by decide +kernel
theorem dL_law_8 : decode cL_law 8 = .ok (.new 10, 3) := by decide +kernel
theorem dL_law_11 : decode cL_law 11 = .ok (.dup, 1) := by decide +kernel
theorem dL_law_12 : decode cL_law 12 = .ok (.invokespecial 12, 3) := by decide +kernel
theorem dL_law_15 : decode cL_law 15 = .ok (.astore_n 2, 1) := by decide +kernel
theorem dL_law_16 : decode cL_law 16 = .ok (.iconst 0, 1) := by decide +kernel
theorem dL_law_17 : decode cL_law 17 = .ok (.istore_n 3, 1) := by decide +kernel
theorem dL_law_18 : decode cL_law 18 = .ok (.iload_n 3, 1) := by decide +kernel
theorem dL_law_19 : decode cL_law 19 = .ok (.aload_n 0, 1) := by decide +kernel
theorem dL_law_20 : decode cL_law 20 = .ok (.arraylength, 1) := by decide +kernel
theorem dL_law_21 : decode cL_law 21 = .ok (.bipush 6, 2) := by decide +kernel
theorem dL_law_23 : decode cL_law 23 = .ok (.isub, 1) := by decide +kernel
theorem dL_law_24 : decode cL_law 24 = .ok (.if_icmp .gt 1434, 3) := by decide +kernel
theorem dL_law_27 : decode cL_law 27 = .ok (.aload_n 0, 1) := by decide +kernel
theorem dL_law_28 : decode cL_law 28 = .ok (.iload_n 3, 1) := by decide +kernel
theorem dL_law_29 : decode cL_law 29 = .ok (.iaload, 1) := by decide +kernel
theorem dL_law_30 : decode cL_law 30 = .ok (.bipush 63, 2) := by decide +kernel
theorem dL_law_32 : decode cL_law 32 = .ok (.iand, 1) := by decide +kernel
theorem dL_law_33 : decode cL_law 33 = .ok (.tableswitch 1419 0 38 #[171, 214, 257, 280, 313, 336, 359, 392, 435, 468, 501, 544, 587, 620, 653, 676, 709, 742, 765, 798, 831, 864, 897, 940, 963, 976, 1009, 1022, 1035, 1078, 1152, 1215, 1248, 1291, 1334, 1347, 1360, 1373, 1396], 171) := by decide +kernel
theorem dL_law_204 : decode cL_law 204 = .ok (.aload_n 1, 1) := by decide +kernel
theorem dL_law_205 : decode cL_law 205 = .ok (.aload_n 0, 1) := by decide +kernel
theorem dL_law_206 : decode cL_law 206 = .ok (.iload_n 3, 1) := by decide +kernel
theorem dL_law_207 : decode cL_law 207 = .ok (.iconst 1, 1) := by decide +kernel
theorem dL_law_208 : decode cL_law 208 = .ok (.iadd, 1) := by decide +kernel
theorem dL_law_209 : decode cL_law 209 = .ok (.iaload, 1) := by decide +kernel
theorem dL_law_210 : decode cL_law 210 = .ok (.aload_n 0, 1) := by decide +kernel
theorem dL_law_211 : decode cL_law 211 = .ok (.iload_n 3, 1) := by decide +kernel
theorem dL_law_212 : decode cL_law 212 = .ok (.iconst 2, 1) := by decide +kernel
theorem dL_law_213 : decode cL_law 213 = .ok (.iadd, 1) := by decide +kernel
theorem dL_law_214 : decode cL_law 214 = .ok (.iaload, 1) := by decide +kernel
theorem dL_law_215 : decode cL_law 215 = .ok (.aload_n 0, 1) := by decide +kernel
theorem dL_law_216 : decode cL_law 216 = .ok (.iload_n 3, 1) := by decide +kernel
theorem dL_law_217 : decode cL_law 217 = .ok (.iconst 3, 1) := by decide +kernel
theorem dL_law_218 : decode cL_law 218 = .ok (.iadd, 1) := by decide +kernel
theorem dL_law_219 : decode cL_law 219 = .ok (.iaload, 1) := by decide +kernel
theorem dL_law_220 : decode cL_law 220 = .ok (.invokevirtual 13, 3) := by decide +kernel
theorem dL_law_223 : decode cL_law 223 = .ok (.aload_n 2, 1) := by decide +kernel
theorem dL_law_224 : decode cL_law 224 = .ok (.aload_n 0, 1) := by decide +kernel
theorem dL_law_225 : decode cL_law 225 = .ok (.iload_n 3, 1) := by decide +kernel
theorem dL_law_226 : decode cL_law 226 = .ok (.iconst 1, 1) := by decide +kernel
theorem dL_law_227 : decode cL_law 227 = .ok (.iadd, 1) := by decide +kernel
theorem dL_law_228 : decode cL_law 228 = .ok (.iaload, 1) := by decide +kernel
theorem dL_law_229 : decode cL_law 229 = .ok (.aload_n 0, 1) := by decide +kernel
theorem dL_law_230 : decode cL_law 230 = .ok (.iload_n 3, 1) := by decide +kernel
theorem dL_law_231 : decode cL_law 231 = .ok (.iconst 2, 1) := by decide +kernel
theorem dL_law_232 : decode cL_law 232 = .ok (.iadd, 1) := by decide +kernel
theorem dL_law_233 : decode cL_law 233 = .ok (.iaload, 1) := by decide +kernel
theorem dL_law_234 : decode cL_law 234 = .ok (.aload_n 0, 1) := by decide +kernel
theorem dL_law_235 : decode cL_law 235 = .ok (.iload_n 3, 1) := by decide +kernel
theorem dL_law_236 : decode cL_law 236 = .ok (.iconst 3, 1) := by decide +kernel
theorem dL_law_237 : decode cL_law 237 = .ok (.iadd, 1) := by decide +kernel
theorem dL_law_238 : decode cL_law 238 = .ok (.iaload, 1) := by decide +kernel
theorem dL_law_239 : decode cL_law 239 = .ok (.invokevirtual 17, 3) := by decide +kernel
theorem dL_law_242 : decode cL_law 242 = .ok (.if_icmp .eq 1210, 3) := by decide +kernel
theorem dL_law_245 : decode cL_law 245 = .ok (.iconst 0, 1) := by decide +kernel
theorem dL_law_246 : decode cL_law 246 = .ok (.ireturn, 1) := by decide +kernel
theorem dL_law_247 : decode cL_law 247 = .ok (.aload_n 1, 1) := by decide +kernel
theorem dL_law_248 : decode cL_law 248 = .ok (.aload_n 0, 1) := by decide +kernel
theorem dL_law_249 : decode cL_law 249 = .ok (.iload_n 3, 1) := by decide +kernel
theorem dL_law_250 : decode cL_law 250 = .ok (.iconst 1, 1) := by decide +kernel
theorem dL_law_251 : decode cL_law 251 = .ok (.iadd, 1) := by decide +kernel
theorem dL_law_252 : decode cL_law 252 = .ok (.iaload, 1) := by decide +kernel
theorem dL_law_253 : decode cL_law 253 = .ok (.aload_n 0, 1) := by decide +kernel
theorem dL_law_254 : decode cL_law 254 = .ok (.iload_n 3, 1) := by decide +kernel
theorem dL_law_255 : decode cL_law 255 = .ok (.iconst 2, 1) := by decide +kernel
theorem dL_law_256 : decode cL_law 256 = .ok (.iadd, 1) := by decide +kernel
theorem dL_law_257 : decode cL_law 257 = .ok (.iaload, 1) := by decide +kernel
theorem dL_law_258 : decode cL_law 258 = .ok (.aload_n 0, 1) := by decide +kernel
theorem dL_law_259 : decode cL_law 259 = .ok (.iload_n 3, 1) := by decide +kernel
theorem dL_law_260 : decode cL_law 260 = .ok (.iconst 3, 1) := by decide +kernel
theorem dL_law_261 : decode cL_law 261 = .ok (.iadd, 1) := by decide +kernel
theorem dL_law_262 : decode cL_law 262 = .ok (.iaload, 1) := by decide +kernel
theorem dL_law_263 : decode cL_law 263 = .ok (.invokevirtual 18, 3) := by decide +kernel
theorem dL_law_266 : decode cL_law 266 = .ok (.aload_n 2, 1) := by decide +kernel
theorem dL_law_267 : decode cL_law 267 = .ok (.aload_n 0, 1) := by decide +kernel
theorem dL_law_268 : decode cL_law 268 = .ok (.iload_n 3, 1) := by decide +kernel
theorem dL_law_269 : decode cL_law 269 = .ok (.iconst 1, 1) := by decide +kernel
theorem dL_law_270 : decode cL_law 270 = .ok (.iadd, 1) := by decide +kernel
theorem dL_law_271 : decode cL_law 271 = .ok (.iaload, 1) := by decide +kernel
theorem dL_law_272 : decode cL_law 272 = .ok (.aload_n 0, 1) := by decide +kernel
theorem dL_law_273 : decode cL_law 273 = .ok (.iload_n 3, 1) := by decide +kernel
theorem dL_law_274 : decode cL_law 274 = .ok (.iconst 2, 1) := by decide +kernel
theorem dL_law_275 : decode cL_law 275 = .ok (.iadd, 1) := by decide +kernel
theorem dL_law_276 : decode cL_law 276 = .ok (.iaload, 1) := by decide +kernel
theorem dL_law_277 : decode cL_law 277 = .ok (.aload_n 0, 1) := by decide +kernel
theorem dL_law_278 : decode cL_law 278 = .ok (.iload_n 3, 1) := by decide +kernel
theorem dL_law_279 : decode cL_law 279 = .ok (.iconst 3, 1) := by decide +kernel
theorem dL_law_280 : decode cL_law 280 = .ok (.iadd, 1) := by decide +kernel
theorem dL_law_281 : decode cL_law 281 = .ok (.iaload, 1) := by decide +kernel
theorem dL_law_282 : decode cL_law 282 = .ok (.invokevirtual 21, 3) := by decide +kernel
theorem dL_law_285 : decode cL_law 285 = .ok (.if_icmp .eq 1167, 3) := by decide +kernel
theorem dL_law_288 : decode cL_law 288 = .ok (.iconst 0, 1) := by decide +kernel
theorem dL_law_289 : decode cL_law 289 = .ok (.ireturn, 1) := by decide +kernel
theorem dL_law_290 : decode cL_law 290 = .ok (.aload_n 1, 1) := by decide +kernel
theorem dL_law_291 : decode cL_law 291 = .ok (.aload_n 0, 1) := by decide +kernel
theorem dL_law_292 : decode cL_law 292 = .ok (.iload_n 3, 1) := by decide +kernel
theorem dL_law_293 : decode cL_law 293 = .ok (.iconst 1, 1) := by decide +kernel
theorem dL_law_294 : decode cL_law 294 = .ok (.iadd, 1) := by decide +kernel
theorem dL_law_295 : decode cL_law 295 = .ok (.iaload, 1) := by decide +kernel
theorem dL_law_296 : decode cL_law 296 = .ok (.invokevirtual 22, 3) := by decide +kernel
theorem dL_law_299 : decode cL_law 299 = .ok (.aload_n 2, 1) := by decide +kernel
theorem dL_law_300 : decode cL_law 300 = .ok (.aload_n 0, 1) := by decide +kernel
theorem dL_law_301 : decode cL_law 301 = .ok (.iload_n 3, 1) := by decide +kernel
theorem dL_law_302 : decode cL_law 302 = .ok (.iconst 1, 1) := by decide +kernel
theorem dL_law_303 : decode cL_law 303 = .ok (.iadd, 1) := by decide +kernel
theorem dL_law_304 : decode cL_law 304 = .ok (.iaload, 1) := by decide +kernel
theorem dL_law_305 : decode cL_law 305 = .ok (.invokevirtual 26, 3) := by decide +kernel
theorem dL_law_308 : decode cL_law 308 = .ok (.if_icmp .eq 1144, 3) := by decide +kernel
theorem dL_law_311 : decode cL_law 311 = .ok (.iconst 0, 1) := by decide +kernel
theorem dL_law_312 : decode cL_law 312 = .ok (.ireturn, 1) := by decide +kernel
theorem dL_law_313 : decode cL_law 313 = .ok (.aload_n 1, 1) := by decide +kernel
theorem dL_law_314 : decode cL_law 314 = .ok (.aload_n 0, 1) := by decide +kernel
theorem dL_law_315 : decode cL_law 315 = .ok (.iload_n 3, 1) := by decide +kernel
theorem dL_law_316 : decode cL_law 316 = .ok (.iconst 1, 1) := by decide +kernel
theorem dL_law_317 : decode cL_law 317 = .ok (.iadd, 1) := by decide +kernel
theorem dL_law_318 : decode cL_law 318 = .ok (.iaload, 1) := by decide +kernel
theorem dL_law_319 : decode cL_law 319 = .ok (.aload_n 0, 1) := by decide +kernel
theorem dL_law_320 : decode cL_law 320 = .ok (.iload_n 3, 1) := by decide +kernel
theorem dL_law_321 : decode cL_law 321 = .ok (.iconst 2, 1) := by decide +kernel
theorem dL_law_322 : decode cL_law 322 = .ok (.iadd, 1) := by decide +kernel
theorem dL_law_323 : decode cL_law 323 = .ok (.iaload, 1) := by decide +kernel
theorem dL_law_324 : decode cL_law 324 = .ok (.invokevirtual 27, 3) := by decide +kernel
theorem dL_law_327 : decode cL_law 327 = .ok (.aload_n 2, 1) := by decide +kernel
theorem dL_law_328 : decode cL_law 328 = .ok (.aload_n 0, 1) := by decide +kernel
theorem dL_law_329 : decode cL_law 329 = .ok (.iload_n 3, 1) := by decide +kernel
theorem dL_law_330 : decode cL_law 330 = .ok (.iconst 1, 1) := by decide +kernel
theorem dL_law_331 : decode cL_law 331 = .ok (.iadd, 1) := by decide +kernel
theorem dL_law_332 : decode cL_law 332 = .ok (.iaload, 1) := by decide +kernel
theorem dL_law_333 : decode cL_law 333 = .ok (.aload_n 0, 1) := by decide +kernel
theorem dL_law_334 : decode cL_law 334 = .ok (.iload_n 3, 1) := by decide +kernel
theorem dL_law_335 : decode cL_law 335 = .ok (.iconst 2, 1) := by decide +kernel
theorem dL_law_336 : decode cL_law 336 = .ok (.iadd, 1) := by decide +kernel
theorem dL_law_337 : decode cL_law 337 = .ok (.iaload, 1) := by decide +kernel
theorem dL_law_338 : decode cL_law 338 = .ok (.invokevirtual 31, 3) := by decide +kernel
theorem dL_law_341 : decode cL_law 341 = .ok (.if_icmp .eq 1111, 3) := by decide +kernel
theorem dL_law_344 : decode cL_law 344 = .ok (.iconst 0, 1) := by decide +kernel
theorem dL_law_345 : decode cL_law 345 = .ok (.ireturn, 1) := by decide +kernel
theorem dL_law_346 : decode cL_law 346 = .ok (.aload_n 1, 1) := by decide +kernel
theorem dL_law_347 : decode cL_law 347 = .ok (.aload_n 0, 1) := by decide +kernel
theorem dL_law_348 : decode cL_law 348 = .ok (.iload_n 3, 1) := by decide +kernel
theorem dL_law_349 : decode cL_law 349 = .ok (.iconst 1, 1) := by decide +kernel
theorem dL_law_350 : decode cL_law 350 = .ok (.iadd, 1) := by decide +kernel
theorem dL_law_351 : decode cL_law 351 = .ok (.iaload, 1) := by decide +kernel
theorem dL_law_352 : decode cL_law 352 = .ok (.invokevirtual 32, 3) := by decide +kernel
theorem dL_law_355 : decode cL_law 355 = .ok (.aload_n 2, 1) := by decide +kernel
theorem dL_law_356 : decode cL_law 356 = .ok (.aload_n 0, 1) := by decide +kernel
theorem dL_law_357 : decode cL_law 357 = .ok (.iload_n 3, 1) := by decide +kernel
theorem dL_law_358 : decode cL_law 358 = .ok (.iconst 1, 1) := by decide +kernel
theorem dL_law_359 : decode cL_law 359 = .ok (.iadd, 1) := by decide +kernel
theorem dL_law_360 : decode cL_law 360 = .ok (.iaload, 1) := by decide +kernel
theorem dL_law_361 : decode cL_law 361 = .ok (.invokevirtual 35, 3) := by decide +kernel
theorem dL_law_364 : decode cL_law 364 = .ok (.if_icmp .eq 1088, 3) := by decide +kernel
theorem dL_law_367 : decode cL_law 367 = .ok (.iconst 0, 1) := by decide +kernel
theorem dL_law_368 : decode cL_law 368 = .ok (.ireturn, 1) := by decide +kernel
theorem dL_law_369 : decode cL_law 369 = .ok (.aload_n 1, 1) := by decide +kernel
theorem dL_law_370 : decode cL_law 370 = .ok (.aload_n 0, 1) := by decide +kernel
theorem dL_law_371 : decode cL_law 371 = .ok (.iload_n 3, 1) := by decide +kernel
theorem dL_law_372 : decode cL_law 372 = .ok (.iconst 1, 1) := by decide +kernel
theorem dL_law_373 : decode cL_law 373 = .ok (.iadd, 1) := by decide +kernel
theorem dL_law_374 : decode cL_law 374 = .ok (.iaload, 1) := by decide +kernel
theorem dL_law_375 : decode cL_law 375 = .ok (.invokevirtual 36, 3) := by decide +kernel
theorem dL_law_378 : decode cL_law 378 = .ok (.aload_n 2, 1) := by decide +kernel
theorem dL_law_379 : decode cL_law 379 = .ok (.aload_n 0, 1) := by decide +kernel
theorem dL_law_380 : decode cL_law 380 = .ok (.iload_n 3, 1) := by decide +kernel
theorem dL_law_381 : decode cL_law 381 = .ok (.iconst 1, 1) := by decide +kernel
theorem dL_law_382 : decode cL_law 382 = .ok (.iadd, 1) := by decide +kernel
theorem dL_law_383 : decode cL_law 383 = .ok (.iaload, 1) := by decide +kernel
theorem dL_law_384 : decode cL_law 384 = .ok (.invokevirtual 39, 3) := by decide +kernel
theorem dL_law_387 : decode cL_law 387 = .ok (.if_icmp .eq 1065, 3) := by decide +kernel
theorem dL_law_390 : decode cL_law 390 = .ok (.iconst 0, 1) := by decide +kernel
theorem dL_law_391 : decode cL_law 391 = .ok (.ireturn, 1) := by decide +kernel
theorem dL_law_392 : decode cL_law 392 = .ok (.aload_n 1, 1) := by decide +kernel
theorem dL_law_393 : decode cL_law 393 = .ok (.aload_n 0, 1) := by decide +kernel
theorem dL_law_394 : decode cL_law 394 = .ok (.iload_n 3, 1) := by decide +kernel
theorem dL_law_395 : decode cL_law 395 = .ok (.iconst 1, 1) := by decide +kernel
theorem dL_law_396 : decode cL_law 396 = .ok (.iadd, 1) := by decide +kernel
theorem dL_law_397 : decode cL_law 397 = .ok (.iaload, 1) := by decide +kernel
theorem dL_law_398 : decode cL_law 398 = .ok (.aload_n 0, 1) := by decide +kernel
theorem dL_law_399 : decode cL_law 399 = .ok (.iload_n 3, 1) := by decide +kernel
theorem dL_law_400 : decode cL_law 400 = .ok (.iconst 2, 1) := by decide +kernel
theorem dL_law_401 : decode cL_law 401 = .ok (.iadd, 1) := by decide +kernel
theorem dL_law_402 : decode cL_law 402 = .ok (.iaload, 1) := by decide +kernel
theorem dL_law_403 : decode cL_law 403 = .ok (.invokevirtual 40, 3) := by decide +kernel
theorem dL_law_406 : decode cL_law 406 = .ok (.aload_n 2, 1) := by decide +kernel
theorem dL_law_407 : decode cL_law 407 = .ok (.aload_n 0, 1) := by decide +kernel
theorem dL_law_408 : decode cL_law 408 = .ok (.iload_n 3, 1) := by decide +kernel
theorem dL_law_409 : decode cL_law 409 = .ok (.iconst 1, 1) := by decide +kernel
theorem dL_law_410 : decode cL_law 410 = .ok (.iadd, 1) := by decide +kernel
theorem dL_law_411 : decode cL_law 411 = .ok (.iaload, 1) := by decide +kernel
theorem dL_law_412 : decode cL_law 412 = .ok (.aload_n 0, 1) := by decide +kernel
theorem dL_law_413 : decode cL_law 413 = .ok (.iload_n 3, 1) := by decide +kernel
theorem dL_law_414 : decode cL_law 414 = .ok (.iconst 2, 1) := by decide +kernel
theorem dL_law_415 : decode cL_law 415 = .ok (.iadd, 1) := by decide +kernel
theorem dL_law_416 : decode cL_law 416 = .ok (.iaload, 1) := by decide +kernel
theorem dL_law_417 : decode cL_law 417 = .ok (.invokevirtual 43, 3) := by decide +kernel
theorem dL_law_420 : decode cL_law 420 = .ok (.if_icmp .eq 1032, 3) := by decide +kernel
theorem dL_law_423 : decode cL_law 423 = .ok (.iconst 0, 1) := by decide +kernel
theorem dL_law_424 : decode cL_law 424 = .ok (.ireturn, 1) := by decide +kernel
theorem dL_law_425 : decode cL_law 425 = .ok (.aload_n 1, 1) := by decide +kernel
theorem dL_law_426 : decode cL_law 426 = .ok (.aload_n 0, 1) := by decide +kernel
theorem dL_law_427 : decode cL_law 427 = .ok (.iload_n 3, 1) := by decide +kernel
theorem dL_law_428 : decode cL_law 428 = .ok (.iconst 1, 1) := by decide +kernel
theorem dL_law_429 : decode cL_law 429 = .ok (.iadd, 1) := by decide +kernel
theorem dL_law_430 : decode cL_law 430 = .ok (.iaload, 1) := by decide +kernel
theorem dL_law_431 : decode cL_law 431 = .ok (.aload_n 0, 1) := by decide +kernel
theorem dL_law_432 : decode cL_law 432 = .ok (.iload_n 3, 1) := by decide +kernel
theorem dL_law_433 : decode cL_law 433 = .ok (.iconst 2, 1) := by decide +kernel
theorem dL_law_434 : decode cL_law 434 = .ok (.iadd, 1) := by decide +kernel
theorem dL_law_435 : decode cL_law 435 = .ok (.iaload, 1) := by decide +kernel
theorem dL_law_436 : decode cL_law 436 = .ok (.aload_n 0, 1) := by decide +kernel
theorem dL_law_437 : decode cL_law 437 = .ok (.iload_n 3, 1) := by decide +kernel
theorem dL_law_438 : decode cL_law 438 = .ok (.iconst 3, 1) := by decide +kernel
theorem dL_law_439 : decode cL_law 439 = .ok (.iadd, 1) := by decide +kernel
theorem dL_law_440 : decode cL_law 440 = .ok (.iaload, 1) := by decide +kernel
theorem dL_law_441 : decode cL_law 441 = .ok (.invokevirtual 44, 3) := by decide +kernel
theorem dL_law_444 : decode cL_law 444 = .ok (.aload_n 2, 1) := by decide +kernel
theorem dL_law_445 : decode cL_law 445 = .ok (.aload_n 0, 1) := by decide +kernel
theorem dL_law_446 : decode cL_law 446 = .ok (.iload_n 3, 1) := by decide +kernel
theorem dL_law_447 : decode cL_law 447 = .ok (.iconst 1, 1) := by decide +kernel
theorem dL_law_448 : decode cL_law 448 = .ok (.iadd, 1) := by decide +kernel
theorem dL_law_449 : decode cL_law 449 = .ok (.iaload, 1) := by decide +kernel
theorem dL_law_450 : decode cL_law 450 = .ok (.aload_n 0, 1) := by decide +kernel
theorem dL_law_451 : decode cL_law 451 = .ok (.iload_n 3, 1) := by decide +kernel
theorem dL_law_452 : decode cL_law 452 = .ok (.iconst 2, 1) := by decide +kernel
theorem dL_law_453 : decode cL_law 453 = .ok (.iadd, 1) := by decide +kernel
theorem dL_law_454 : decode cL_law 454 = .ok (.iaload, 1) := by decide +kernel
theorem dL_law_455 : decode cL_law 455 = .ok (.aload_n 0, 1) := by decide +kernel
theorem dL_law_456 : decode cL_law 456 = .ok (.iload_n 3, 1) := by decide +kernel
theorem dL_law_457 : decode cL_law 457 = .ok (.iconst 3, 1) := by decide +kernel
theorem dL_law_458 : decode cL_law 458 = .ok (.iadd, 1) := by decide +kernel
theorem dL_law_459 : decode cL_law 459 = .ok (.iaload, 1) := by decide +kernel
theorem dL_law_460 : decode cL_law 460 = .ok (.invokevirtual 47, 3) := by decide +kernel
theorem dL_law_463 : decode cL_law 463 = .ok (.if_icmp .eq 989, 3) := by decide +kernel
theorem dL_law_466 : decode cL_law 466 = .ok (.iconst 0, 1) := by decide +kernel
theorem dL_law_467 : decode cL_law 467 = .ok (.ireturn, 1) := by decide +kernel
theorem dL_law_468 : decode cL_law 468 = .ok (.aload_n 1, 1) := by decide +kernel
theorem dL_law_469 : decode cL_law 469 = .ok (.aload_n 0, 1) := by decide +kernel
theorem dL_law_470 : decode cL_law 470 = .ok (.iload_n 3, 1) := by decide +kernel
theorem dL_law_471 : decode cL_law 471 = .ok (.iconst 1, 1) := by decide +kernel
theorem dL_law_472 : decode cL_law 472 = .ok (.iadd, 1) := by decide +kernel
theorem dL_law_473 : decode cL_law 473 = .ok (.iaload, 1) := by decide +kernel
theorem dL_law_474 : decode cL_law 474 = .ok (.aload_n 0, 1) := by decide +kernel
theorem dL_law_475 : decode cL_law 475 = .ok (.iload_n 3, 1) := by decide +kernel
theorem dL_law_476 : decode cL_law 476 = .ok (.iconst 2, 1) := by decide +kernel
theorem dL_law_477 : decode cL_law 477 = .ok (.iadd, 1) := by decide +kernel
theorem dL_law_478 : decode cL_law 478 = .ok (.iaload, 1) := by decide +kernel
theorem dL_law_479 : decode cL_law 479 = .ok (.invokevirtual 48, 3) := by decide +kernel
theorem dL_law_482 : decode cL_law 482 = .ok (.aload_n 2, 1) := by decide +kernel
theorem dL_law_483 : decode cL_law 483 = .ok (.aload_n 0, 1) := by decide +kernel
theorem dL_law_484 : decode cL_law 484 = .ok (.iload_n 3, 1) := by decide +kernel
theorem dL_law_485 : decode cL_law 485 = .ok (.iconst 1, 1) := by decide +kernel
theorem dL_law_486 : decode cL_law 486 = .ok (.iadd, 1) := by decide +kernel
theorem dL_law_487 : decode cL_law 487 = .ok (.iaload, 1) := by decide +kernel
theorem dL_law_488 : decode cL_law 488 = .ok (.aload_n 0, 1) := by decide +kernel
theorem dL_law_489 : decode cL_law 489 = .ok (.iload_n 3, 1) := by decide +kernel
theorem dL_law_490 : decode cL_law 490 = .ok (.iconst 2, 1) := by decide +kernel
theorem dL_law_491 : decode cL_law 491 = .ok (.iadd, 1) := by decide +kernel
theorem dL_law_492 : decode cL_law 492 = .ok (.iaload, 1) := by decide +kernel
theorem dL_law_493 : decode cL_law 493 = .ok (.invokevirtual 51, 3) := by decide +kernel
theorem dL_law_496 : decode cL_law 496 = .ok (.if_icmp .eq 956, 3) := by decide +kernel
theorem dL_law_499 : decode cL_law 499 = .ok (.iconst 0, 1) := by decide +kernel
theorem dL_law_500 : decode cL_law 500 = .ok (.ireturn, 1) := by decide +kernel
theorem dL_law_501 : decode cL_law 501 = .ok (.aload_n 1, 1) := by decide +kernel
theorem dL_law_502 : decode cL_law 502 = .ok (.aload_n 0, 1) := by decide +kernel
theorem dL_law_503 : decode cL_law 503 = .ok (.iload_n 3, 1) := by decide +kernel
theorem dL_law_504 : decode cL_law 504 = .ok (.iconst 1, 1) := by decide +kernel
theorem dL_law_505 : decode cL_law 505 = .ok (.iadd, 1) := by decide +kernel
theorem dL_law_506 : decode cL_law 506 = .ok (.iaload, 1) := by decide +kernel
theorem dL_law_507 : decode cL_law 507 = .ok (.aload_n 0, 1) := by decide +kernel
theorem dL_law_508 : decode cL_law 508 = .ok (.iload_n 3, 1) := by decide +kernel
theorem dL_law_509 : decode cL_law 509 = .ok (.iconst 2, 1) := by decide +kernel
theorem dL_law_510 : decode cL_law 510 = .ok (.iadd, 1) := by decide +kernel
theorem dL_law_511 : decode cL_law 511 = .ok (.iaload, 1) := by decide +kernel
theorem dL_law_512 : decode cL_law 512 = .ok (.invokevirtual 52, 3) := by decide +kernel
theorem dL_law_515 : decode cL_law 515 = .ok (.aload_n 2, 1) := by decide +kernel
theorem dL_law_516 : decode cL_law 516 = .ok (.aload_n 0, 1) := by decide +kernel
theorem dL_law_517 : decode cL_law 517 = .ok (.iload_n 3, 1) := by decide +kernel
theorem dL_law_518 : decode cL_law 518 = .ok (.iconst 1, 1) := by decide +kernel
theorem dL_law_519 : decode cL_law 519 = .ok (.iadd, 1) := by decide +kernel
theorem dL_law_520 : decode cL_law 520 = .ok (.iaload, 1) := by decide +kernel
theorem dL_law_521 : decode cL_law 521 = .ok (.aload_n 0, 1) := by decide +kernel
theorem dL_law_522 : decode cL_law 522 = .ok (.iload_n 3, 1) := by decide +kernel
theorem dL_law_523 : decode cL_law 523 = .ok (.iconst 2, 1) := by decide +kernel
theorem dL_law_524 : decode cL_law 524 = .ok (.iadd, 1) := by decide +kernel
theorem dL_law_525 : decode cL_law 525 = .ok (.iaload, 1) := by decide +kernel
theorem dL_law_526 : decode cL_law 526 = .ok (.invokevirtual 55, 3) := by decide +kernel
theorem dL_law_529 : decode cL_law 529 = .ok (.if_icmp .eq 923, 3) := by decide +kernel
theorem dL_law_532 : decode cL_law 532 = .ok (.iconst 0, 1) := by decide +kernel
theorem dL_law_533 : decode cL_law 533 = .ok (.ireturn, 1) := by decide +kernel
theorem dL_law_534 : decode cL_law 534 = .ok (.aload_n 1, 1) := by decide +kernel
theorem dL_law_535 : decode cL_law 535 = .ok (.aload_n 0, 1) := by decide +kernel
theorem dL_law_536 : decode cL_law 536 = .ok (.iload_n 3, 1) := by decide +kernel
theorem dL_law_537 : decode cL_law 537 = .ok (.iconst 1, 1) := by decide +kernel
theorem dL_law_538 : decode cL_law 538 = .ok (.iadd, 1) := by decide +kernel
theorem dL_law_539 : decode cL_law 539 = .ok (.iaload, 1) := by decide +kernel
theorem dL_law_540 : decode cL_law 540 = .ok (.aload_n 0, 1) := by decide +kernel
theorem dL_law_541 : decode cL_law 541 = .ok (.iload_n 3, 1) := by decide +kernel
theorem dL_law_542 : decode cL_law 542 = .ok (.iconst 2, 1) := by decide +kernel
theorem dL_law_543 : decode cL_law 543 = .ok (.iadd, 1) := by decide +kernel
theorem dL_law_544 : decode cL_law 544 = .ok (.iaload, 1) := by decide +kernel
theorem dL_law_545 : decode cL_law 545 = .ok (.aload_n 0, 1) := by decide +kernel
theorem dL_law_546 : decode cL_law 546 = .ok (.iload_n 3, 1) := by decide +kernel
theorem dL_law_547 : decode cL_law 547 = .ok (.iconst 3, 1) := by decide +kernel
theorem dL_law_548 : decode cL_law 548 = .ok (.iadd, 1) := by decide +kernel
theorem dL_law_549 : decode cL_law 549 = .ok (.iaload, 1) := by decide +kernel
theorem dL_law_550 : decode cL_law 550 = .ok (.invokevirtual 56, 3) := by decide +kernel
theorem dL_law_553 : decode cL_law 553 = .ok (.aload_n 2, 1) := by decide +kernel
theorem dL_law_554 : decode cL_law 554 = .ok (.aload_n 0, 1) := by decide +kernel
theorem dL_law_555 : decode cL_law 555 = .ok (.iload_n 3, 1) := by decide +kernel
theorem dL_law_556 : decode cL_law 556 = .ok (.iconst 1, 1) := by decide +kernel
theorem dL_law_557 : decode cL_law 557 = .ok (.iadd, 1) := by decide +kernel
theorem dL_law_558 : decode cL_law 558 = .ok (.iaload, 1) := by decide +kernel
theorem dL_law_559 : decode cL_law 559 = .ok (.aload_n 0, 1) := by decide +kernel
theorem dL_law_560 : decode cL_law 560 = .ok (.iload_n 3, 1) := by decide +kernel
theorem dL_law_561 : decode cL_law 561 = .ok (.iconst 2, 1) := by decide +kernel
theorem dL_law_562 : decode cL_law 562 = .ok (.iadd, 1) := by decide +kernel
theorem dL_law_563 : decode cL_law 563 = .ok (.iaload, 1) := by decide +kernel
theorem dL_law_564 : decode cL_law 564 = .ok (.aload_n 0, 1) := by decide +kernel
theorem dL_law_565 : decode cL_law 565 = .ok (.iload_n 3, 1) := by decide +kernel
theorem dL_law_566 : decode cL_law 566 = .ok (.iconst 3, 1) := by decide +kernel
theorem dL_law_567 : decode cL_law 567 = .ok (.iadd, 1) := by decide +kernel
theorem dL_law_568 : decode cL_law 568 = .ok (.iaload, 1) := by decide +kernel
theorem dL_law_569 : decode cL_law 569 = .ok (.invokevirtual 59, 3) := by decide +kernel
theorem dL_law_572 : decode cL_law 572 = .ok (.if_icmp .eq 880, 3) := by decide +kernel
theorem dL_law_575 : decode cL_law 575 = .ok (.iconst 0, 1) := by decide +kernel
theorem dL_law_576 : decode cL_law 576 = .ok (.ireturn, 1) := by decide +kernel
theorem dL_law_577 : decode cL_law 577 = .ok (.aload_n 1, 1) := by decide +kernel
theorem dL_law_578 : decode cL_law 578 = .ok (.aload_n 0, 1) := by decide +kernel
theorem dL_law_579 : decode cL_law 579 = .ok (.iload_n 3, 1) := by decide +kernel
theorem dL_law_580 : decode cL_law 580 = .ok (.iconst 1, 1) := by decide +kernel
theorem dL_law_581 : decode cL_law 581 = .ok (.iadd, 1) := by decide +kernel
theorem dL_law_582 : decode cL_law 582 = .ok (.iaload, 1) := by decide +kernel
theorem dL_law_583 : decode cL_law 583 = .ok (.aload_n 0, 1) := by decide +kernel
theorem dL_law_584 : decode cL_law 584 = .ok (.iload_n 3, 1) := by decide +kernel
theorem dL_law_585 : decode cL_law 585 = .ok (.iconst 2, 1) := by decide +kernel
theorem dL_law_586 : decode cL_law 586 = .ok (.iadd, 1) := by decide +kernel
theorem dL_law_587 : decode cL_law 587 = .ok (.iaload, 1) := by decide +kernel
theorem dL_law_588 : decode cL_law 588 = .ok (.aload_n 0, 1) := by decide +kernel
theorem dL_law_589 : decode cL_law 589 = .ok (.iload_n 3, 1) := by decide +kernel
theorem dL_law_590 : decode cL_law 590 = .ok (.iconst 3, 1) := by decide +kernel
theorem dL_law_591 : decode cL_law 591 = .ok (.iadd, 1) := by decide +kernel
theorem dL_law_592 : decode cL_law 592 = .ok (.iaload, 1) := by decide +kernel
theorem dL_law_593 : decode cL_law 593 = .ok (.invokevirtual 60, 3) := by decide +kernel
theorem dL_law_596 : decode cL_law 596 = .ok (.aload_n 2, 1) := by decide +kernel
theorem dL_law_597 : decode cL_law 597 = .ok (.aload_n 0, 1) := by decide +kernel
theorem dL_law_598 : decode cL_law 598 = .ok (.iload_n 3, 1) := by decide +kernel
theorem dL_law_599 : decode cL_law 599 = .ok (.iconst 1, 1) := by decide +kernel
theorem dL_law_600 : decode cL_law 600 = .ok (.iadd, 1) := by decide +kernel
theorem dL_law_601 : decode cL_law 601 = .ok (.iaload, 1) := by decide +kernel
theorem dL_law_602 : decode cL_law 602 = .ok (.aload_n 0, 1) := by decide +kernel
theorem dL_law_603 : decode cL_law 603 = .ok (.iload_n 3, 1) := by decide +kernel
theorem dL_law_604 : decode cL_law 604 = .ok (.iconst 2, 1) := by decide +kernel
theorem dL_law_605 : decode cL_law 605 = .ok (.iadd, 1) := by decide +kernel
theorem dL_law_606 : decode cL_law 606 = .ok (.iaload, 1) := by decide +kernel
theorem dL_law_607 : decode cL_law 607 = .ok (.aload_n 0, 1) := by decide +kernel
theorem dL_law_608 : decode cL_law 608 = .ok (.iload_n 3, 1) := by decide +kernel
theorem dL_law_609 : decode cL_law 609 = .ok (.iconst 3, 1) := by decide +kernel
theorem dL_law_610 : decode cL_law 610 = .ok (.iadd, 1) := by decide +kernel
theorem dL_law_611 : decode cL_law 611 = .ok (.iaload, 1) := by decide +kernel
theorem dL_law_612 : decode cL_law 612 = .ok (.invokevirtual 63, 3) := by decide +kernel
theorem dL_law_615 : decode cL_law 615 = .ok (.if_icmp .eq 837, 3) := by decide +kernel
theorem dL_law_618 : decode cL_law 618 = .ok (.iconst 0, 1) := by decide +kernel
theorem dL_law_619 : decode cL_law 619 = .ok (.ireturn, 1) := by decide +kernel
theorem dL_law_620 : decode cL_law 620 = .ok (.aload_n 1, 1) := by decide +kernel
theorem dL_law_621 : decode cL_law 621 = .ok (.aload_n 0, 1) := by decide +kernel
theorem dL_law_622 : decode cL_law 622 = .ok (.iload_n 3, 1) := by decide +kernel
theorem dL_law_623 : decode cL_law 623 = .ok (.iconst 1, 1) := by decide +kernel
theorem dL_law_624 : decode cL_law 624 = .ok (.iadd, 1) := by decide +kernel
theorem dL_law_625 : decode cL_law 625 = .ok (.iaload, 1) := by decide +kernel
theorem dL_law_626 : decode cL_law 626 = .ok (.aload_n 0, 1) := by decide +kernel
theorem dL_law_627 : decode cL_law 627 = .ok (.iload_n 3, 1) := by decide +kernel
theorem dL_law_628 : decode cL_law 628 = .ok (.iconst 2, 1) := by decide +kernel
theorem dL_law_629 : decode cL_law 629 = .ok (.iadd, 1) := by decide +kernel
theorem dL_law_630 : decode cL_law 630 = .ok (.iaload, 1) := by decide +kernel
theorem dL_law_631 : decode cL_law 631 = .ok (.invokevirtual 64, 3) := by decide +kernel
theorem dL_law_634 : decode cL_law 634 = .ok (.aload_n 2, 1) := by decide +kernel
theorem dL_law_635 : decode cL_law 635 = .ok (.aload_n 0, 1) := by decide +kernel
theorem dL_law_636 : decode cL_law 636 = .ok (.iload_n 3, 1) := by decide +kernel
theorem dL_law_637 : decode cL_law 637 = .ok (.iconst 1, 1) := by decide +kernel
theorem dL_law_638 : decode cL_law 638 = .ok (.iadd, 1) := by decide +kernel
theorem dL_law_639 : decode cL_law 639 = .ok (.iaload, 1) := by decide +kernel
theorem dL_law_640 : decode cL_law 640 = .ok (.aload_n 0, 1) := by decide +kernel
theorem dL_law_641 : decode cL_law 641 = .ok (.iload_n 3, 1) := by decide +kernel
theorem dL_law_642 : decode cL_law 642 = .ok (.iconst 2, 1) := by decide +kernel
theorem dL_law_643 : decode cL_law 643 = .ok (.iadd, 1) := by decide +kernel
theorem dL_law_644 : decode cL_law 644 = .ok (.iaload, 1) := by decide +kernel
theorem dL_law_645 : decode cL_law 645 = .ok (.invokevirtual 67, 3) := by decide +kernel
theorem dL_law_648 : decode cL_law 648 = .ok (.if_icmp .eq 804, 3) := by decide +kernel
theorem dL_law_651 : decode cL_law 651 = .ok (.iconst 0, 1) := by decide +kernel
theorem dL_law_652 : decode cL_law 652 = .ok (.ireturn, 1) := by decide +kernel
theorem dL_law_653 : decode cL_law 653 = .ok (.aload_n 1, 1) := by decide +kernel
theorem dL_law_654 : decode cL_law 654 = .ok (.aload_n 0, 1) := by decide +kernel
theorem dL_law_655 : decode cL_law 655 = .ok (.iload_n 3, 1) := by decide +kernel
theorem dL_law_656 : decode cL_law 656 = .ok (.iconst 1, 1) := by decide +kernel
theorem dL_law_657 : decode cL_law 657 = .ok (.iadd, 1) := by decide +kernel
theorem dL_law_658 : decode cL_law 658 = .ok (.iaload, 1) := by decide +kernel
theorem dL_law_659 : decode cL_law 659 = .ok (.aload_n 0, 1) := by decide +kernel
theorem dL_law_660 : decode cL_law 660 = .ok (.iload_n 3, 1) := by decide +kernel
theorem dL_law_661 : decode cL_law 661 = .ok (.iconst 2, 1) := by decide +kernel
theorem dL_law_662 : decode cL_law 662 = .ok (.iadd, 1) := by decide +kernel
theorem dL_law_663 : decode cL_law 663 = .ok (.iaload, 1) := by decide +kernel
theorem dL_law_664 : decode cL_law 664 = .ok (.invokevirtual 68, 3) := by decide +kernel
theorem dL_law_667 : decode cL_law 667 = .ok (.aload_n 2, 1) := by decide +kernel
theorem dL_law_668 : decode cL_law 668 = .ok (.aload_n 0, 1) := by decide +kernel
theorem dL_law_669 : decode cL_law 669 = .ok (.iload_n 3, 1) := by decide +kernel
theorem dL_law_670 : decode cL_law 670 = .ok (.iconst 1, 1) := by decide +kernel
theorem dL_law_671 : decode cL_law 671 = .ok (.iadd, 1) := by decide +kernel
theorem dL_law_672 : decode cL_law 672 = .ok (.iaload, 1) := by decide +kernel
theorem dL_law_673 : decode cL_law 673 = .ok (.aload_n 0, 1) := by decide +kernel
theorem dL_law_674 : decode cL_law 674 = .ok (.iload_n 3, 1) := by decide +kernel
theorem dL_law_675 : decode cL_law 675 = .ok (.iconst 2, 1) := by decide +kernel
theorem dL_law_676 : decode cL_law 676 = .ok (.iadd, 1) := by decide +kernel
theorem dL_law_677 : decode cL_law 677 = .ok (.iaload, 1) := by decide +kernel
theorem dL_law_678 : decode cL_law 678 = .ok (.invokevirtual 71, 3) := by decide +kernel
theorem dL_law_681 : decode cL_law 681 = .ok (.if_icmp .eq 771, 3) := by decide +kernel
theorem dL_law_684 : decode cL_law 684 = .ok (.iconst 0, 1) := by decide +kernel
theorem dL_law_685 : decode cL_law 685 = .ok (.ireturn, 1) := by decide +kernel
theorem dL_law_686 : decode cL_law 686 = .ok (.aload_n 1, 1) := by decide +kernel
theorem dL_law_687 : decode cL_law 687 = .ok (.aload_n 0, 1) := by decide +kernel
theorem dL_law_688 : decode cL_law 688 = .ok (.iload_n 3, 1) := by decide +kernel
theorem dL_law_689 : decode cL_law 689 = .ok (.iconst 1, 1) := by decide +kernel
theorem dL_law_690 : decode cL_law 690 = .ok (.iadd, 1) := by decide +kernel
theorem dL_law_691 : decode cL_law 691 = .ok (.iaload, 1) := by decide +kernel
theorem dL_law_692 : decode cL_law 692 = .ok (.invokevirtual 72, 3) := by decide +kernel
theorem dL_law_695 : decode cL_law 695 = .ok (.aload_n 2, 1) := by decide +kernel
theorem dL_law_696 : decode cL_law 696 = .ok (.aload_n 0, 1) := by decide +kernel
theorem dL_law_697 : decode cL_law 697 = .ok (.iload_n 3, 1) := by decide +kernel
theorem dL_law_698 : decode cL_law 698 = .ok (.iconst 1, 1) := by decide +kernel
theorem dL_law_699 : decode cL_law 699 = .ok (.iadd, 1) := by decide +kernel
theorem dL_law_700 : decode cL_law 700 = .ok (.iaload, 1) := by decide +kernel
theorem dL_law_701 : decode cL_law 701 = .ok (.invokevirtual 75, 3) := by decide +kernel
theorem dL_law_704 : decode cL_law 704 = .ok (.if_icmp .eq 748, 3) := by decide +kernel
theorem dL_law_707 : decode cL_law 707 = .ok (.iconst 0, 1) := by decide +kernel
theorem dL_law_708 : decode cL_law 708 = .ok (.ireturn, 1) := by decide +kernel
theorem dL_law_709 : decode cL_law 709 = .ok (.aload_n 1, 1) := by decide +kernel
theorem dL_law_710 : decode cL_law 710 = .ok (.aload_n 0, 1) := by decide +kernel
theorem dL_law_711 : decode cL_law 711 = .ok (.iload_n 3, 1) := by decide +kernel
theorem dL_law_712 : decode cL_law 712 = .ok (.iconst 1, 1) := by decide +kernel
theorem dL_law_713 : decode cL_law 713 = .ok (.iadd, 1) := by decide +kernel
theorem dL_law_714 : decode cL_law 714 = .ok (.iaload, 1) := by decide +kernel
theorem dL_law_715 : decode cL_law 715 = .ok (.aload_n 0, 1) := by decide +kernel
theorem dL_law_716 : decode cL_law 716 = .ok (.iload_n 3, 1) := by decide +kernel
theorem dL_law_717 : decode cL_law 717 = .ok (.iconst 2, 1) := by decide +kernel
theorem dL_law_718 : decode cL_law 718 = .ok (.iadd, 1) := by decide +kernel
theorem dL_law_719 : decode cL_law 719 = .ok (.iaload, 1) := by decide +kernel
theorem dL_law_720 : decode cL_law 720 = .ok (.invokevirtual 76, 3) := by decide +kernel
theorem dL_law_723 : decode cL_law 723 = .ok (.aload_n 2, 1) := by decide +kernel
theorem dL_law_724 : decode cL_law 724 = .ok (.aload_n 0, 1) := by decide +kernel
theorem dL_law_725 : decode cL_law 725 = .ok (.iload_n 3, 1) := by decide +kernel
theorem dL_law_726 : decode cL_law 726 = .ok (.iconst 1, 1) := by decide +kernel
theorem dL_law_727 : decode cL_law 727 = .ok (.iadd, 1) := by decide +kernel
theorem dL_law_728 : decode cL_law 728 = .ok (.iaload, 1) := by decide +kernel
theorem dL_law_729 : decode cL_law 729 = .ok (.aload_n 0, 1) := by decide +kernel
theorem dL_law_730 : decode cL_law 730 = .ok (.iload_n 3, 1) := by decide +kernel
theorem dL_law_731 : decode cL_law 731 = .ok (.iconst 2, 1) := by decide +kernel
theorem dL_law_732 : decode cL_law 732 = .ok (.iadd, 1) := by decide +kernel
theorem dL_law_733 : decode cL_law 733 = .ok (.iaload, 1) := by decide +kernel
theorem dL_law_734 : decode cL_law 734 = .ok (.invokevirtual 79, 3) := by decide +kernel
theorem dL_law_737 : decode cL_law 737 = .ok (.if_icmp .eq 715, 3) := by decide +kernel
theorem dL_law_740 : decode cL_law 740 = .ok (.iconst 0, 1) := by decide +kernel
theorem dL_law_741 : decode cL_law 741 = .ok (.ireturn, 1) := by decide +kernel
theorem dL_law_742 : decode cL_law 742 = .ok (.aload_n 1, 1) := by decide +kernel
theorem dL_law_743 : decode cL_law 743 = .ok (.aload_n 0, 1) := by decide +kernel
theorem dL_law_744 : decode cL_law 744 = .ok (.iload_n 3, 1) := by decide +kernel
theorem dL_law_745 : decode cL_law 745 = .ok (.iconst 1, 1) := by decide +kernel
theorem dL_law_746 : decode cL_law 746 = .ok (.iadd, 1) := by decide +kernel
theorem dL_law_747 : decode cL_law 747 = .ok (.iaload, 1) := by decide +kernel
theorem dL_law_748 : decode cL_law 748 = .ok (.aload_n 0, 1) := by decide +kernel
theorem dL_law_749 : decode cL_law 749 = .ok (.iload_n 3, 1) := by decide +kernel
theorem dL_law_750 : decode cL_law 750 = .ok (.iconst 2, 1) := by decide +kernel
theorem dL_law_751 : decode cL_law 751 = .ok (.iadd, 1) := by decide +kernel
theorem dL_law_752 : decode cL_law 752 = .ok (.iaload, 1) := by decide +kernel
theorem dL_law_753 : decode cL_law 753 = .ok (.invokevirtual 80, 3) := by decide +kernel
theorem dL_law_756 : decode cL_law 756 = .ok (.aload_n 2, 1) := by decide +kernel
theorem dL_law_757 : decode cL_law 757 = .ok (.aload_n 0, 1) := by decide +kernel
theorem dL_law_758 : decode cL_law 758 = .ok (.iload_n 3, 1) := by decide +kernel
theorem dL_law_759 : decode cL_law 759 = .ok (.iconst 1, 1) := by decide +kernel
theorem dL_law_760 : decode cL_law 760 = .ok (.iadd, 1) := by decide +kernel
theorem dL_law_761 : decode cL_law 761 = .ok (.iaload, 1) := by decide +kernel
theorem dL_law_762 : decode cL_law 762 = .ok (.aload_n 0, 1) := by decide +kernel
theorem dL_law_763 : decode cL_law 763 = .ok (.iload_n 3, 1) := by decide +kernel
theorem dL_law_764 : decode cL_law 764 = .ok (.iconst 2, 1) := by decide +kernel
theorem dL_law_765 : decode cL_law 765 = .ok (.iadd, 1) := by decide +kernel
theorem dL_law_766 : decode cL_law 766 = .ok (.iaload, 1) := by decide +kernel
theorem dL_law_767 : decode cL_law 767 = .ok (.invokevirtual 83, 3) := by decide +kernel
theorem dL_law_770 : decode cL_law 770 = .ok (.if_icmp .eq 682, 3) := by decide +kernel
theorem dL_law_773 : decode cL_law 773 = .ok (.iconst 0, 1) := by decide +kernel
theorem dL_law_774 : decode cL_law 774 = .ok (.ireturn, 1) := by decide +kernel
theorem dL_law_775 : decode cL_law 775 = .ok (.aload_n 1, 1) := by decide +kernel
theorem dL_law_776 : decode cL_law 776 = .ok (.aload_n 0, 1) := by decide +kernel
theorem dL_law_777 : decode cL_law 777 = .ok (.iload_n 3, 1) := by decide +kernel
theorem dL_law_778 : decode cL_law 778 = .ok (.iconst 1, 1) := by decide +kernel
theorem dL_law_779 : decode cL_law 779 = .ok (.iadd, 1) := by decide +kernel
theorem dL_law_780 : decode cL_law 780 = .ok (.iaload, 1) := by decide +kernel
theorem dL_law_781 : decode cL_law 781 = .ok (.invokevirtual 84, 3) := by decide +kernel
theorem dL_law_784 : decode cL_law 784 = .ok (.aload_n 2, 1) := by decide +kernel
theorem dL_law_785 : decode cL_law 785 = .ok (.aload_n 0, 1) := by decide +kernel
theorem dL_law_786 : decode cL_law 786 = .ok (.iload_n 3, 1) := by decide +kernel
theorem dL_law_787 : decode cL_law 787 = .ok (.iconst 1, 1) := by decide +kernel
theorem dL_law_788 : decode cL_law 788 = .ok (.iadd, 1) := by decide +kernel
theorem dL_law_789 : decode cL_law 789 = .ok (.iaload, 1) := by decide +kernel
theorem dL_law_790 : decode cL_law 790 = .ok (.invokevirtual 87, 3) := by decide +kernel
theorem dL_law_793 : decode cL_law 793 = .ok (.if_icmp .eq 659, 3) := by decide +kernel
theorem dL_law_796 : decode cL_law 796 = .ok (.iconst 0, 1) := by decide +kernel
theorem dL_law_797 : decode cL_law 797 = .ok (.ireturn, 1) := by decide +kernel
theorem dL_law_798 : decode cL_law 798 = .ok (.aload_n 1, 1) := by decide +kernel
theorem dL_law_799 : decode cL_law 799 = .ok (.aload_n 0, 1) := by decide +kernel
theorem dL_law_800 : decode cL_law 800 = .ok (.iload_n 3, 1) := by decide +kernel
theorem dL_law_801 : decode cL_law 801 = .ok (.iconst 1, 1) := by decide +kernel
theorem dL_law_802 : decode cL_law 802 = .ok (.iadd, 1) := by decide +kernel
theorem dL_law_803 : decode cL_law 803 = .ok (.iaload, 1) := by decide +kernel
theorem dL_law_804 : decode cL_law 804 = .ok (.aload_n 0, 1) := by decide +kernel
theorem dL_law_805 : decode cL_law 805 = .ok (.iload_n 3, 1) := by decide +kernel
theorem dL_law_806 : decode cL_law 806 = .ok (.iconst 2, 1) := by decide +kernel
theorem dL_law_807 : decode cL_law 807 = .ok (.iadd, 1) := by decide +kernel
theorem dL_law_808 : decode cL_law 808 = .ok (.iaload, 1) := by decide +kernel
theorem dL_law_809 : decode cL_law 809 = .ok (.invokevirtual 88, 3) := by decide +kernel
theorem dL_law_812 : decode cL_law 812 = .ok (.aload_n 2, 1) := by decide +kernel
theorem dL_law_813 : decode cL_law 813 = .ok (.aload_n 0, 1) := by decide +kernel
theorem dL_law_814 : decode cL_law 814 = .ok (.iload_n 3, 1) := by decide +kernel
theorem dL_law_815 : decode cL_law 815 = .ok (.iconst 1, 1) := by decide +kernel
theorem dL_law_816 : decode cL_law 816 = .ok (.iadd, 1) := by decide +kernel
theorem dL_law_817 : decode cL_law 817 = .ok (.iaload, 1) := by decide +kernel
theorem dL_law_818 : decode cL_law 818 = .ok (.aload_n 0, 1) := by decide +kernel
theorem dL_law_819 : decode cL_law 819 = .ok (.iload_n 3, 1) := by decide +kernel
theorem dL_law_820 : decode cL_law 820 = .ok (.iconst 2, 1) := by decide +kernel
theorem dL_law_821 : decode cL_law 821 = .ok (.iadd, 1) := by decide +kernel
theorem dL_law_822 : decode cL_law 822 = .ok (.iaload, 1) := by decide +kernel
theorem dL_law_823 : decode cL_law 823 = .ok (.invokevirtual 91, 3) := by decide +kernel
theorem dL_law_826 : decode cL_law 826 = .ok (.if_icmp .eq 626, 3) := by decide +kernel
theorem dL_law_829 : decode cL_law 829 = .ok (.iconst 0, 1) := by decide +kernel
theorem dL_law_830 : decode cL_law 830 = .ok (.ireturn, 1) := by decide +kernel
theorem dL_law_831 : decode cL_law 831 = .ok (.aload_n 1, 1) := by decide +kernel
theorem dL_law_832 : decode cL_law 832 = .ok (.aload_n 0, 1) := by decide +kernel
theorem dL_law_833 : decode cL_law 833 = .ok (.iload_n 3, 1) := by decide +kernel
theorem dL_law_834 : decode cL_law 834 = .ok (.iconst 1, 1) := by decide +kernel
theorem dL_law_835 : decode cL_law 835 = .ok (.iadd, 1) := by decide +kernel
theorem dL_law_836 : decode cL_law 836 = .ok (.iaload, 1) := by decide +kernel
theorem dL_law_837 : decode cL_law 837 = .ok (.aload_n 0, 1) := by decide +kernel
theorem dL_law_838 : decode cL_law 838 = .ok (.iload_n 3, 1) := by decide +kernel
theorem dL_law_839 : decode cL_law 839 = .ok (.iconst 2, 1) := by decide +kernel
theorem dL_law_840 : decode cL_law 840 = .ok (.iadd, 1) := by decide +kernel
theorem dL_law_841 : decode cL_law 841 = .ok (.iaload, 1) := by decide +kernel
theorem dL_law_842 : decode cL_law 842 = .ok (.invokevirtual 92, 3) := by decide +kernel
theorem dL_law_845 : decode cL_law 845 = .ok (.aload_n 2, 1) := by decide +kernel
theorem dL_law_846 : decode cL_law 846 = .ok (.aload_n 0, 1) := by decide +kernel
theorem dL_law_847 : decode cL_law 847 = .ok (.iload_n 3, 1) := by decide +kernel
theorem dL_law_848 : decode cL_law 848 = .ok (.iconst 1, 1) := by decide +kernel
theorem dL_law_849 : decode cL_law 849 = .ok (.iadd, 1) := by decide +kernel
theorem dL_law_850 : decode cL_law 850 = .ok (.iaload, 1) := by decide +kernel
theorem dL_law_851 : decode cL_law 851 = .ok (.aload_n 0, 1) := by decide +kernel
theorem dL_law_852 : decode cL_law 852 = .ok (.iload_n 3, 1) := by decide +kernel
theorem dL_law_853 : decode cL_law 853 = .ok (.iconst 2, 1) := by decide +kernel
theorem dL_law_854 : decode cL_law 854 = .ok (.iadd, 1) := by decide +kernel
theorem dL_law_855 : decode cL_law 855 = .ok (.iaload, 1) := by decide +kernel
theorem dL_law_856 : decode cL_law 856 = .ok (.invokevirtual 95, 3) := by decide +kernel
theorem dL_law_859 : decode cL_law 859 = .ok (.if_icmp .eq 593, 3) := by decide +kernel
theorem dL_law_862 : decode cL_law 862 = .ok (.iconst 0, 1) := by decide +kernel
theorem dL_law_863 : decode cL_law 863 = .ok (.ireturn, 1) := by decide +kernel
theorem dL_law_864 : decode cL_law 864 = .ok (.aload_n 1, 1) := by decide +kernel
theorem dL_law_865 : decode cL_law 865 = .ok (.aload_n 0, 1) := by decide +kernel
theorem dL_law_866 : decode cL_law 866 = .ok (.iload_n 3, 1) := by decide +kernel
theorem dL_law_867 : decode cL_law 867 = .ok (.iconst 1, 1) := by decide +kernel
theorem dL_law_868 : decode cL_law 868 = .ok (.iadd, 1) := by decide +kernel
theorem dL_law_869 : decode cL_law 869 = .ok (.iaload, 1) := by decide +kernel
theorem dL_law_870 : decode cL_law 870 = .ok (.aload_n 0, 1) := by decide +kernel
theorem dL_law_871 : decode cL_law 871 = .ok (.iload_n 3, 1) := by decide +kernel
theorem dL_law_872 : decode cL_law 872 = .ok (.iconst 2, 1) := by decide +kernel
theorem dL_law_873 : decode cL_law 873 = .ok (.iadd, 1) := by decide +kernel
theorem dL_law_874 : decode cL_law 874 = .ok (.iaload, 1) := by decide +kernel
theorem dL_law_875 : decode cL_law 875 = .ok (.invokevirtual 96, 3) := by decide +kernel
theorem dL_law_878 : decode cL_law 878 = .ok (.aload_n 2, 1) := by decide +kernel
theorem dL_law_879 : decode cL_law 879 = .ok (.aload_n 0, 1) := by decide +kernel
theorem dL_law_880 : decode cL_law 880 = .ok (.iload_n 3, 1) := by decide +kernel
theorem dL_law_881 : decode cL_law 881 = .ok (.iconst 1, 1) := by decide +kernel
theorem dL_law_882 : decode cL_law 882 = .ok (.iadd, 1) := by decide +kernel
theorem dL_law_883 : decode cL_law 883 = .ok (.iaload, 1) := by decide +kernel
theorem dL_law_884 : decode cL_law 884 = .ok (.aload_n 0, 1) := by decide +kernel
theorem dL_law_885 : decode cL_law 885 = .ok (.iload_n 3, 1) := by decide +kernel
theorem dL_law_886 : decode cL_law 886 = .ok (.iconst 2, 1) := by decide +kernel
theorem dL_law_887 : decode cL_law 887 = .ok (.iadd, 1) := by decide +kernel
theorem dL_law_888 : decode cL_law 888 = .ok (.iaload, 1) := by decide +kernel
theorem dL_law_889 : decode cL_law 889 = .ok (.invokevirtual 99, 3) := by decide +kernel
theorem dL_law_892 : decode cL_law 892 = .ok (.if_icmp .eq 560, 3) := by decide +kernel
theorem dL_law_895 : decode cL_law 895 = .ok (.iconst 0, 1) := by decide +kernel
theorem dL_law_896 : decode cL_law 896 = .ok (.ireturn, 1) := by decide +kernel
theorem dL_law_897 : decode cL_law 897 = .ok (.aload_n 1, 1) := by decide +kernel
theorem dL_law_898 : decode cL_law 898 = .ok (.aload_n 0, 1) := by decide +kernel
theorem dL_law_899 : decode cL_law 899 = .ok (.iload_n 3, 1) := by decide +kernel
theorem dL_law_900 : decode cL_law 900 = .ok (.iconst 1, 1) := by decide +kernel
theorem dL_law_901 : decode cL_law 901 = .ok (.iadd, 1) := by decide +kernel
theorem dL_law_902 : decode cL_law 902 = .ok (.iaload, 1) := by decide +kernel
theorem dL_law_903 : decode cL_law 903 = .ok (.aload_n 0, 1) := by decide +kernel
theorem dL_law_904 : decode cL_law 904 = .ok (.iload_n 3, 1) := by decide +kernel
theorem dL_law_905 : decode cL_law 905 = .ok (.iconst 2, 1) := by decide +kernel
theorem dL_law_906 : decode cL_law 906 = .ok (.iadd, 1) := by decide +kernel
theorem dL_law_907 : decode cL_law 907 = .ok (.iaload, 1) := by decide +kernel
theorem dL_law_908 : decode cL_law 908 = .ok (.invokevirtual 100, 3) := by decide +kernel
theorem dL_law_911 : decode cL_law 911 = .ok (.aload_n 2, 1) := by decide +kernel
theorem dL_law_912 : decode cL_law 912 = .ok (.aload_n 0, 1) := by decide +kernel
theorem dL_law_913 : decode cL_law 913 = .ok (.iload_n 3, 1) := by decide +kernel
theorem dL_law_914 : decode cL_law 914 = .ok (.iconst 1, 1) := by decide +kernel
theorem dL_law_915 : decode cL_law 915 = .ok (.iadd, 1) := by decide +kernel
theorem dL_law_916 : decode cL_law 916 = .ok (.iaload, 1) := by decide +kernel
theorem dL_law_917 : decode cL_law 917 = .ok (.aload_n 0, 1) := by decide +kernel
theorem dL_law_918 : decode cL_law 918 = .ok (.iload_n 3, 1) := by decide +kernel
theorem dL_law_919 : decode cL_law 919 = .ok (.iconst 2, 1) := by decide +kernel
theorem dL_law_920 : decode cL_law 920 = .ok (.iadd, 1) := by decide +kernel
theorem dL_law_921 : decode cL_law 921 = .ok (.iaload, 1) := by decide +kernel
theorem dL_law_922 : decode cL_law 922 = .ok (.invokevirtual 103, 3) := by decide +kernel
theorem dL_law_925 : decode cL_law 925 = .ok (.if_icmp .eq 527, 3) := by decide +kernel
theorem dL_law_928 : decode cL_law 928 = .ok (.iconst 0, 1) := by decide +kernel
theorem dL_law_929 : decode cL_law 929 = .ok (.ireturn, 1) := by decide +kernel
theorem dL_law_930 : decode cL_law 930 = .ok (.aload_n 1, 1) := by decide +kernel
theorem dL_law_931 : decode cL_law 931 = .ok (.aload_n 0, 1) := by decide +kernel
theorem dL_law_932 : decode cL_law 932 = .ok (.iload_n 3, 1) := by decide +kernel
theorem dL_law_933 : decode cL_law 933 = .ok (.iconst 1, 1) := by decide +kernel
theorem dL_law_934 : decode cL_law 934 = .ok (.iadd, 1) := by decide +kernel
theorem dL_law_935 : decode cL_law 935 = .ok (.iaload, 1) := by decide +kernel
theorem dL_law_936 : decode cL_law 936 = .ok (.aload_n 0, 1) := by decide +kernel
theorem dL_law_937 : decode cL_law 937 = .ok (.iload_n 3, 1) := by decide +kernel
theorem dL_law_938 : decode cL_law 938 = .ok (.iconst 2, 1) := by decide +kernel
theorem dL_law_939 : decode cL_law 939 = .ok (.iadd, 1) := by decide +kernel
theorem dL_law_940 : decode cL_law 940 = .ok (.iaload, 1) := by decide +kernel
theorem dL_law_941 : decode cL_law 941 = .ok (.aload_n 0, 1) := by decide +kernel
theorem dL_law_942 : decode cL_law 942 = .ok (.iload_n 3, 1) := by decide +kernel
theorem dL_law_943 : decode cL_law 943 = .ok (.iconst 3, 1) := by decide +kernel
theorem dL_law_944 : decode cL_law 944 = .ok (.iadd, 1) := by decide +kernel
theorem dL_law_945 : decode cL_law 945 = .ok (.iaload, 1) := by decide +kernel
theorem dL_law_946 : decode cL_law 946 = .ok (.invokevirtual 104, 3) := by decide +kernel
theorem dL_law_949 : decode cL_law 949 = .ok (.aload_n 2, 1) := by decide +kernel
theorem dL_law_950 : decode cL_law 950 = .ok (.aload_n 0, 1) := by decide +kernel
theorem dL_law_951 : decode cL_law 951 = .ok (.iload_n 3, 1) := by decide +kernel
theorem dL_law_952 : decode cL_law 952 = .ok (.iconst 1, 1) := by decide +kernel
theorem dL_law_953 : decode cL_law 953 = .ok (.iadd, 1) := by decide +kernel
theorem dL_law_954 : decode cL_law 954 = .ok (.iaload, 1) := by decide +kernel
theorem dL_law_955 : decode cL_law 955 = .ok (.aload_n 0, 1) := by decide +kernel
theorem dL_law_956 : decode cL_law 956 = .ok (.iload_n 3, 1) := by decide +kernel
theorem dL_law_957 : decode cL_law 957 = .ok (.iconst 2, 1) := by decide +kernel
theorem dL_law_958 : decode cL_law 958 = .ok (.iadd, 1) := by decide +kernel
theorem dL_law_959 : decode cL_law 959 = .ok (.iaload, 1) := by decide +kernel
theorem dL_law_960 : decode cL_law 960 = .ok (.aload_n 0, 1) := by decide +kernel
theorem dL_law_961 : decode cL_law 961 = .ok (.iload_n 3, 1) := by decide +kernel
theorem dL_law_962 : decode cL_law 962 = .ok (.iconst 3, 1) := by decide +kernel
theorem dL_law_963 : decode cL_law 963 = .ok (.iadd, 1) := by decide +kernel
theorem dL_law_964 : decode cL_law 964 = .ok (.iaload, 1) := by decide +kernel
theorem dL_law_965 : decode cL_law 965 = .ok (.invokevirtual 107, 3) := by decide +kernel
theorem dL_law_968 : decode cL_law 968 = .ok (.if_icmp .eq 484, 3) := by decide +kernel
theorem dL_law_971 : decode cL_law 971 = .ok (.iconst 0, 1) := by decide +kernel
theorem dL_law_972 : decode cL_law 972 = .ok (.ireturn, 1) := by decide +kernel
theorem dL_law_973 : decode cL_law 973 = .ok (.aload_n 1, 1) := by decide +kernel
theorem dL_law_974 : decode cL_law 974 = .ok (.aload_n 0, 1) := by decide +kernel
theorem dL_law_975 : decode cL_law 975 = .ok (.iload_n 3, 1) := by decide +kernel
theorem dL_law_976 : decode cL_law 976 = .ok (.iconst 1, 1) := by decide +kernel
theorem dL_law_977 : decode cL_law 977 = .ok (.iadd, 1) := by decide +kernel
theorem dL_law_978 : decode cL_law 978 = .ok (.iaload, 1) := by decide +kernel
theorem dL_law_979 : decode cL_law 979 = .ok (.invokevirtual 108, 3) := by decide +kernel
theorem dL_law_982 : decode cL_law 982 = .ok (.aload_n 2, 1) := by decide +kernel
theorem dL_law_983 : decode cL_law 983 = .ok (.aload_n 0, 1) := by decide +kernel
theorem dL_law_984 : decode cL_law 984 = .ok (.iload_n 3, 1) := by decide +kernel
theorem dL_law_985 : decode cL_law 985 = .ok (.iconst 1, 1) := by decide +kernel
theorem dL_law_986 : decode cL_law 986 = .ok (.iadd, 1) := by decide +kernel
theorem dL_law_987 : decode cL_law 987 = .ok (.iaload, 1) := by decide +kernel
theorem dL_law_988 : decode cL_law 988 = .ok (.invokevirtual 111, 3) := by decide +kernel
theorem dL_law_991 : decode cL_law 991 = .ok (.if_icmp .eq 461, 3) := by decide +kernel
theorem dL_law_994 : decode cL_law 994 = .ok (.iconst 0, 1) := by decide +kernel
theorem dL_law_995 : decode cL_law 995 = .ok (.ireturn, 1) := by decide +kernel
theorem dL_law_996 : decode cL_law 996 = .ok (.aload_n 1, 1) := by decide +kernel
theorem dL_law_997 : decode cL_law 997 = .ok (.invokevirtual 112, 3) := by decide +kernel
theorem dL_law_1000 : decode cL_law 1000 = .ok (.aload_n 2, 1) := by decide +kernel
theorem dL_law_1001 : decode cL_law 1001 = .ok (.invokevirtual 116, 3) := by decide +kernel
theorem dL_law_1004 : decode cL_law 1004 = .ok (.if_icmp .eq 448, 3) := by decide +kernel
theorem dL_law_1007 : decode cL_law 1007 = .ok (.iconst 0, 1) := by decide +kernel
theorem dL_law_1008 : decode cL_law 1008 = .ok (.ireturn, 1) := by decide +kernel
theorem dL_law_1009 : decode cL_law 1009 = .ok (.aload_n 1, 1) := by decide +kernel
theorem dL_law_1010 : decode cL_law 1010 = .ok (.aload_n 0, 1) := by decide +kernel
theorem dL_law_1011 : decode cL_law 1011 = .ok (.iload_n 3, 1) := by decide +kernel
theorem dL_law_1012 : decode cL_law 1012 = .ok (.iconst 1, 1) := by decide +kernel
theorem dL_law_1013 : decode cL_law 1013 = .ok (.iadd, 1) := by decide +kernel
theorem dL_law_1014 : decode cL_law 1014 = .ok (.iaload, 1) := by decide +kernel
theorem dL_law_1015 : decode cL_law 1015 = .ok (.aload_n 0, 1) := by decide +kernel
theorem dL_law_1016 : decode cL_law 1016 = .ok (.iload_n 3, 1) := by decide +kernel
theorem dL_law_1017 : decode cL_law 1017 = .ok (.iconst 2, 1) := by decide +kernel
theorem dL_law_1018 : decode cL_law 1018 = .ok (.iadd, 1) := by decide +kernel
theorem dL_law_1019 : decode cL_law 1019 = .ok (.iaload, 1) := by decide +kernel
theorem dL_law_1020 : decode cL_law 1020 = .ok (.invokevirtual 117, 3) := by decide +kernel
theorem dL_law_1023 : decode cL_law 1023 = .ok (.aload_n 2, 1) := by decide +kernel
theorem dL_law_1024 : decode cL_law 1024 = .ok (.aload_n 0, 1) := by decide +kernel
theorem dL_law_1025 : decode cL_law 1025 = .ok (.iload_n 3, 1) := by decide +kernel
theorem dL_law_1026 : decode cL_law 1026 = .ok (.iconst 1, 1) := by decide +kernel
theorem dL_law_1027 : decode cL_law 1027 = .ok (.iadd, 1) := by decide +kernel
theorem dL_law_1028 : decode cL_law 1028 = .ok (.iaload, 1) := by decide +kernel
theorem dL_law_1029 : decode cL_law 1029 = .ok (.aload_n 0, 1) := by decide +kernel
theorem dL_law_1030 : decode cL_law 1030 = .ok (.iload_n 3, 1) := by decide +kernel
theorem dL_law_1031 : decode cL_law 1031 = .ok (.iconst 2, 1) := by decide +kernel
theorem dL_law_1032 : decode cL_law 1032 = .ok (.iadd, 1) := by decide +kernel
theorem dL_law_1033 : decode cL_law 1033 = .ok (.iaload, 1) := by decide +kernel
theorem dL_law_1034 : decode cL_law 1034 = .ok (.invokevirtual 120, 3) := by decide +kernel
theorem dL_law_1037 : decode cL_law 1037 = .ok (.if_icmp .eq 415, 3) := by decide +kernel
theorem dL_law_1040 : decode cL_law 1040 = .ok (.iconst 0, 1) := by decide +kernel
theorem dL_law_1041 : decode cL_law 1041 = .ok (.ireturn, 1) := by decide +kernel
theorem dL_law_1042 : decode cL_law 1042 = .ok (.aload_n 1, 1) := by decide +kernel
theorem dL_law_1043 : decode cL_law 1043 = .ok (.invokevirtual 121, 3) := by decide +kernel
theorem dL_law_1046 : decode cL_law 1046 = .ok (.aload_n 2, 1) := by decide +kernel
theorem dL_law_1047 : decode cL_law 1047 = .ok (.invokevirtual 124, 3) := by decide +kernel
theorem dL_law_1050 : decode cL_law 1050 = .ok (.if_icmp .eq 402, 3) := by decide +kernel
theorem dL_law_1053 : decode cL_law 1053 = .ok (.iconst 0, 1) := by decide +kernel
theorem dL_law_1054 : decode cL_law 1054 = .ok (.ireturn, 1) := by decide +kernel
theorem dL_law_1055 : decode cL_law 1055 = .ok (.aload_n 1, 1) := by decide +kernel
theorem dL_law_1056 : decode cL_law 1056 = .ok (.invokevirtual 125, 3) := by decide +kernel
theorem dL_law_1059 : decode cL_law 1059 = .ok (.aload_n 2, 1) := by decide +kernel
theorem dL_law_1060 : decode cL_law 1060 = .ok (.invokevirtual 128, 3) := by decide +kernel
theorem dL_law_1063 : decode cL_law 1063 = .ok (.if_icmp .eq 389, 3) := by decide +kernel
theorem dL_law_1066 : decode cL_law 1066 = .ok (.iconst 0, 1) := by decide +kernel
theorem dL_law_1067 : decode cL_law 1067 = .ok (.ireturn, 1) := by decide +kernel
theorem dL_law_1068 : decode cL_law 1068 = .ok (.aload_n 1, 1) := by decide +kernel
theorem dL_law_1069 : decode cL_law 1069 = .ok (.aload_n 0, 1) := by decide +kernel
theorem dL_law_1070 : decode cL_law 1070 = .ok (.iload_n 3, 1) := by decide +kernel
theorem dL_law_1071 : decode cL_law 1071 = .ok (.iconst 1, 1) := by decide +kernel
theorem dL_law_1072 : decode cL_law 1072 = .ok (.iadd, 1) := by decide +kernel
theorem dL_law_1073 : decode cL_law 1073 = .ok (.iaload, 1) := by decide +kernel
theorem dL_law_1074 : decode cL_law 1074 = .ok (.aload_n 0, 1) := by decide +kernel
theorem dL_law_1075 : decode cL_law 1075 = .ok (.iload_n 3, 1) := by decide +kernel
theorem dL_law_1076 : decode cL_law 1076 = .ok (.iconst 2, 1) := by decide +kernel
theorem dL_law_1077 : decode cL_law 1077 = .ok (.iadd, 1) := by decide +kernel
theorem dL_law_1078 : decode cL_law 1078 = .ok (.iaload, 1) := by decide +kernel
theorem dL_law_1079 : decode cL_law 1079 = .ok (.aload_n 0, 1) := by decide +kernel
theorem dL_law_1080 : decode cL_law 1080 = .ok (.iload_n 3, 1) := by decide +kernel
theorem dL_law_1081 : decode cL_law 1081 = .ok (.iconst 3, 1) := by decide +kernel
theorem dL_law_1082 : decode cL_law 1082 = .ok (.iadd, 1) := by decide +kernel
theorem dL_law_1083 : decode cL_law 1083 = .ok (.iaload, 1) := by decide +kernel
theorem dL_law_1084 : decode cL_law 1084 = .ok (.invokevirtual 129, 3) := by decide +kernel
theorem dL_law_1087 : decode cL_law 1087 = .ok (.aload_n 2, 1) := by decide +kernel
theorem dL_law_1088 : decode cL_law 1088 = .ok (.aload_n 0, 1) := by decide +kernel
theorem dL_law_1089 : decode cL_law 1089 = .ok (.iload_n 3, 1) := by decide +kernel
theorem dL_law_1090 : decode cL_law 1090 = .ok (.iconst 1, 1) := by decide +kernel
theorem dL_law_1091 : decode cL_law 1091 = .ok (.iadd, 1) := by decide +kernel
theorem dL_law_1092 : decode cL_law 1092 = .ok (.iaload, 1) := by decide +kernel
theorem dL_law_1093 : decode cL_law 1093 = .ok (.aload_n 0, 1) := by decide +kernel
theorem dL_law_1094 : decode cL_law 1094 = .ok (.iload_n 3, 1) := by decide +kernel
theorem dL_law_1095 : decode cL_law 1095 = .ok (.iconst 2, 1) := by decide +kernel
theorem dL_law_1096 : decode cL_law 1096 = .ok (.iadd, 1) := by decide +kernel
theorem dL_law_1097 : decode cL_law 1097 = .ok (.iaload, 1) := by decide +kernel
theorem dL_law_1098 : decode cL_law 1098 = .ok (.aload_n 0, 1) := by decide +kernel
theorem dL_law_1099 : decode cL_law 1099 = .ok (.iload_n 3, 1) := by decide +kernel
theorem dL_law_1100 : decode cL_law 1100 = .ok (.iconst 3, 1) := by decide +kernel
theorem dL_law_1101 : decode cL_law 1101 = .ok (.iadd, 1) := by decide +kernel
theorem dL_law_1102 : decode cL_law 1102 = .ok (.iaload, 1) := by decide +kernel
theorem dL_law_1103 : decode cL_law 1103 = .ok (.invokevirtual 132, 3) := by decide +kernel
theorem dL_law_1106 : decode cL_law 1106 = .ok (.if_icmp .eq 346, 3) := by decide +kernel
theorem dL_law_1109 : decode cL_law 1109 = .ok (.iconst 0, 1) := by decide +kernel
theorem dL_law_1110 : decode cL_law 1110 = .ok (.ireturn, 1) := by decide +kernel
theorem dL_law_1111 : decode cL_law 1111 = .ok (.aload_n 1, 1) := by decide +kernel
theorem dL_law_1112 : decode cL_law 1112 = .ok (.aload_n 0, 1) := by decide +kernel
theorem dL_law_1113 : decode cL_law 1113 = .ok (.iload_n 3, 1) := by decide +kernel
theorem dL_law_1114 : decode cL_law 1114 = .ok (.iconst 1, 1) := by decide +kernel
theorem dL_law_1115 : decode cL_law 1115 = .ok (.iadd, 1) := by decide +kernel
theorem dL_law_1116 : decode cL_law 1116 = .ok (.iaload, 1) := by decide +kernel
theorem dL_law_1117 : decode cL_law 1117 = .ok (.aload_n 0, 1) := by decide +kernel
theorem dL_law_1118 : decode cL_law 1118 = .ok (.iload_n 3, 1) := by decide +kernel
theorem dL_law_1119 : decode cL_law 1119 = .ok (.iconst 2, 1) := by decide +kernel
theorem dL_law_1120 : decode cL_law 1120 = .ok (.iadd, 1) := by decide +kernel
theorem dL_law_1121 : decode cL_law 1121 = .ok (.iaload, 1) := by decide +kernel
theorem dL_law_1122 : decode cL_law 1122 = .ok (.aload_n 0, 1) := by decide +kernel
theorem dL_law_1123 : decode cL_law 1123 = .ok (.iload_n 3, 1) := by decide +kernel
theorem dL_law_1124 : decode cL_law 1124 = .ok (.iconst 3, 1) := by decide +kernel
theorem dL_law_1125 : decode cL_law 1125 = .ok (.iadd, 1) := by decide +kernel
theorem dL_law_1126 : decode cL_law 1126 = .ok (.iaload, 1) := by decide +kernel
theorem dL_law_1127 : decode cL_law 1127 = .ok (.i2l, 1) := by decide +kernel
theorem dL_law_1128 : decode cL_law 1128 = .ok (.bipush 32, 2) := by decide +kernel
theorem dL_law_1130 : decode cL_law 1130 = .ok (.lshl, 1) := by decide +kernel
theorem dL_law_1131 : decode cL_law 1131 = .ok (.aload_n 0, 1) := by decide +kernel
theorem dL_law_1132 : decode cL_law 1132 = .ok (.iload_n 3, 1) := by decide +kernel
theorem dL_law_1133 : decode cL_law 1133 = .ok (.iconst 4, 1) := by decide +kernel
theorem dL_law_1134 : decode cL_law 1134 = .ok (.iadd, 1) := by decide +kernel
theorem dL_law_1135 : decode cL_law 1135 = .ok (.iaload, 1) := by decide +kernel
theorem dL_law_1136 : decode cL_law 1136 = .ok (.i2l, 1) := by decide +kernel
theorem dL_law_1137 : decode cL_law 1137 = .ok (.ldc2_w 133, 3) := by decide +kernel
theorem dL_law_1140 : decode cL_law 1140 = .ok (.land, 1) := by decide +kernel
theorem dL_law_1141 : decode cL_law 1141 = .ok (.lor, 1) := by decide +kernel
theorem dL_law_1142 : decode cL_law 1142 = .ok (.invokevirtual 135, 3) := by decide +kernel
theorem dL_law_1145 : decode cL_law 1145 = .ok (.aload_n 2, 1) := by decide +kernel
theorem dL_law_1146 : decode cL_law 1146 = .ok (.aload_n 0, 1) := by decide +kernel
theorem dL_law_1147 : decode cL_law 1147 = .ok (.iload_n 3, 1) := by decide +kernel
theorem dL_law_1148 : decode cL_law 1148 = .ok (.iconst 1, 1) := by decide +kernel
theorem dL_law_1149 : decode cL_law 1149 = .ok (.iadd, 1) := by decide +kernel
theorem dL_law_1150 : decode cL_law 1150 = .ok (.iaload, 1) := by decide +kernel
theorem dL_law_1151 : decode cL_law 1151 = .ok (.aload_n 0, 1) := by decide +kernel
theorem dL_law_1152 : decode cL_law 1152 = .ok (.iload_n 3, 1) := by decide +kernel
theorem dL_law_1153 : decode cL_law 1153 = .ok (.iconst 2, 1) := by decide +kernel
theorem dL_law_1154 : decode cL_law 1154 = .ok (.iadd, 1) := by decide +kernel
theorem dL_law_1155 : decode cL_law 1155 = .ok (.iaload, 1) := by decide +kernel
theorem dL_law_1156 : decode cL_law 1156 = .ok (.aload_n 0, 1) := by decide +kernel
theorem dL_law_1157 : decode cL_law 1157 = .ok (.iload_n 3, 1) := by decide +kernel
theorem dL_law_1158 : decode cL_law 1158 = .ok (.iconst 3, 1) := by decide +kernel
theorem dL_law_1159 : decode cL_law 1159 = .ok (.iadd, 1) := by decide +kernel
theorem dL_law_1160 : decode cL_law 1160 = .ok (.iaload, 1) := by decide +kernel
theorem dL_law_1161 : decode cL_law 1161 = .ok (.i2l, 1) := by decide +kernel
theorem dL_law_1162 : decode cL_law 1162 = .ok (.bipush 32, 2) := by decide +kernel
theorem dL_law_1164 : decode cL_law 1164 = .ok (.lshl, 1) := by decide +kernel
theorem dL_law_1165 : decode cL_law 1165 = .ok (.aload_n 0, 1) := by decide +kernel
theorem dL_law_1166 : decode cL_law 1166 = .ok (.iload_n 3, 1) := by decide +kernel
theorem dL_law_1167 : decode cL_law 1167 = .ok (.iconst 4, 1) := by decide +kernel
theorem dL_law_1168 : decode cL_law 1168 = .ok (.iadd, 1) := by decide +kernel
theorem dL_law_1169 : decode cL_law 1169 = .ok (.iaload, 1) := by decide +kernel
theorem dL_law_1170 : decode cL_law 1170 = .ok (.i2l, 1) := by decide +kernel
theorem dL_law_1171 : decode cL_law 1171 = .ok (.ldc2_w 133, 3) := by decide +kernel
theorem dL_law_1174 : decode cL_law 1174 = .ok (.land, 1) := by decide +kernel
theorem dL_law_1175 : decode cL_law 1175 = .ok (.lor, 1) := by decide +kernel
theorem dL_law_1176 : decode cL_law 1176 = .ok (.invokevirtual 139, 3) := by decide +kernel
theorem dL_law_1179 : decode cL_law 1179 = .ok (.lcmp, 1) := by decide +kernel
theorem dL_law_1180 : decode cL_law 1180 = .ok (.ifCond .eq 272, 3) := by decide +kernel
theorem dL_law_1183 : decode cL_law 1183 = .ok (.iconst 0, 1) := by decide +kernel
theorem dL_law_1184 : decode cL_law 1184 = .ok (.ireturn, 1) := by decide +kernel
theorem dL_law_1185 : decode cL_law 1185 = .ok (.aload_n 1, 1) := by decide +kernel
theorem dL_law_1186 : decode cL_law 1186 = .ok (.aload_n 0, 1) := by decide +kernel
theorem dL_law_1187 : decode cL_law 1187 = .ok (.iload_n 3, 1) := by decide +kernel
theorem dL_law_1188 : decode cL_law 1188 = .ok (.iconst 1, 1) := by decide +kernel
theorem dL_law_1189 : decode cL_law 1189 = .ok (.iadd, 1) := by decide +kernel
theorem dL_law_1190 : decode cL_law 1190 = .ok (.iaload, 1) := by decide +kernel
theorem dL_law_1191 : decode cL_law 1191 = .ok (.aload_n 0, 1) := by decide +kernel
theorem dL_law_1192 : decode cL_law 1192 = .ok (.iload_n 3, 1) := by decide +kernel
theorem dL_law_1193 : decode cL_law 1193 = .ok (.iconst 2, 1) := by decide +kernel
theorem dL_law_1194 : decode cL_law 1194 = .ok (.iadd, 1) := by decide +kernel
theorem dL_law_1195 : decode cL_law 1195 = .ok (.iaload, 1) := by decide +kernel
theorem dL_law_1196 : decode cL_law 1196 = .ok (.aload_n 0, 1) := by decide +kernel
theorem dL_law_1197 : decode cL_law 1197 = .ok (.iload_n 3, 1) := by decide +kernel
theorem dL_law_1198 : decode cL_law 1198 = .ok (.iconst 3, 1) := by decide +kernel
theorem dL_law_1199 : decode cL_law 1199 = .ok (.iadd, 1) := by decide +kernel
theorem dL_law_1200 : decode cL_law 1200 = .ok (.iaload, 1) := by decide +kernel
theorem dL_law_1201 : decode cL_law 1201 = .ok (.aload_n 0, 1) := by decide +kernel
theorem dL_law_1202 : decode cL_law 1202 = .ok (.iload_n 3, 1) := by decide +kernel
theorem dL_law_1203 : decode cL_law 1203 = .ok (.iconst 4, 1) := by decide +kernel
theorem dL_law_1204 : decode cL_law 1204 = .ok (.iadd, 1) := by decide +kernel
theorem dL_law_1205 : decode cL_law 1205 = .ok (.iaload, 1) := by decide +kernel
theorem dL_law_1206 : decode cL_law 1206 = .ok (.aload_n 0, 1) := by decide +kernel
theorem dL_law_1207 : decode cL_law 1207 = .ok (.iload_n 3, 1) := by decide +kernel
theorem dL_law_1208 : decode cL_law 1208 = .ok (.iconst 5, 1) := by decide +kernel
theorem dL_law_1209 : decode cL_law 1209 = .ok (.iadd, 1) := by decide +kernel
theorem dL_law_1210 : decode cL_law 1210 = .ok (.iaload, 1) := by decide +kernel
theorem dL_law_1211 : decode cL_law 1211 = .ok (.invokevirtual 140, 3) := by decide +kernel
theorem dL_law_1214 : decode cL_law 1214 = .ok (.aload_n 2, 1) := by decide +kernel
theorem dL_law_1215 : decode cL_law 1215 = .ok (.aload_n 0, 1) := by decide +kernel
theorem dL_law_1216 : decode cL_law 1216 = .ok (.iload_n 3, 1) := by decide +kernel
theorem dL_law_1217 : decode cL_law 1217 = .ok (.iconst 1, 1) := by decide +kernel
theorem dL_law_1218 : decode cL_law 1218 = .ok (.iadd, 1) := by decide +kernel
theorem dL_law_1219 : decode cL_law 1219 = .ok (.iaload, 1) := by decide +kernel
theorem dL_law_1220 : decode cL_law 1220 = .ok (.aload_n 0, 1) := by decide +kernel
theorem dL_law_1221 : decode cL_law 1221 = .ok (.iload_n 3, 1) := by decide +kernel
theorem dL_law_1222 : decode cL_law 1222 = .ok (.iconst 2, 1) := by decide +kernel
theorem dL_law_1223 : decode cL_law 1223 = .ok (.iadd, 1) := by decide +kernel
theorem dL_law_1224 : decode cL_law 1224 = .ok (.iaload, 1) := by decide +kernel
theorem dL_law_1225 : decode cL_law 1225 = .ok (.aload_n 0, 1) := by decide +kernel
theorem dL_law_1226 : decode cL_law 1226 = .ok (.iload_n 3, 1) := by decide +kernel
theorem dL_law_1227 : decode cL_law 1227 = .ok (.iconst 3, 1) := by decide +kernel
theorem dL_law_1228 : decode cL_law 1228 = .ok (.iadd, 1) := by decide +kernel
theorem dL_law_1229 : decode cL_law 1229 = .ok (.iaload, 1) := by decide +kernel
theorem dL_law_1230 : decode cL_law 1230 = .ok (.aload_n 0, 1) := by decide +kernel
theorem dL_law_1231 : decode cL_law 1231 = .ok (.iload_n 3, 1) := by decide +kernel
theorem dL_law_1232 : decode cL_law 1232 = .ok (.iconst 4, 1) := by decide +kernel
theorem dL_law_1233 : decode cL_law 1233 = .ok (.iadd, 1) := by decide +kernel
theorem dL_law_1234 : decode cL_law 1234 = .ok (.iaload, 1) := by decide +kernel
theorem dL_law_1235 : decode cL_law 1235 = .ok (.aload_n 0, 1) := by decide +kernel
theorem dL_law_1236 : decode cL_law 1236 = .ok (.iload_n 3, 1) := by decide +kernel
theorem dL_law_1237 : decode cL_law 1237 = .ok (.iconst 5, 1) := by decide +kernel
theorem dL_law_1238 : decode cL_law 1238 = .ok (.iadd, 1) := by decide +kernel
theorem dL_law_1239 : decode cL_law 1239 = .ok (.iaload, 1) := by decide +kernel
theorem dL_law_1240 : decode cL_law 1240 = .ok (.invokevirtual 144, 3) := by decide +kernel
theorem dL_law_1243 : decode cL_law 1243 = .ok (.if_icmp .eq 209, 3) := by decide +kernel
theorem dL_law_1246 : decode cL_law 1246 = .ok (.iconst 0, 1) := by decide +kernel
theorem dL_law_1247 : decode cL_law 1247 = .ok (.ireturn, 1) := by decide +kernel
theorem dL_law_1248 : decode cL_law 1248 = .ok (.aload_n 1, 1) := by decide +kernel
theorem dL_law_1249 : decode cL_law 1249 = .ok (.aload_n 0, 1) := by decide +kernel
theorem dL_law_1250 : decode cL_law 1250 = .ok (.iload_n 3, 1) := by decide +kernel
theorem dL_law_1251 : decode cL_law 1251 = .ok (.iconst 1, 1) := by decide +kernel
theorem dL_law_1252 : decode cL_law 1252 = .ok (.iadd, 1) := by decide +kernel
theorem dL_law_1253 : decode cL_law 1253 = .ok (.iaload, 1) := by decide +kernel
theorem dL_law_1254 : decode cL_law 1254 = .ok (.aload_n 0, 1) := by decide +kernel
theorem dL_law_1255 : decode cL_law 1255 = .ok (.iload_n 3, 1) := by decide +kernel
theorem dL_law_1256 : decode cL_law 1256 = .ok (.iconst 2, 1) := by decide +kernel
theorem dL_law_1257 : decode cL_law 1257 = .ok (.iadd, 1) := by decide +kernel
theorem dL_law_1258 : decode cL_law 1258 = .ok (.iaload, 1) := by decide +kernel
theorem dL_law_1259 : decode cL_law 1259 = .ok (.invokevirtual 145, 3) := by decide +kernel
theorem dL_law_1262 : decode cL_law 1262 = .ok (.aload_n 2, 1) := by decide +kernel
theorem dL_law_1263 : decode cL_law 1263 = .ok (.aload_n 0, 1) := by decide +kernel
theorem dL_law_1264 : decode cL_law 1264 = .ok (.iload_n 3, 1) := by decide +kernel
theorem dL_law_1265 : decode cL_law 1265 = .ok (.iconst 1, 1) := by decide +kernel
theorem dL_law_1266 : decode cL_law 1266 = .ok (.iadd, 1) := by decide +kernel
theorem dL_law_1267 : decode cL_law 1267 = .ok (.iaload, 1) := by decide +kernel
theorem dL_law_1268 : decode cL_law 1268 = .ok (.aload_n 0, 1) := by decide +kernel
theorem dL_law_1269 : decode cL_law 1269 = .ok (.iload_n 3, 1) := by decide +kernel
theorem dL_law_1270 : decode cL_law 1270 = .ok (.iconst 2, 1) := by decide +kernel
theorem dL_law_1271 : decode cL_law 1271 = .ok (.iadd, 1) := by decide +kernel
theorem dL_law_1272 : decode cL_law 1272 = .ok (.iaload, 1) := by decide +kernel
theorem dL_law_1273 : decode cL_law 1273 = .ok (.invokevirtual 148, 3) := by decide +kernel
theorem dL_law_1276 : decode cL_law 1276 = .ok (.if_icmp .eq 176, 3) := by decide +kernel
theorem dL_law_1279 : decode cL_law 1279 = .ok (.iconst 0, 1) := by decide +kernel
theorem dL_law_1280 : decode cL_law 1280 = .ok (.ireturn, 1) := by decide +kernel
theorem dL_law_1281 : decode cL_law 1281 = .ok (.aload_n 1, 1) := by decide +kernel
theorem dL_law_1282 : decode cL_law 1282 = .ok (.aload_n 0, 1) := by decide +kernel
theorem dL_law_1283 : decode cL_law 1283 = .ok (.iload_n 3, 1) := by decide +kernel
theorem dL_law_1284 : decode cL_law 1284 = .ok (.iconst 1, 1) := by decide +kernel
theorem dL_law_1285 : decode cL_law 1285 = .ok (.iadd, 1) := by decide +kernel
theorem dL_law_1286 : decode cL_law 1286 = .ok (.iaload, 1) := by decide +kernel
theorem dL_law_1287 : decode cL_law 1287 = .ok (.aload_n 0, 1) := by decide +kernel
theorem dL_law_1288 : decode cL_law 1288 = .ok (.iload_n 3, 1) := by decide +kernel
theorem dL_law_1289 : decode cL_law 1289 = .ok (.iconst 2, 1) := by decide +kernel
theorem dL_law_1290 : decode cL_law 1290 = .ok (.iadd, 1) := by decide +kernel
theorem dL_law_1291 : decode cL_law 1291 = .ok (.iaload, 1) := by decide +kernel
theorem dL_law_1292 : decode cL_law 1292 = .ok (.aload_n 0, 1) := by decide +kernel
theorem dL_law_1293 : decode cL_law 1293 = .ok (.iload_n 3, 1) := by decide +kernel
theorem dL_law_1294 : decode cL_law 1294 = .ok (.iconst 3, 1) := by decide +kernel
theorem dL_law_1295 : decode cL_law 1295 = .ok (.iadd, 1) := by decide +kernel
theorem dL_law_1296 : decode cL_law 1296 = .ok (.iaload, 1) := by decide +kernel
theorem dL_law_1297 : decode cL_law 1297 = .ok (.invokevirtual 149, 3) := by decide +kernel
theorem dL_law_1300 : decode cL_law 1300 = .ok (.aload_n 2, 1) := by decide +kernel
theorem dL_law_1301 : decode cL_law 1301 = .ok (.aload_n 0, 1) := by decide +kernel
theorem dL_law_1302 : decode cL_law 1302 = .ok (.iload_n 3, 1) := by decide +kernel
theorem dL_law_1303 : decode cL_law 1303 = .ok (.iconst 1, 1) := by decide +kernel
theorem dL_law_1304 : decode cL_law 1304 = .ok (.iadd, 1) := by decide +kernel
theorem dL_law_1305 : decode cL_law 1305 = .ok (.iaload, 1) := by decide +kernel
theorem dL_law_1306 : decode cL_law 1306 = .ok (.aload_n 0, 1) := by decide +kernel
theorem dL_law_1307 : decode cL_law 1307 = .ok (.iload_n 3, 1) := by decide +kernel
theorem dL_law_1308 : decode cL_law 1308 = .ok (.iconst 2, 1) := by decide +kernel
theorem dL_law_1309 : decode cL_law 1309 = .ok (.iadd, 1) := by decide +kernel
theorem dL_law_1310 : decode cL_law 1310 = .ok (.iaload, 1) := by decide +kernel
theorem dL_law_1311 : decode cL_law 1311 = .ok (.aload_n 0, 1) := by decide +kernel
theorem dL_law_1312 : decode cL_law 1312 = .ok (.iload_n 3, 1) := by decide +kernel
theorem dL_law_1313 : decode cL_law 1313 = .ok (.iconst 3, 1) := by decide +kernel
theorem dL_law_1314 : decode cL_law 1314 = .ok (.iadd, 1) := by decide +kernel
theorem dL_law_1315 : decode cL_law 1315 = .ok (.iaload, 1) := by decide +kernel
theorem dL_law_1316 : decode cL_law 1316 = .ok (.invokevirtual 152, 3) := by decide +kernel
theorem dL_law_1319 : decode cL_law 1319 = .ok (.if_icmp .eq 133, 3) := by decide +kernel
theorem dL_law_1322 : decode cL_law 1322 = .ok (.iconst 0, 1) := by decide +kernel
theorem dL_law_1323 : decode cL_law 1323 = .ok (.ireturn, 1) := by decide +kernel
theorem dL_law_1324 : decode cL_law 1324 = .ok (.aload_n 1, 1) := by decide +kernel
theorem dL_law_1325 : decode cL_law 1325 = .ok (.aload_n 0, 1) := by decide +kernel
theorem dL_law_1326 : decode cL_law 1326 = .ok (.iload_n 3, 1) := by decide +kernel
theorem dL_law_1327 : decode cL_law 1327 = .ok (.iconst 1, 1) := by decide +kernel
theorem dL_law_1328 : decode cL_law 1328 = .ok (.iadd, 1) := by decide +kernel
theorem dL_law_1329 : decode cL_law 1329 = .ok (.iaload, 1) := by decide +kernel
theorem dL_law_1330 : decode cL_law 1330 = .ok (.aload_n 0, 1) := by decide +kernel
theorem dL_law_1331 : decode cL_law 1331 = .ok (.iload_n 3, 1) := by decide +kernel
theorem dL_law_1332 : decode cL_law 1332 = .ok (.iconst 2, 1) := by decide +kernel
theorem dL_law_1333 : decode cL_law 1333 = .ok (.iadd, 1) := by decide +kernel
theorem dL_law_1334 : decode cL_law 1334 = .ok (.iaload, 1) := by decide +kernel
theorem dL_law_1335 : decode cL_law 1335 = .ok (.aload_n 0, 1) := by decide +kernel
theorem dL_law_1336 : decode cL_law 1336 = .ok (.iload_n 3, 1) := by decide +kernel
theorem dL_law_1337 : decode cL_law 1337 = .ok (.iconst 3, 1) := by decide +kernel
theorem dL_law_1338 : decode cL_law 1338 = .ok (.iadd, 1) := by decide +kernel
theorem dL_law_1339 : decode cL_law 1339 = .ok (.iaload, 1) := by decide +kernel
theorem dL_law_1340 : decode cL_law 1340 = .ok (.invokevirtual 153, 3) := by decide +kernel
theorem dL_law_1343 : decode cL_law 1343 = .ok (.aload_n 2, 1) := by decide +kernel
theorem dL_law_1344 : decode cL_law 1344 = .ok (.aload_n 0, 1) := by decide +kernel
theorem dL_law_1345 : decode cL_law 1345 = .ok (.iload_n 3, 1) := by decide +kernel
theorem dL_law_1346 : decode cL_law 1346 = .ok (.iconst 1, 1) := by decide +kernel
theorem dL_law_1347 : decode cL_law 1347 = .ok (.iadd, 1) := by decide +kernel
theorem dL_law_1348 : decode cL_law 1348 = .ok (.iaload, 1) := by decide +kernel
theorem dL_law_1349 : decode cL_law 1349 = .ok (.aload_n 0, 1) := by decide +kernel
theorem dL_law_1350 : decode cL_law 1350 = .ok (.iload_n 3, 1) := by decide +kernel
theorem dL_law_1351 : decode cL_law 1351 = .ok (.iconst 2, 1) := by decide +kernel
theorem dL_law_1352 : decode cL_law 1352 = .ok (.iadd, 1) := by decide +kernel
theorem dL_law_1353 : decode cL_law 1353 = .ok (.iaload, 1) := by decide +kernel
theorem dL_law_1354 : decode cL_law 1354 = .ok (.aload_n 0, 1) := by decide +kernel
theorem dL_law_1355 : decode cL_law 1355 = .ok (.iload_n 3, 1) := by decide +kernel
theorem dL_law_1356 : decode cL_law 1356 = .ok (.iconst 3, 1) := by decide +kernel
theorem dL_law_1357 : decode cL_law 1357 = .ok (.iadd, 1) := by decide +kernel
theorem dL_law_1358 : decode cL_law 1358 = .ok (.iaload, 1) := by decide +kernel
theorem dL_law_1359 : decode cL_law 1359 = .ok (.invokevirtual 156, 3) := by decide +kernel
theorem dL_law_1362 : decode cL_law 1362 = .ok (.if_icmp .eq 90, 3) := by decide +kernel
theorem dL_law_1365 : decode cL_law 1365 = .ok (.iconst 0, 1) := by decide +kernel
theorem dL_law_1366 : decode cL_law 1366 = .ok (.ireturn, 1) := by decide +kernel
theorem dL_law_1367 : decode cL_law 1367 = .ok (.aload_n 1, 1) := by decide +kernel
theorem dL_law_1368 : decode cL_law 1368 = .ok (.invokevirtual 157, 3) := by decide +kernel
theorem dL_law_1371 : decode cL_law 1371 = .ok (.aload_n 2, 1) := by decide +kernel
theorem dL_law_1372 : decode cL_law 1372 = .ok (.invokevirtual 160, 3) := by decide +kernel
theorem dL_law_1375 : decode cL_law 1375 = .ok (.if_icmp .eq 77, 3) := by decide +kernel
theorem dL_law_1378 : decode cL_law 1378 = .ok (.iconst 0, 1) := by decide +kernel
theorem dL_law_1379 : decode cL_law 1379 = .ok (.ireturn, 1) := by decide +kernel
theorem dL_law_1380 : decode cL_law 1380 = .ok (.aload_n 1, 1) := by decide +kernel
theorem dL_law_1381 : decode cL_law 1381 = .ok (.invokevirtual 161, 3) := by decide +kernel
theorem dL_law_1384 : decode cL_law 1384 = .ok (.aload_n 2, 1) := by decide +kernel
theorem dL_law_1385 : decode cL_law 1385 = .ok (.invokevirtual 164, 3) := by decide +kernel
theorem dL_law_1388 : decode cL_law 1388 = .ok (.if_icmp .eq 64, 3) := by decide +kernel
theorem dL_law_1391 : decode cL_law 1391 = .ok (.iconst 0, 1) := by decide +kernel
theorem dL_law_1392 : decode cL_law 1392 = .ok (.ireturn, 1) := by decide +kernel
theorem dL_law_1393 : decode cL_law 1393 = .ok (.aload_n 1, 1) := by decide +kernel
theorem dL_law_1394 : decode cL_law 1394 = .ok (.invokevirtual 165, 3) := by decide +kernel
theorem dL_law_1397 : decode cL_law 1397 = .ok (.aload_n 2, 1) := by decide +kernel
theorem dL_law_1398 : decode cL_law 1398 = .ok (.invokevirtual 168, 3) := by decide +kernel
theorem dL_law_1401 : decode cL_law 1401 = .ok (.if_icmp .eq 51, 3) := by decide +kernel
theorem dL_law_1404 : decode cL_law 1404 = .ok (.iconst 0, 1) := by decide +kernel
theorem dL_law_1405 : decode cL_law 1405 = .ok (.ireturn, 1) := by decide +kernel
theorem dL_law_1406 : decode cL_law 1406 = .ok (.aload_n 1, 1) := by decide +kernel
theorem dL_law_1407 : decode cL_law 1407 = .ok (.aload_n 0, 1) := by decide +kernel
theorem dL_law_1408 : decode cL_law 1408 = .ok (.iload_n 3, 1) := by decide +kernel
theorem dL_law_1409 : decode cL_law 1409 = .ok (.iconst 1, 1) := by decide +kernel
theorem dL_law_1410 : decode cL_law 1410 = .ok (.iadd, 1) := by decide +kernel
theorem dL_law_1411 : decode cL_law 1411 = .ok (.iaload, 1) := by decide +kernel
theorem dL_law_1412 : decode cL_law 1412 = .ok (.invokevirtual 169, 3) := by decide +kernel
theorem dL_law_1415 : decode cL_law 1415 = .ok (.aload_n 2, 1) := by decide +kernel
theorem dL_law_1416 : decode cL_law 1416 = .ok (.aload_n 0, 1) := by decide +kernel
theorem dL_law_1417 : decode cL_law 1417 = .ok (.iload_n 3, 1) := by decide +kernel
theorem dL_law_1418 : decode cL_law 1418 = .ok (.iconst 1, 1) := by decide +kernel
theorem dL_law_1419 : decode cL_law 1419 = .ok (.iadd, 1) := by decide +kernel
theorem dL_law_1420 : decode cL_law 1420 = .ok (.iaload, 1) := by decide +kernel
theorem dL_law_1421 : decode cL_law 1421 = .ok (.invokevirtual 172, 3) := by decide +kernel
theorem dL_law_1424 : decode cL_law 1424 = .ok (.if_icmp .eq 28, 3) := by decide +kernel
theorem dL_law_1427 : decode cL_law 1427 = .ok (.iconst 0, 1) := by decide +kernel
theorem dL_law_1428 : decode cL_law 1428 = .ok (.ireturn, 1) := by decide +kernel
theorem dL_law_1429 : decode cL_law 1429 = .ok (.aload_n 1, 1) := by decide +kernel
theorem dL_law_1430 : decode cL_law 1430 = .ok (.aload_n 0, 1) := by decide +kernel
theorem dL_law_1431 : decode cL_law 1431 = .ok (.iload_n 3, 1) := by decide +kernel
theorem dL_law_1432 : decode cL_law 1432 = .ok (.iconst 1, 1) := by decide +kernel
theorem dL_law_1433 : decode cL_law 1433 = .ok (.iadd, 1) := by decide +kernel
theorem dL_law_1434 : decode cL_law 1434 = .ok (.iaload, 1) := by decide +kernel
theorem dL_law_1435 : decode cL_law 1435 = .ok (.invokevirtual 173, 3) := by decide +kernel
theorem dL_law_1438 : decode cL_law 1438 = .ok (.aload_n 2, 1) := by decide +kernel
theorem dL_law_1439 : decode cL_law 1439 = .ok (.aload_n 0, 1) := by decide +kernel
theorem dL_law_1440 : decode cL_law 1440 = .ok (.iload_n 3, 1) := by decide +kernel
theorem dL_law_1441 : decode cL_law 1441 = .ok (.iconst 1, 1) := by decide +kernel
theorem dL_law_1442 : decode cL_law 1442 = .ok (.iadd, 1) := by decide +kernel
theorem dL_law_1443 : decode cL_law 1443 = .ok (.iaload, 1) := by decide +kernel
theorem dL_law_1444 : decode cL_law 1444 = .ok (.invokevirtual 176, 3) := by decide +kernel
theorem dL_law_1447 : decode cL_law 1447 = .ok (.if_icmp .eq 5, 3) := by decide +kernel
theorem dL_law_1450 : decode cL_law 1450 = .ok (.iconst 0, 1) := by decide +kernel
theorem dL_law_1451 : decode cL_law 1451 = .ok (.ireturn, 1) := by decide +kernel
theorem dL_law_1452 : decode cL_law 1452 = .ok (.iinc 3 6, 3) := by decide +kernel
theorem dL_law_1455 : decode cL_law 1455 = .ok (.goto (-1437), 3) := by decide +kernel
theorem dL_law_1458 : decode cL_law 1458 = .ok (.iconst 1, 1) := by decide +kernel
theorem dL_law_1459 : decode cL_law 1459 = .ok (.ireturn, 1) := by decide +kernel
end
section
def gt : List Cond := lw_tbl.filter goodWord
theorem gt_in {w : Cond} (h : w ∈ gt) : w ∈ lw_tbl := (List.mem_filter.mp h).1
theorem gt_good {w : Cond} (h : w ∈ gt) : GoodIn gt [w] := fun v hv => by rw [List.mem_singleton.mp hv]; exact ⟨h, good_of_word (List.mem_filter.mp h).2⟩
theorem gt_gt : GoodIn gt gt := fun w h => ⟨h, good_of_word (List.mem_filter.mp h).2⟩
theorem gt_lw : GoodIn lw_tbl gt := fun w h => ⟨gt_in h, good_of_word (List.mem_filter.mp h).2⟩
theorem gt_of {w : Cond} (i : Nat) (h : lw_tbl[i]? = some w) (g : goodWord w = true) : w ∈ gt := List.mem_filter.mpr ⟨List.mem_of_getElem? h, g⟩
theorem in_L : Cond.initialized RL ∈ gt := gt_of 45 (by decide +kernel) (by decide +kernel)
theorem in_X4 : Cond.initialized RX4 ∈ gt := gt_of 46 (by decide +kernel) (by decide +kernel)
theorem in_X3 : Cond.initialized RX3 ∈ gt := gt_of 47 (by decide +kernel) (by decide +kernel)
theorem in_X2 : Cond.initialized RX2 ∈ gt := gt_of 48 (by decide +kernel) (by decide +kernel)
theorem in_X1 : Cond.initialized RX1 ∈ gt := gt_of 49 (by decide +kernel) (by decide +kernel)
theorem in_X5 : Cond.initialized RX5 ∈ gt := gt_of 50 (by decide +kernel) (by decide +kernel)
theorem in_X0 : Cond.initialized RX0 ∈ gt := gt_of 51 (by decide +kernel) (by decide +kernel)
theorem in_J9 : Cond.initialized RJ9 ∈ gt := gt_of 52 (by decide +kernel) (by decide +kernel)
theorem in_J10 : Cond.initialized RJ10 ∈ gt := gt_of 53 (by decide +kernel) (by decide +kernel)
theorem in_J0 : Cond.initialized RJ0 ∈ gt := gt_of 54 (by decide +kernel) (by decide +kernel)
theorem in_J1 : Cond.initialized RJ1 ∈ gt := gt_of 55 (by decide +kernel) (by decide +kernel)
theorem in_J3 : Cond.initialized RJ3 ∈ gt := gt_of 56 (by decide +kernel) (by decide +kernel)
theorem in_J2 : Cond.initialized RJ2 ∈ gt := gt_of 57 (by decide +kernel) (by decide +kernel)
theorem cl_L_7 : Cond.classLink RL 7 RX4 ∈ gt := gt_of 58 (by decide +kernel) (by decide +kernel)
theorem ia_X4 : Cond.instantiable RX4 7 ∈ gt := gt_of 59 (by decide +kernel) (by decide +kernel)
theorem ml_L_9 : Cond.methodLink RL 9 yX4_init ∈ gt := gt_of 60 (by decide +kernel) (by decide +kernel)
theorem im_X4_init : Cond.instanceMethod yX4_init ∈ gt := gt_of 61 (by decide +kernel) (by decide +kernel)
set_option maxRecDepth 20000 in theorem co_X4_init : Cond.code yX4_init cX4_init 2 none ∈ gt := gt_of 62 (rfl) (by decide +kernel)
theorem ml_X4_1 : Cond.methodLink RX4 1 ⟨"java/lang/Object", "<init>", "()V"⟩ ∈ gt := gt_of 63 (by decide +kernel) (by decide +kernel)
theorem im_java_lang_Object__init_ : Cond.instanceMethod ⟨"java/lang/Object", "<init>", "()V"⟩ ∈ gt := gt_of 64 (by decide +kernel) (by decide +kernel)
theorem cl_X4_7 : Cond.classLink RX4 7 RX3 ∈ gt := gt_of 66 (by decide +kernel) (by decide +kernel)
theorem ia_X3 : Cond.instantiable RX3 8 ∈ gt := gt_of 67 (by decide +kernel) (by decide +kernel)
theorem ml_X4_9 : Cond.methodLink RX4 9 yX3_init ∈ gt := gt_of 68 (by decide +kernel) (by decide +kernel)
theorem im_X3_init : Cond.instanceMethod yX3_init ∈ gt := gt_of 69 (by decide +kernel) (by decide +kernel)
set_option maxRecDepth 20000 in theorem co_X3_init : Cond.code yX3_init cX3_init 1 none ∈ gt := gt_of 70 (rfl) (by decide +kernel)
theorem ml_X3_3 : Cond.methodLink RX3 3 ⟨"java/lang/Object", "<init>", "()V"⟩ ∈ gt := gt_of 71 (by decide +kernel) (by decide +kernel)
theorem fl_X3_9 : Cond.fieldLink RX3 9 "BumpStreets$Town" "day" "I" ∈ gt := gt_of 72 (by decide +kernel) (by decide +kernel)
theorem fl_X4_91 : Cond.fieldLink RX4 91 "BumpStreets$Town" "day" "I" ∈ gt := gt_of 73 (by decide +kernel) (by decide +kernel)
theorem fl_X3_15 : Cond.fieldLink RX3 15 "BumpStreets$Town" "inches" "I" ∈ gt := gt_of 74 (by decide +kernel) (by decide +kernel)
theorem fl_X4_71 : Cond.fieldLink RX4 71 "BumpStreets$Town" "inches" "I" ∈ gt := gt_of 75 (by decide +kernel) (by decide +kernel)
theorem fl_X2_62 : Cond.fieldLink RX2 62 "BumpStreets$Town" "inches" "I" ∈ gt := gt_of 76 (by decide +kernel) (by decide +kernel)
theorem fl_X3_18 : Cond.fieldLink RX3 18 "BumpStreets$Town" "drivers" "I" ∈ gt := gt_of 77 (by decide +kernel) (by decide +kernel)
theorem fl_X2_67 : Cond.fieldLink RX2 67 "BumpStreets$Town" "drivers" "I" ∈ gt := gt_of 78 (by decide +kernel) (by decide +kernel)
theorem fl_X4_104 : Cond.fieldLink RX4 104 "BumpStreets$Town" "drivers" "I" ∈ gt := gt_of 79 (by decide +kernel) (by decide +kernel)
theorem fl_X3_21 : Cond.fieldLink RX3 21 "BumpStreets$Town" "things" "[I" ∈ gt := gt_of 80 (by decide +kernel) (by decide +kernel)
theorem fl_X4_57 : Cond.fieldLink RX4 57 "BumpStreets$Town" "things" "[I" ∈ gt := gt_of 81 (by decide +kernel) (by decide +kernel)
theorem fl_X3_25 : Cond.fieldLink RX3 25 "BumpStreets$Town" "ages" "[I" ∈ gt := gt_of 82 (by decide +kernel) (by decide +kernel)
theorem fl_X4_68 : Cond.fieldLink RX4 68 "BumpStreets$Town" "ages" "[I" ∈ gt := gt_of 83 (by decide +kernel) (by decide +kernel)
theorem fl_X3_28 : Cond.fieldLink RX3 28 "BumpStreets$Town" "kinds" "[I" ∈ gt := gt_of 84 (by decide +kernel) (by decide +kernel)
theorem fl_X4_114 : Cond.fieldLink RX4 114 "BumpStreets$Town" "kinds" "[I" ∈ gt := gt_of 85 (by decide +kernel) (by decide +kernel)
theorem fl_X3_31 : Cond.fieldLink RX3 31 "BumpStreets$Town" "wishes" "[I" ∈ gt := gt_of 86 (by decide +kernel) (by decide +kernel)
theorem fl_X2_76 : Cond.fieldLink RX2 76 "BumpStreets$Town" "wishes" "[I" ∈ gt := gt_of 87 (by decide +kernel) (by decide +kernel)
theorem fl_X4_117 : Cond.fieldLink RX4 117 "BumpStreets$Town" "wishes" "[I" ∈ gt := gt_of 88 (by decide +kernel) (by decide +kernel)
theorem fl_X3_34 : Cond.fieldLink RX3 34 "BumpStreets$Town" "goesIn" "[I" ∈ gt := gt_of 89 (by decide +kernel) (by decide +kernel)
theorem fl_X2_81 : Cond.fieldLink RX2 81 "BumpStreets$Town" "goesIn" "[I" ∈ gt := gt_of 90 (by decide +kernel) (by decide +kernel)
theorem fl_X4_120 : Cond.fieldLink RX4 120 "BumpStreets$Town" "goesIn" "[I" ∈ gt := gt_of 91 (by decide +kernel) (by decide +kernel)
theorem la_X3_day : Cond.lays RX3 "BumpStreets$Town" "day" "I" ∈ gt := gt_of 92 (by decide +kernel) (by decide +kernel)
theorem la_X3_inches : Cond.lays RX3 "BumpStreets$Town" "inches" "I" ∈ gt := gt_of 94 (by decide +kernel) (by decide +kernel)
theorem la_X3_drivers : Cond.lays RX3 "BumpStreets$Town" "drivers" "I" ∈ gt := gt_of 96 (by decide +kernel) (by decide +kernel)
theorem la_X3_things : Cond.laysFinal RX3 "BumpStreets$Town" "things" "[I" ∈ gt := gt_of 98 (by decide +kernel) (by decide +kernel)
theorem la_X3_ages : Cond.laysFinal RX3 "BumpStreets$Town" "ages" "[I" ∈ gt := gt_of 100 (by decide +kernel) (by decide +kernel)
theorem la_X3_kinds : Cond.laysFinal RX3 "BumpStreets$Town" "kinds" "[I" ∈ gt := gt_of 102 (by decide +kernel) (by decide +kernel)
theorem la_X3_wishes : Cond.laysFinal RX3 "BumpStreets$Town" "wishes" "[I" ∈ gt := gt_of 104 (by decide +kernel) (by decide +kernel)
theorem la_X3_goesIn : Cond.laysFinal RX3 "BumpStreets$Town" "goesIn" "[I" ∈ gt := gt_of 106 (by decide +kernel) (by decide +kernel)
theorem ac_int : Cond.arrayClass .int ∈ gt := gt_of 109 (by decide +kernel) (by decide +kernel)
theorem cl_X4_22 : Cond.classLink RX4 22 RX2 ∈ gt := gt_of 110 (by decide +kernel) (by decide +kernel)
theorem ia_X2 : Cond.instantiable RX2 6 ∈ gt := gt_of 111 (by decide +kernel) (by decide +kernel)
theorem ml_X4_24 : Cond.methodLink RX4 24 yX2_init ∈ gt := gt_of 112 (by decide +kernel) (by decide +kernel)
theorem im_X2_init : Cond.instanceMethod yX2_init ∈ gt := gt_of 113 (by decide +kernel) (by decide +kernel)
set_option maxRecDepth 20000 in theorem co_X2_init : Cond.code yX2_init cX2_init 1 none ∈ gt := gt_of 114 (rfl) (by decide +kernel)
theorem ml_X2_3 : Cond.methodLink RX2 3 ⟨"java/lang/Object", "<init>", "()V"⟩ ∈ gt := gt_of 115 (by decide +kernel) (by decide +kernel)
theorem fl_X2_9 : Cond.fieldLink RX2 9 "BumpStreets$Tape" "bytes" "[I" ∈ gt := gt_of 116 (by decide +kernel) (by decide +kernel)
theorem fl_X2_15 : Cond.fieldLink RX2 15 "BumpStreets$Tape" "length" "I" ∈ gt := gt_of 117 (by decide +kernel) (by decide +kernel)
theorem fl_X4_172 : Cond.fieldLink RX4 172 "BumpStreets$Tape" "length" "I" ∈ gt := gt_of 118 (by decide +kernel) (by decide +kernel)
theorem fl_X2_32 : Cond.fieldLink RX2 32 "BumpStreets$Tape" "token" "I" ∈ gt := gt_of 119 (by decide +kernel) (by decide +kernel)
theorem fl_X2_29 : Cond.fieldLink RX2 29 "BumpStreets$Tape" "start" "I" ∈ gt := gt_of 120 (by decide +kernel) (by decide +kernel)
theorem fl_X2_19 : Cond.fieldLink RX2 19 "BumpStreets$Tape" "end" "I" ∈ gt := gt_of 121 (by decide +kernel) (by decide +kernel)
theorem fl_X2_59 : Cond.fieldLink RX2 59 "BumpStreets$Tape" "value" "I" ∈ gt := gt_of 122 (by decide +kernel) (by decide +kernel)
theorem la_X2_bytes : Cond.laysFinal RX2 "BumpStreets$Tape" "bytes" "[I" ∈ gt := gt_of 123 (by decide +kernel) (by decide +kernel)
theorem la_X2_length : Cond.lays RX2 "BumpStreets$Tape" "length" "I" ∈ gt := gt_of 125 (by decide +kernel) (by decide +kernel)
theorem la_X2_token : Cond.lays RX2 "BumpStreets$Tape" "token" "I" ∈ gt := gt_of 127 (by decide +kernel) (by decide +kernel)
theorem la_X2_start : Cond.lays RX2 "BumpStreets$Tape" "start" "I" ∈ gt := gt_of 129 (by decide +kernel) (by decide +kernel)
theorem la_X2_end : Cond.lays RX2 "BumpStreets$Tape" "end" "I" ∈ gt := gt_of 131 (by decide +kernel) (by decide +kernel)
theorem la_X2_value : Cond.lays RX2 "BumpStreets$Tape" "value" "I" ∈ gt := gt_of 133 (by decide +kernel) (by decide +kernel)
theorem cl_X4_29 : Cond.classLink RX4 29 RX1 ∈ gt := gt_of 136 (by decide +kernel) (by decide +kernel)
theorem ia_X1 : Cond.instantiable RX1 3 ∈ gt := gt_of 138 (by decide +kernel) (by decide +kernel)
theorem ml_X4_35 : Cond.methodLink RX4 35 yX1_init ∈ gt := gt_of 139 (by decide +kernel) (by decide +kernel)
theorem im_X1_init : Cond.instanceMethod yX1_init ∈ gt := gt_of 140 (by decide +kernel) (by decide +kernel)
set_option maxRecDepth 20000 in theorem co_X1_init : Cond.code yX1_init cX1_init 1 none ∈ gt := gt_of 141 (rfl) (by decide +kernel)
theorem ml_X1_3 : Cond.methodLink RX1 3 ⟨"java/lang/Object", "<init>", "()V"⟩ ∈ gt := gt_of 142 (by decide +kernel) (by decide +kernel)
theorem fl_X1_9 : Cond.fieldLink RX1 9 "BumpStreets$Sheet" "bits" "I" ∈ gt := gt_of 143 (by decide +kernel) (by decide +kernel)
theorem fl_X4_200 : Cond.fieldLink RX4 200 "BumpStreets$Sheet" "bits" "I" ∈ gt := gt_of 144 (by decide +kernel) (by decide +kernel)
theorem fl_X1_15 : Cond.fieldLink RX1 15 "BumpStreets$Sheet" "size" "I" ∈ gt := gt_of 145 (by decide +kernel) (by decide +kernel)
theorem fl_X3_73 : Cond.fieldLink RX3 73 "BumpStreets$Sheet" "size" "I" ∈ gt := gt_of 146 (by decide +kernel) (by decide +kernel)
theorem fl_X4_186 : Cond.fieldLink RX4 186 "BumpStreets$Sheet" "size" "I" ∈ gt := gt_of 147 (by decide +kernel) (by decide +kernel)
theorem fl_X1_18 : Cond.fieldLink RX1 18 "BumpStreets$Sheet" "numbers" "[J" ∈ gt := gt_of 148 (by decide +kernel) (by decide +kernel)
theorem fl_X3_81 : Cond.fieldLink RX3 81 "BumpStreets$Sheet" "numbers" "[J" ∈ gt := gt_of 149 (by decide +kernel) (by decide +kernel)
theorem fl_X4_192 : Cond.fieldLink RX4 192 "BumpStreets$Sheet" "numbers" "[J" ∈ gt := gt_of 150 (by decide +kernel) (by decide +kernel)
theorem la_X1_bits : Cond.lays RX1 "BumpStreets$Sheet" "bits" "I" ∈ gt := gt_of 151 (by decide +kernel) (by decide +kernel)
theorem la_X1_size : Cond.lays RX1 "BumpStreets$Sheet" "size" "I" ∈ gt := gt_of 153 (by decide +kernel) (by decide +kernel)
theorem la_X1_numbers : Cond.laysFinal RX1 "BumpStreets$Sheet" "numbers" "[J" ∈ gt := gt_of 155 (by decide +kernel) (by decide +kernel)
theorem ac_long : Cond.arrayClass .long ∈ gt := gt_of 158 (by decide +kernel) (by decide +kernel)
theorem fl_X4_10 : Cond.fieldLink RX4 10 "BumpStreets" "present" "LBumpStreets$Town;" ∈ gt := gt_of 159 (by decide +kernel) (by decide +kernel)
theorem fl_X4_16 : Cond.fieldLink RX4 16 "BumpStreets" "kept" "LBumpStreets$Town;" ∈ gt := gt_of 160 (by decide +kernel) (by decide +kernel)
theorem fl_X4_19 : Cond.fieldLink RX4 19 "BumpStreets" "trial" "LBumpStreets$Town;" ∈ gt := gt_of 161 (by decide +kernel) (by decide +kernel)
theorem fl_X4_25 : Cond.fieldLink RX4 25 "BumpStreets" "tape" "LBumpStreets$Tape;" ∈ gt := gt_of 162 (by decide +kernel) (by decide +kernel)
theorem fl_X4_31 : Cond.fieldLink RX4 31 "BumpStreets" "sheets" "[LBumpStreets$Sheet;" ∈ gt := gt_of 163 (by decide +kernel) (by decide +kernel)
theorem fl_X4_36 : Cond.fieldLink RX4 36 "BumpStreets" "told" "[I" ∈ gt := gt_of 164 (by decide +kernel) (by decide +kernel)
theorem fl_X4_40 : Cond.fieldLink RX4 40 "BumpStreets" "isKept" "Z" ∈ gt := gt_of 165 (by decide +kernel) (by decide +kernel)
theorem la_X4_present : Cond.laysFinal RX4 "BumpStreets" "present" "LBumpStreets$Town;" ∈ gt := gt_of 166 (by decide +kernel) (by decide +kernel)
theorem la_X4_kept : Cond.laysFinal RX4 "BumpStreets" "kept" "LBumpStreets$Town;" ∈ gt := gt_of 168 (by decide +kernel) (by decide +kernel)
theorem la_X4_trial : Cond.laysFinal RX4 "BumpStreets" "trial" "LBumpStreets$Town;" ∈ gt := gt_of 170 (by decide +kernel) (by decide +kernel)
theorem la_X4_tape : Cond.laysFinal RX4 "BumpStreets" "tape" "LBumpStreets$Tape;" ∈ gt := gt_of 172 (by decide +kernel) (by decide +kernel)
theorem la_X4_sheets : Cond.laysFinal RX4 "BumpStreets" "sheets" "[LBumpStreets$Sheet;" ∈ gt := gt_of 174 (by decide +kernel) (by decide +kernel)
theorem la_X4_told : Cond.laysFinal RX4 "BumpStreets" "told" "[I" ∈ gt := gt_of 176 (by decide +kernel) (by decide +kernel)
theorem la_X4_isKept : Cond.lays RX4 "BumpStreets" "isKept" "Z" ∈ gt := gt_of 178 (by decide +kernel) (by decide +kernel)
theorem ml_L_13 : Cond.methodLink RL 13 yX4_thing ∈ gt := gt_of 181 (by decide +kernel) (by decide +kernel)
theorem im_X4_thing : Cond.instanceMethod yX4_thing ∈ gt := gt_of 182 (by decide +kernel) (by decide +kernel)
theorem se_X4_thing : Cond.selects RX4 yX4_thing yX4_thing ∈ gt := gt_of 183 (by decide +kernel) (by decide +kernel)
set_option maxRecDepth 20000 in theorem co_X4_thing : Cond.code yX4_thing cX4_thing 5 (some .int) ∈ gt := gt_of 184 (rfl) (by decide +kernel)
theorem ml_X4_44 : Cond.methodLink RX4 44 yX4_isStretch ∈ gt := gt_of 185 (by decide +kernel) (by decide +kernel)
theorem sm_X4_isStretch : Cond.static yX4_isStretch ∈ gt := gt_of 186 (by decide +kernel) (by decide +kernel)
set_option maxRecDepth 20000 in theorem co_X4_isStretch : Cond.code yX4_isStretch cX4_isStretch 2 (some .boolean) ∈ gt := gt_of 187 (rfl) (by decide +kernel)
theorem ml_X4_75 : Cond.methodLink RX4 75 yX4_isStreet ∈ gt := gt_of 188 (by decide +kernel) (by decide +kernel)
theorem sm_X4_isStreet : Cond.static yX4_isStreet ∈ gt := gt_of 189 (by decide +kernel) (by decide +kernel)
set_option maxRecDepth 20000 in theorem co_X4_isStreet : Cond.code yX4_isStreet cX4_isStreet 1 (some .boolean) ∈ gt := gt_of 190 (rfl) (by decide +kernel)
theorem ml_X4_48 : Cond.methodLink RX4 48 yX4_isWithin ∈ gt := gt_of 191 (by decide +kernel) (by decide +kernel)
theorem sm_X4_isWithin : Cond.static yX4_isWithin ∈ gt := gt_of 192 (by decide +kernel) (by decide +kernel)
set_option maxRecDepth 20000 in theorem co_X4_isWithin : Cond.code yX4_isWithin cX4_isWithin 3 (some .boolean) ∈ gt := gt_of 193 (rfl) (by decide +kernel)
theorem kc_X4_52 : Cond.constant RX4 52 (-1000000001) ∈ gt := gt_of 194 (by decide +kernel) (by decide +kernel)
theorem ml_X4_53 : Cond.methodLink RX4 53 yX4_tell ∈ gt := gt_of 195 (by decide +kernel) (by decide +kernel)
theorem im_X4_tell : Cond.instanceMethod yX4_tell ∈ gt := gt_of 197 (by decide +kernel) (by decide +kernel)
set_option maxRecDepth 20000 in theorem co_X4_tell : Cond.code yX4_tell cX4_tell 3 (some .int) ∈ gt := gt_of 198 (rfl) (by decide +kernel)
theorem ml_X4_60 : Cond.methodLink RX4 60 yX4_placeOf ∈ gt := gt_of 199 (by decide +kernel) (by decide +kernel)
theorem sm_X4_placeOf : Cond.static yX4_placeOf ∈ gt := gt_of 200 (by decide +kernel) (by decide +kernel)
set_option maxRecDepth 20000 in theorem co_X4_placeOf : Cond.code yX4_placeOf cX4_placeOf 2 (some .int) ∈ gt := gt_of 201 (rfl) (by decide +kernel)
theorem ml_X4_64 : Cond.methodLink RX4 64 yX3_lay ∈ gt := gt_of 202 (by decide +kernel) (by decide +kernel)
theorem im_X3_lay : Cond.instanceMethod yX3_lay ∈ gt := gt_of 203 (by decide +kernel) (by decide +kernel)
theorem se_X3_lay : Cond.selects RX3 yX3_lay yX3_lay ∈ gt := gt_of 204 (by decide +kernel) (by decide +kernel)
set_option maxRecDepth 20000 in theorem co_X3_lay : Cond.code yX3_lay cX3_lay 5 none ∈ gt := gt_of 205 (rfl) (by decide +kernel)
theorem ml_L_18 : Cond.methodLink RL 18 yX4_stretch ∈ gt := gt_of 207 (by decide +kernel) (by decide +kernel)
theorem im_X4_stretch : Cond.instanceMethod yX4_stretch ∈ gt := gt_of 208 (by decide +kernel) (by decide +kernel)
theorem se_X4_stretch : Cond.selects RX4 yX4_stretch yX4_stretch ∈ gt := gt_of 209 (by decide +kernel) (by decide +kernel)
set_option maxRecDepth 20000 in theorem co_X4_stretch : Cond.code yX4_stretch cX4_stretch 5 (some .int) ∈ gt := gt_of 210 (rfl) (by decide +kernel)
theorem ml_L_22 : Cond.methodLink RL 22 yX4_high ∈ gt := gt_of 211 (by decide +kernel) (by decide +kernel)
theorem im_X4_high : Cond.instanceMethod yX4_high ∈ gt := gt_of 212 (by decide +kernel) (by decide +kernel)
theorem se_X4_high : Cond.selects RX4 yX4_high yX4_high ∈ gt := gt_of 213 (by decide +kernel) (by decide +kernel)
set_option maxRecDepth 20000 in theorem co_X4_high : Cond.code yX4_high cX4_high 3 (some .int) ∈ gt := gt_of 214 (rfl) (by decide +kernel)
theorem ml_L_27 : Cond.methodLink RL 27 yX4_street ∈ gt := gt_of 215 (by decide +kernel) (by decide +kernel)
theorem im_X4_street : Cond.instanceMethod yX4_street ∈ gt := gt_of 216 (by decide +kernel) (by decide +kernel)
theorem se_X4_street : Cond.selects RX4 yX4_street yX4_street ∈ gt := gt_of 217 (by decide +kernel) (by decide +kernel)
set_option maxRecDepth 20000 in theorem co_X4_street : Cond.code yX4_street cX4_street 3 (some .int) ∈ gt := gt_of 218 (rfl) (by decide +kernel)
theorem ml_X4_79 : Cond.methodLink RX4 79 yX3_stretchesWithThing ∈ gt := gt_of 219 (by decide +kernel) (by decide +kernel)
theorem im_X3_stretchesWithThing : Cond.instanceMethod yX3_stretchesWithThing ∈ gt := gt_of 220 (by decide +kernel) (by decide +kernel)
theorem se_X3_stretchesWithThing : Cond.selects RX3 yX3_stretchesWithThing yX3_stretchesWithThing ∈ gt := gt_of 221 (by decide +kernel) (by decide +kernel)
set_option maxRecDepth 20000 in theorem co_X3_stretchesWithThing : Cond.code yX3_stretchesWithThing cX3_stretchesWithThing 4 (some .int) ∈ gt := gt_of 222 (rfl) (by decide +kernel)
theorem ml_X4_82 : Cond.methodLink RX4 82 yX3_bumpsIn ∈ gt := gt_of 223 (by decide +kernel) (by decide +kernel)
theorem im_X3_bumpsIn : Cond.instanceMethod yX3_bumpsIn ∈ gt := gt_of 224 (by decide +kernel) (by decide +kernel)
theorem se_X3_bumpsIn : Cond.selects RX3 yX3_bumpsIn yX3_bumpsIn ∈ gt := gt_of 225 (by decide +kernel) (by decide +kernel)
set_option maxRecDepth 20000 in theorem co_X3_bumpsIn : Cond.code yX3_bumpsIn cX3_bumpsIn 4 (some .int) ∈ gt := gt_of 226 (rfl) (by decide +kernel)
theorem ml_X4_85 : Cond.methodLink RX4 85 yX3_whoGoesIn ∈ gt := gt_of 227 (by decide +kernel) (by decide +kernel)
theorem im_X3_whoGoesIn : Cond.instanceMethod yX3_whoGoesIn ∈ gt := gt_of 228 (by decide +kernel) (by decide +kernel)
theorem se_X3_whoGoesIn : Cond.selects RX3 yX3_whoGoesIn yX3_whoGoesIn ∈ gt := gt_of 229 (by decide +kernel) (by decide +kernel)
set_option maxRecDepth 20000 in theorem co_X3_whoGoesIn : Cond.code yX3_whoGoesIn cX3_whoGoesIn 4 (some .int) ∈ gt := gt_of 230 (rfl) (by decide +kernel)
theorem ml_X4_88 : Cond.methodLink RX4 88 yX3_shakingIn ∈ gt := gt_of 231 (by decide +kernel) (by decide +kernel)
theorem im_X3_shakingIn : Cond.instanceMethod yX3_shakingIn ∈ gt := gt_of 232 (by decide +kernel) (by decide +kernel)
theorem se_X3_shakingIn : Cond.selects RX3 yX3_shakingIn yX3_shakingIn ∈ gt := gt_of 233 (by decide +kernel) (by decide +kernel)
set_option maxRecDepth 20000 in theorem co_X3_shakingIn : Cond.code yX3_shakingIn cX3_shakingIn 4 (some .int) ∈ gt := gt_of 234 (rfl) (by decide +kernel)
theorem ml_X3_85 : Cond.methodLink RX3 85 yX3_shakingBy ∈ gt := gt_of 235 (by decide +kernel) (by decide +kernel)
theorem im_X3_shakingBy : Cond.instanceMethod yX3_shakingBy ∈ gt := gt_of 236 (by decide +kernel) (by decide +kernel)
theorem se_X3_shakingBy : Cond.selects RX3 yX3_shakingBy yX3_shakingBy ∈ gt := gt_of 237 (by decide +kernel) (by decide +kernel)
set_option maxRecDepth 20000 in theorem co_X3_shakingBy : Cond.code yX3_shakingBy cX3_shakingBy 7 (some .int) ∈ gt := gt_of 238 (rfl) (by decide +kernel)
theorem ml_X3_60 : Cond.methodLink RX3 60 yX3_nextPace ∈ gt := gt_of 239 (by decide +kernel) (by decide +kernel)
theorem im_X3_nextPace : Cond.instanceMethod yX3_nextPace ∈ gt := gt_of 241 (by decide +kernel) (by decide +kernel)
set_option maxRecDepth 20000 in theorem co_X3_nextPace : Cond.code yX3_nextPace cX3_nextPace 7 (some .int) ∈ gt := gt_of 242 (rfl) (by decide +kernel)
theorem ml_X3_51 : Cond.methodLink RX3 51 yX0_hurries ∈ gt := gt_of 243 (by decide +kernel) (by decide +kernel)
theorem sm_X0_hurries : Cond.static yX0_hurries ∈ gt := gt_of 244 (by decide +kernel) (by decide +kernel)
set_option maxRecDepth 20000 in theorem co_X0_hurries : Cond.code yX0_hurries cX0_hurries 1 (some .int) ∈ gt := gt_of 245 (rfl) (by decide +kernel)
theorem ml_X3_56 : Cond.methodLink RX3 56 yX0_slowsTo ∈ gt := gt_of 246 (by decide +kernel) (by decide +kernel)
theorem sm_X0_slowsTo : Cond.static yX0_slowsTo ∈ gt := gt_of 247 (by decide +kernel) (by decide +kernel)
set_option maxRecDepth 20000 in theorem co_X0_slowsTo : Cond.code yX0_slowsTo cX0_slowsTo 7 (some .int) ∈ gt := gt_of 248 (rfl) (by decide +kernel)
theorem ml_X0_15 : Cond.methodLink RX0 15 yX0_overBump ∈ gt := gt_of 249 (by decide +kernel) (by decide +kernel)
theorem sm_X0_overBump : Cond.static yX0_overBump ∈ gt := gt_of 250 (by decide +kernel) (by decide +kernel)
set_option maxRecDepth 20000 in theorem co_X0_overBump : Cond.code yX0_overBump cX0_overBump 5 (some .int) ∈ gt := gt_of 251 (rfl) (by decide +kernel)
theorem ml_X0_19 : Cond.methodLink RX0 19 yJ9_min_7cf53 ∈ gt := gt_of 252 (by decide +kernel) (by decide +kernel)
theorem sm_J9_min_7cf53 : Cond.static yJ9_min_7cf53 ∈ gt := gt_of 253 (by decide +kernel) (by decide +kernel)
set_option maxRecDepth 20000 in theorem co_J9_min_7cf53 : Cond.code yJ9_min_7cf53 cJ9_min_7cf53 2 (some .int) ∈ gt := gt_of 254 (rfl) (by decide +kernel)
theorem ml_X3_69 : Cond.methodLink RX3 69 yX0_shakes ∈ gt := gt_of 255 (by decide +kernel) (by decide +kernel)
theorem sm_X0_shakes : Cond.static yX0_shakes ∈ gt := gt_of 256 (by decide +kernel) (by decide +kernel)
set_option maxRecDepth 20000 in theorem co_X0_shakes : Cond.code yX0_shakes cX0_shakes 4 (some .int) ∈ gt := gt_of 257 (rfl) (by decide +kernel)
theorem ml_L_32 : Cond.methodLink RL 32 yX4_now ∈ gt := gt_of 258 (by decide +kernel) (by decide +kernel)
theorem im_X4_now : Cond.instanceMethod yX4_now ∈ gt := gt_of 259 (by decide +kernel) (by decide +kernel)
theorem se_X4_now : Cond.selects RX4 yX4_now yX4_now ∈ gt := gt_of 260 (by decide +kernel) (by decide +kernel)
set_option maxRecDepth 20000 in theorem co_X4_now : Cond.code yX4_now cX4_now 2 (some .int) ∈ gt := gt_of 261 (rfl) (by decide +kernel)
theorem ml_X4_94 : Cond.methodLink RX4 94 yX3_shakingOfAll ∈ gt := gt_of 262 (by decide +kernel) (by decide +kernel)
theorem im_X3_shakingOfAll : Cond.instanceMethod yX3_shakingOfAll ∈ gt := gt_of 263 (by decide +kernel) (by decide +kernel)
theorem se_X3_shakingOfAll : Cond.selects RX3 yX3_shakingOfAll yX3_shakingOfAll ∈ gt := gt_of 264 (by decide +kernel) (by decide +kernel)
set_option maxRecDepth 20000 in theorem co_X3_shakingOfAll : Cond.code yX3_shakingOfAll cX3_shakingOfAll 3 (some .int) ∈ gt := gt_of 265 (rfl) (by decide +kernel)
theorem ml_X4_98 : Cond.methodLink RX4 98 yX3_timeOfAll ∈ gt := gt_of 266 (by decide +kernel) (by decide +kernel)
theorem im_X3_timeOfAll : Cond.instanceMethod yX3_timeOfAll ∈ gt := gt_of 267 (by decide +kernel) (by decide +kernel)
theorem se_X3_timeOfAll : Cond.selects RX3 yX3_timeOfAll yX3_timeOfAll ∈ gt := gt_of 268 (by decide +kernel) (by decide +kernel)
set_option maxRecDepth 20000 in theorem co_X3_timeOfAll : Cond.code yX3_timeOfAll cX3_timeOfAll 3 (some .int) ∈ gt := gt_of 269 (rfl) (by decide +kernel)
theorem ml_X3_88 : Cond.methodLink RX3 88 yX3_timeFor ∈ gt := gt_of 270 (by decide +kernel) (by decide +kernel)
theorem im_X3_timeFor : Cond.instanceMethod yX3_timeFor ∈ gt := gt_of 271 (by decide +kernel) (by decide +kernel)
theorem se_X3_timeFor : Cond.selects RX3 yX3_timeFor yX3_timeFor ∈ gt := gt_of 272 (by decide +kernel) (by decide +kernel)
set_option maxRecDepth 20000 in theorem co_X3_timeFor : Cond.code yX3_timeFor cX3_timeFor 7 (some .int) ∈ gt := gt_of 273 (rfl) (by decide +kernel)
theorem ml_L_36 : Cond.methodLink RL 36 yX4_driver ∈ gt := gt_of 274 (by decide +kernel) (by decide +kernel)
theorem im_X4_driver : Cond.instanceMethod yX4_driver ∈ gt := gt_of 275 (by decide +kernel) (by decide +kernel)
theorem se_X4_driver : Cond.selects RX4 yX4_driver yX4_driver ∈ gt := gt_of 276 (by decide +kernel) (by decide +kernel)
set_option maxRecDepth 20000 in theorem co_X4_driver : Cond.code yX4_driver cX4_driver 2 (some .int) ∈ gt := gt_of 277 (rfl) (by decide +kernel)
theorem ml_X4_101 : Cond.methodLink RX4 101 yX4_isKind ∈ gt := gt_of 278 (by decide +kernel) (by decide +kernel)
theorem sm_X4_isKind : Cond.static yX4_isKind ∈ gt := gt_of 279 (by decide +kernel) (by decide +kernel)
set_option maxRecDepth 20000 in theorem co_X4_isKind : Cond.code yX4_isKind cX4_isKind 1 (some .boolean) ∈ gt := gt_of 280 (rfl) (by decide +kernel)
theorem kc_X4_107 : Cond.constant RX4 107 (-1000000002) ∈ gt := gt_of 281 (by decide +kernel) (by decide +kernel)
theorem ml_X4_108 : Cond.methodLink RX4 108 yX3_addDriver ∈ gt := gt_of 282 (by decide +kernel) (by decide +kernel)
theorem im_X3_addDriver : Cond.instanceMethod yX3_addDriver ∈ gt := gt_of 283 (by decide +kernel) (by decide +kernel)
theorem se_X3_addDriver : Cond.selects RX3 yX3_addDriver yX3_addDriver ∈ gt := gt_of 284 (by decide +kernel) (by decide +kernel)
set_option maxRecDepth 20000 in theorem co_X3_addDriver : Cond.code yX3_addDriver cX3_addDriver 3 (some .int) ∈ gt := gt_of 285 (rfl) (by decide +kernel)
theorem ml_L_40 : Cond.methodLink RL 40 yX4_of ∈ gt := gt_of 286 (by decide +kernel) (by decide +kernel)
theorem im_X4_of : Cond.instanceMethod yX4_of ∈ gt := gt_of 287 (by decide +kernel) (by decide +kernel)
theorem se_X4_of : Cond.selects RX4 yX4_of yX4_of ∈ gt := gt_of 288 (by decide +kernel) (by decide +kernel)
set_option maxRecDepth 20000 in theorem co_X4_of : Cond.code yX4_of cX4_of 6 (some .int) ∈ gt := gt_of 289 (rfl) (by decide +kernel)
theorem ml_X4_111 : Cond.methodLink RX4 111 yX3_hasDriver ∈ gt := gt_of 290 (by decide +kernel) (by decide +kernel)
theorem im_X3_hasDriver : Cond.instanceMethod yX3_hasDriver ∈ gt := gt_of 291 (by decide +kernel) (by decide +kernel)
theorem se_X3_hasDriver : Cond.selects RX3 yX3_hasDriver yX3_hasDriver ∈ gt := gt_of 292 (by decide +kernel) (by decide +kernel)
set_option maxRecDepth 20000 in theorem co_X3_hasDriver : Cond.code yX3_hasDriver cX3_hasDriver 2 (some .boolean) ∈ gt := gt_of 293 (rfl) (by decide +kernel)
theorem ml_X4_123 : Cond.methodLink RX4 123 yX0_hurries ∈ gt := gt_of 294 (by decide +kernel) (by decide +kernel)
theorem ml_X4_128 : Cond.methodLink RX4 128 yX3_timeFor ∈ gt := gt_of 295 (by decide +kernel) (by decide +kernel)
theorem ml_X4_132 : Cond.methodLink RX4 132 yX3_shakingBy ∈ gt := gt_of 296 (by decide +kernel) (by decide +kernel)
theorem ml_L_44 : Cond.methodLink RL 44 yX4_set ∈ gt := gt_of 297 (by decide +kernel) (by decide +kernel)
theorem im_X4_set : Cond.instanceMethod yX4_set ∈ gt := gt_of 298 (by decide +kernel) (by decide +kernel)
theorem se_X4_set : Cond.selects RX4 yX4_set yX4_set ∈ gt := gt_of 299 (by decide +kernel) (by decide +kernel)
set_option maxRecDepth 20000 in theorem co_X4_set : Cond.code yX4_set cX4_set 5 (some .int) ∈ gt := gt_of 300 (rfl) (by decide +kernel)
theorem ml_L_48 : Cond.methodLink RL 48 yX4_turn ∈ gt := gt_of 301 (by decide +kernel) (by decide +kernel)
theorem im_X4_turn : Cond.instanceMethod yX4_turn ∈ gt := gt_of 302 (by decide +kernel) (by decide +kernel)
theorem se_X4_turn : Cond.selects RX4 yX4_turn yX4_turn ∈ gt := gt_of 303 (by decide +kernel) (by decide +kernel)
set_option maxRecDepth 20000 in theorem co_X4_turn : Cond.code yX4_turn cX4_turn 4 (some .int) ∈ gt := gt_of 304 (rfl) (by decide +kernel)
theorem ml_L_52 : Cond.methodLink RL 52 yX4_as ∈ gt := gt_of 305 (by decide +kernel) (by decide +kernel)
theorem im_X4_as : Cond.instanceMethod yX4_as ∈ gt := gt_of 306 (by decide +kernel) (by decide +kernel)
theorem se_X4_as : Cond.selects RX4 yX4_as yX4_as ∈ gt := gt_of 307 (by decide +kernel) (by decide +kernel)
set_option maxRecDepth 20000 in theorem co_X4_as : Cond.code yX4_as cX4_as 3 (some .int) ∈ gt := gt_of 308 (rfl) (by decide +kernel)
theorem ml_X4_135 : Cond.methodLink RX4 135 yX0_isOf ∈ gt := gt_of 309 (by decide +kernel) (by decide +kernel)
theorem sm_X0_isOf : Cond.static yX0_isOf ∈ gt := gt_of 310 (by decide +kernel) (by decide +kernel)
set_option maxRecDepth 20000 in theorem co_X0_isOf : Cond.code yX0_isOf cX0_isOf 4 (some .boolean) ∈ gt := gt_of 311 (rfl) (by decide +kernel)
theorem ml_X0_9 : Cond.methodLink RX0 9 yX0_above ∈ gt := gt_of 312 (by decide +kernel) (by decide +kernel)
theorem sm_X0_above : Cond.static yX0_above ∈ gt := gt_of 313 (by decide +kernel) (by decide +kernel)
set_option maxRecDepth 20000 in theorem co_X0_above : Cond.code yX0_above cX0_above 1 (some .int) ∈ gt := gt_of 314 (rfl) (by decide +kernel)
theorem kc_X4_138 : Cond.constant RX4 138 (-1000000003) ∈ gt := gt_of 315 (by decide +kernel) (by decide +kernel)
theorem ml_L_56 : Cond.methodLink RL 56 yX4_slows ∈ gt := gt_of 316 (by decide +kernel) (by decide +kernel)
theorem im_X4_slows : Cond.instanceMethod yX4_slows ∈ gt := gt_of 317 (by decide +kernel) (by decide +kernel)
theorem se_X4_slows : Cond.selects RX4 yX4_slows yX4_slows ∈ gt := gt_of 318 (by decide +kernel) (by decide +kernel)
set_option maxRecDepth 20000 in theorem co_X4_slows : Cond.code yX4_slows cX4_slows 4 (some .int) ∈ gt := gt_of 319 (rfl) (by decide +kernel)
theorem ml_X4_139 : Cond.methodLink RX4 139 yX0_slowsTo ∈ gt := gt_of 320 (by decide +kernel) (by decide +kernel)
theorem ml_L_60 : Cond.methodLink RL 60 yX4_quick ∈ gt := gt_of 321 (by decide +kernel) (by decide +kernel)
theorem im_X4_quick : Cond.instanceMethod yX4_quick ∈ gt := gt_of 322 (by decide +kernel) (by decide +kernel)
theorem se_X4_quick : Cond.selects RX4 yX4_quick yX4_quick ∈ gt := gt_of 323 (by decide +kernel) (by decide +kernel)
set_option maxRecDepth 20000 in theorem co_X4_quick : Cond.code yX4_quick cX4_quick 4 (some .int) ∈ gt := gt_of 324 (rfl) (by decide +kernel)
theorem ml_X4_143 : Cond.methodLink RX4 143 yX3_paceOn ∈ gt := gt_of 325 (by decide +kernel) (by decide +kernel)
theorem im_X3_paceOn : Cond.instanceMethod yX3_paceOn ∈ gt := gt_of 326 (by decide +kernel) (by decide +kernel)
theorem se_X3_paceOn : Cond.selects RX3 yX3_paceOn yX3_paceOn ∈ gt := gt_of 327 (by decide +kernel) (by decide +kernel)
set_option maxRecDepth 20000 in theorem co_X3_paceOn : Cond.code yX3_paceOn cX3_paceOn 7 (some .int) ∈ gt := gt_of 328 (rfl) (by decide +kernel)
theorem ml_L_64 : Cond.methodLink RL 64 yX4_takes ∈ gt := gt_of 329 (by decide +kernel) (by decide +kernel)
theorem im_X4_takes : Cond.instanceMethod yX4_takes ∈ gt := gt_of 330 (by decide +kernel) (by decide +kernel)
theorem se_X4_takes : Cond.selects RX4 yX4_takes yX4_takes ∈ gt := gt_of 331 (by decide +kernel) (by decide +kernel)
set_option maxRecDepth 20000 in theorem co_X4_takes : Cond.code yX4_takes cX4_takes 3 (some .int) ∈ gt := gt_of 332 (rfl) (by decide +kernel)
theorem ml_L_68 : Cond.methodLink RL 68 yX4_shaken ∈ gt := gt_of 333 (by decide +kernel) (by decide +kernel)
theorem im_X4_shaken : Cond.instanceMethod yX4_shaken ∈ gt := gt_of 334 (by decide +kernel) (by decide +kernel)
theorem se_X4_shaken : Cond.selects RX4 yX4_shaken yX4_shaken ∈ gt := gt_of 335 (by decide +kernel) (by decide +kernel)
set_option maxRecDepth 20000 in theorem co_X4_shaken : Cond.code yX4_shaken cX4_shaken 3 (some .int) ∈ gt := gt_of 336 (rfl) (by decide +kernel)
theorem ml_L_72 : Cond.methodLink RL 72 yX4_days ∈ gt := gt_of 337 (by decide +kernel) (by decide +kernel)
theorem im_X4_days : Cond.instanceMethod yX4_days ∈ gt := gt_of 338 (by decide +kernel) (by decide +kernel)
theorem se_X4_days : Cond.selects RX4 yX4_days yX4_days ∈ gt := gt_of 339 (by decide +kernel) (by decide +kernel)
set_option maxRecDepth 20000 in theorem co_X4_days : Cond.code yX4_days cX4_days 2 (some .int) ∈ gt := gt_of 340 (rfl) (by decide +kernel)
theorem kc_X4_147 : Cond.constant RX4 147 (-1000000005) ∈ gt := gt_of 341 (by decide +kernel) (by decide +kernel)
theorem ml_X4_148 : Cond.methodLink RX4 148 yX3_letDaysGo ∈ gt := gt_of 342 (by decide +kernel) (by decide +kernel)
theorem im_X3_letDaysGo : Cond.instanceMethod yX3_letDaysGo ∈ gt := gt_of 343 (by decide +kernel) (by decide +kernel)
theorem se_X3_letDaysGo : Cond.selects RX3 yX3_letDaysGo yX3_letDaysGo ∈ gt := gt_of 344 (by decide +kernel) (by decide +kernel)
set_option maxRecDepth 20000 in theorem co_X3_letDaysGo : Cond.code yX3_letDaysGo cX3_letDaysGo 3 none ∈ gt := gt_of 345 (rfl) (by decide +kernel)
theorem ml_X3_91 : Cond.methodLink RX3 91 yX3_letDayGo ∈ gt := gt_of 346 (by decide +kernel) (by decide +kernel)
theorem im_X3_letDayGo : Cond.instanceMethod yX3_letDayGo ∈ gt := gt_of 347 (by decide +kernel) (by decide +kernel)
theorem se_X3_letDayGo : Cond.selects RX3 yX3_letDayGo yX3_letDayGo ∈ gt := gt_of 348 (by decide +kernel) (by decide +kernel)
set_option maxRecDepth 20000 in theorem co_X3_letDayGo : Cond.code yX3_letDayGo cX3_letDayGo 4 none ∈ gt := gt_of 349 (rfl) (by decide +kernel)
theorem ml_X3_95 : Cond.methodLink RX3 95 yX3_agePaint ∈ gt := gt_of 350 (by decide +kernel) (by decide +kernel)
theorem im_X3_agePaint : Cond.instanceMethod yX3_agePaint ∈ gt := gt_of 352 (by decide +kernel) (by decide +kernel)
set_option maxRecDepth 20000 in theorem co_X3_agePaint : Cond.code yX3_agePaint cX3_agePaint 3 (some .boolean) ∈ gt := gt_of 353 (rfl) (by decide +kernel)
theorem ml_X3_99 : Cond.methodLink RX3 99 yX3_chooseStreet ∈ gt := gt_of 354 (by decide +kernel) (by decide +kernel)
theorem im_X3_chooseStreet : Cond.instanceMethod yX3_chooseStreet ∈ gt := gt_of 356 (by decide +kernel) (by decide +kernel)
set_option maxRecDepth 20000 in theorem co_X3_chooseStreet : Cond.code yX3_chooseStreet cX3_chooseStreet 8 none ∈ gt := gt_of 357 (rfl) (by decide +kernel)
theorem ml_L_76 : Cond.methodLink RL 76 yX4_on ∈ gt := gt_of 358 (by decide +kernel) (by decide +kernel)
theorem im_X4_on : Cond.instanceMethod yX4_on ∈ gt := gt_of 359 (by decide +kernel) (by decide +kernel)
theorem se_X4_on : Cond.selects RX4 yX4_on yX4_on ∈ gt := gt_of 360 (by decide +kernel) (by decide +kernel)
set_option maxRecDepth 20000 in theorem co_X4_on : Cond.code yX4_on cX4_on 3 (some .int) ∈ gt := gt_of 361 (rfl) (by decide +kernel)
theorem ml_X4_152 : Cond.methodLink RX4 152 yX3_becomeLike ∈ gt := gt_of 362 (by decide +kernel) (by decide +kernel)
theorem im_X3_becomeLike : Cond.instanceMethod yX3_becomeLike ∈ gt := gt_of 363 (by decide +kernel) (by decide +kernel)
theorem se_X3_becomeLike : Cond.selects RX3 yX3_becomeLike yX3_becomeLike ∈ gt := gt_of 364 (by decide +kernel) (by decide +kernel)
set_option maxRecDepth 20000 in theorem co_X3_becomeLike : Cond.code yX3_becomeLike cX3_becomeLike 2 none ∈ gt := gt_of 365 (rfl) (by decide +kernel)
theorem ml_X3_37 : Cond.methodLink RX3 37 ⟨"java/lang/System", "arraycopy", "(Ljava/lang/Object;ILjava/lang/Object;II)V"⟩ ∈ gt := gt_of 366 (by decide +kernel) (by decide +kernel)
theorem sm_java_lang_System_arraycopy : Cond.static ⟨"java/lang/System", "arraycopy", "(Ljava/lang/Object;ILjava/lang/Object;II)V"⟩ ∈ gt := gt_of 367 (by decide +kernel) (by decide +kernel)
theorem nm_java_lang_System_arraycopy : Cond.native ⟨"java/lang/System", "arraycopy", "(Ljava/lang/Object;ILjava/lang/Object;II)V"⟩ ∈ gt := gt_of 368 (by decide +kernel) (by decide +kernel)
theorem ml_L_80 : Cond.methodLink RL 80 yX4_then ∈ gt := gt_of 369 (by decide +kernel) (by decide +kernel)
theorem im_X4_then : Cond.instanceMethod yX4_then ∈ gt := gt_of 370 (by decide +kernel) (by decide +kernel)
theorem se_X4_then : Cond.selects RX4 yX4_then yX4_then ∈ gt := gt_of 371 (by decide +kernel) (by decide +kernel)
set_option maxRecDepth 20000 in theorem co_X4_then : Cond.code yX4_then cX4_then 3 (some .int) ∈ gt := gt_of 372 (rfl) (by decide +kernel)
theorem ml_L_84 : Cond.methodLink RL 84 yX4_leaves ∈ gt := gt_of 373 (by decide +kernel) (by decide +kernel)
theorem im_X4_leaves : Cond.instanceMethod yX4_leaves ∈ gt := gt_of 374 (by decide +kernel) (by decide +kernel)
theorem se_X4_leaves : Cond.selects RX4 yX4_leaves yX4_leaves ∈ gt := gt_of 375 (by decide +kernel) (by decide +kernel)
set_option maxRecDepth 20000 in theorem co_X4_leaves : Cond.code yX4_leaves cX4_leaves 3 (some .int) ∈ gt := gt_of 376 (rfl) (by decide +kernel)
theorem ml_X4_156 : Cond.methodLink RX4 156 yX3_letDayGo ∈ gt := gt_of 377 (by decide +kernel) (by decide +kernel)
theorem kc_X4_160 : Cond.constant RX4 160 (-1000000004) ∈ gt := gt_of 378 (by decide +kernel) (by decide +kernel)
theorem ml_L_88 : Cond.methodLink RL 88 yX4_tame ∈ gt := gt_of 379 (by decide +kernel) (by decide +kernel)
theorem im_X4_tame : Cond.instanceMethod yX4_tame ∈ gt := gt_of 380 (by decide +kernel) (by decide +kernel)
theorem se_X4_tame : Cond.selects RX4 yX4_tame yX4_tame ∈ gt := gt_of 381 (by decide +kernel) (by decide +kernel)
set_option maxRecDepth 20000 in theorem co_X4_tame : Cond.code yX4_tame cX4_tame 7 (some .int) ∈ gt := gt_of 382 (rfl) (by decide +kernel)
theorem ml_X4_161 : Cond.methodLink RX4 161 yX3_topPace ∈ gt := gt_of 383 (by decide +kernel) (by decide +kernel)
theorem im_X3_topPace : Cond.instanceMethod yX3_topPace ∈ gt := gt_of 384 (by decide +kernel) (by decide +kernel)
theorem se_X3_topPace : Cond.selects RX3 yX3_topPace yX3_topPace ∈ gt := gt_of 385 (by decide +kernel) (by decide +kernel)
set_option maxRecDepth 20000 in theorem co_X3_topPace : Cond.code yX3_topPace cX3_topPace 7 (some .int) ∈ gt := gt_of 386 (rfl) (by decide +kernel)
end
section
theorem ml_X3_64 : Cond.methodLink RX3 64 yJ9_max_7cf53 ∈ gt := gt_of 387 (by decide +kernel) (by decide +kernel)
theorem sm_J9_max_7cf53 : Cond.static yJ9_max_7cf53 ∈ gt := gt_of 388 (by decide +kernel) (by decide +kernel)
set_option maxRecDepth 20000 in theorem co_J9_max_7cf53 : Cond.code yJ9_max_7cf53 cJ9_max_7cf53 2 (some .int) ∈ gt := gt_of 389 (rfl) (by decide +kernel)
theorem ml_L_92 : Cond.methodLink RL 92 yX4_clear ∈ gt := gt_of 390 (by decide +kernel) (by decide +kernel)
theorem im_X4_clear : Cond.instanceMethod yX4_clear ∈ gt := gt_of 391 (by decide +kernel) (by decide +kernel)
theorem se_X4_clear : Cond.selects RX4 yX4_clear yX4_clear ∈ gt := gt_of 392 (by decide +kernel) (by decide +kernel)
set_option maxRecDepth 20000 in theorem co_X4_clear : Cond.code yX4_clear cX4_clear 7 (some .int) ∈ gt := gt_of 393 (rfl) (by decide +kernel)
theorem ml_L_96 : Cond.methodLink RL 96 yX4_lower ∈ gt := gt_of 394 (by decide +kernel) (by decide +kernel)
theorem im_X4_lower : Cond.instanceMethod yX4_lower ∈ gt := gt_of 395 (by decide +kernel) (by decide +kernel)
theorem se_X4_lower : Cond.selects RX4 yX4_lower yX4_lower ∈ gt := gt_of 396 (by decide +kernel) (by decide +kernel)
set_option maxRecDepth 20000 in theorem co_X4_lower : Cond.code yX4_lower cX4_lower 4 (some .int) ∈ gt := gt_of 397 (rfl) (by decide +kernel)
theorem kc_X4_164 : Cond.constant RX4 164 (99999) ∈ gt := gt_of 398 (by decide +kernel) (by decide +kernel)
theorem ml_L_100 : Cond.methodLink RL 100 yX4_kind ∈ gt := gt_of 399 (by decide +kernel) (by decide +kernel)
theorem im_X4_kind : Cond.instanceMethod yX4_kind ∈ gt := gt_of 400 (by decide +kernel) (by decide +kernel)
theorem se_X4_kind : Cond.selects RX4 yX4_kind yX4_kind ∈ gt := gt_of 401 (by decide +kernel) (by decide +kernel)
set_option maxRecDepth 20000 in theorem co_X4_kind : Cond.code yX4_kind cX4_kind 7 (some .int) ∈ gt := gt_of 402 (rfl) (by decide +kernel)
theorem ml_L_104 : Cond.methodLink RL 104 yX4_wish ∈ gt := gt_of 403 (by decide +kernel) (by decide +kernel)
theorem im_X4_wish : Cond.instanceMethod yX4_wish ∈ gt := gt_of 404 (by decide +kernel) (by decide +kernel)
theorem se_X4_wish : Cond.selects RX4 yX4_wish yX4_wish ∈ gt := gt_of 405 (by decide +kernel) (by decide +kernel)
set_option maxRecDepth 20000 in theorem co_X4_wish : Cond.code yX4_wish cX4_wish 9 (some .int) ∈ gt := gt_of 406 (rfl) (by decide +kernel)
theorem ml_L_108 : Cond.methodLink RL 108 yX4_drives ∈ gt := gt_of 407 (by decide +kernel) (by decide +kernel)
theorem im_X4_drives : Cond.instanceMethod yX4_drives ∈ gt := gt_of 408 (by decide +kernel) (by decide +kernel)
theorem se_X4_drives : Cond.selects RX4 yX4_drives yX4_drives ∈ gt := gt_of 409 (by decide +kernel) (by decide +kernel)
set_option maxRecDepth 20000 in theorem co_X4_drives : Cond.code yX4_drives cX4_drives 6 (some .int) ∈ gt := gt_of 410 (rfl) (by decide +kernel)
theorem ml_X4_165 : Cond.methodLink RX4 165 yX3_howManyGoElsewhere ∈ gt := gt_of 411 (by decide +kernel) (by decide +kernel)
theorem im_X3_howManyGoElsewhere : Cond.instanceMethod yX3_howManyGoElsewhere ∈ gt := gt_of 412 (by decide +kernel) (by decide +kernel)
theorem se_X3_howManyGoElsewhere : Cond.selects RX3 yX3_howManyGoElsewhere yX3_howManyGoElsewhere ∈ gt := gt_of 413 (by decide +kernel) (by decide +kernel)
set_option maxRecDepth 20000 in theorem co_X3_howManyGoElsewhere : Cond.code yX3_howManyGoElsewhere cX3_howManyGoElsewhere 4 (some .int) ∈ gt := gt_of 414 (rfl) (by decide +kernel)
theorem ml_L_112 : Cond.methodLink RL 112 yX4_slowest ∈ gt := gt_of 415 (by decide +kernel) (by decide +kernel)
theorem im_X4_slowest : Cond.instanceMethod yX4_slowest ∈ gt := gt_of 416 (by decide +kernel) (by decide +kernel)
theorem se_X4_slowest : Cond.selects RX4 yX4_slowest yX4_slowest ∈ gt := gt_of 417 (by decide +kernel) (by decide +kernel)
set_option maxRecDepth 20000 in theorem co_X4_slowest : Cond.code yX4_slowest cX4_slowest 5 (some .int) ∈ gt := gt_of 418 (rfl) (by decide +kernel)
theorem ml_X4_169 : Cond.methodLink RX4 169 yX3_timeInAllStreets ∈ gt := gt_of 419 (by decide +kernel) (by decide +kernel)
theorem im_X3_timeInAllStreets : Cond.instanceMethod yX3_timeInAllStreets ∈ gt := gt_of 420 (by decide +kernel) (by decide +kernel)
theorem se_X3_timeInAllStreets : Cond.selects RX3 yX3_timeInAllStreets yX3_timeInAllStreets ∈ gt := gt_of 421 (by decide +kernel) (by decide +kernel)
set_option maxRecDepth 20000 in theorem co_X3_timeInAllStreets : Cond.code yX3_timeInAllStreets cX3_timeInAllStreets 4 (some .int) ∈ gt := gt_of 422 (rfl) (by decide +kernel)
theorem ml_L_117 : Cond.methodLink RL 117 yX4_feed ∈ gt := gt_of 423 (by decide +kernel) (by decide +kernel)
theorem im_X4_feed : Cond.instanceMethod yX4_feed ∈ gt := gt_of 424 (by decide +kernel) (by decide +kernel)
theorem se_X4_feed : Cond.selects RX4 yX4_feed yX4_feed ∈ gt := gt_of 425 (by decide +kernel) (by decide +kernel)
set_option maxRecDepth 20000 in theorem co_X4_feed : Cond.code yX4_feed cX4_feed 3 (some .int) ∈ gt := gt_of 426 (rfl) (by decide +kernel)
theorem ml_X4_175 : Cond.methodLink RX4 175 yX2_append ∈ gt := gt_of 427 (by decide +kernel) (by decide +kernel)
theorem im_X2_append : Cond.instanceMethod yX2_append ∈ gt := gt_of 428 (by decide +kernel) (by decide +kernel)
theorem se_X2_append : Cond.selects RX2 yX2_append yX2_append ∈ gt := gt_of 429 (by decide +kernel) (by decide +kernel)
set_option maxRecDepth 20000 in theorem co_X2_append : Cond.code yX2_append cX2_append 4 none ∈ gt := gt_of 430 (rfl) (by decide +kernel)
theorem ml_L_121 : Cond.methodLink RL 121 yX4_wipe ∈ gt := gt_of 431 (by decide +kernel) (by decide +kernel)
theorem im_X4_wipe : Cond.instanceMethod yX4_wipe ∈ gt := gt_of 432 (by decide +kernel) (by decide +kernel)
theorem se_X4_wipe : Cond.selects RX4 yX4_wipe yX4_wipe ∈ gt := gt_of 433 (by decide +kernel) (by decide +kernel)
set_option maxRecDepth 20000 in theorem co_X4_wipe : Cond.code yX4_wipe cX4_wipe 2 (some .int) ∈ gt := gt_of 434 (rfl) (by decide +kernel)
theorem ml_L_125 : Cond.methodLink RL 125 yX4_town ∈ gt := gt_of 435 (by decide +kernel) (by decide +kernel)
theorem im_X4_town : Cond.instanceMethod yX4_town ∈ gt := gt_of 436 (by decide +kernel) (by decide +kernel)
theorem se_X4_town : Cond.selects RX4 yX4_town yX4_town ∈ gt := gt_of 437 (by decide +kernel) (by decide +kernel)
set_option maxRecDepth 20000 in theorem co_X4_town : Cond.code yX4_town cX4_town 2 (some .int) ∈ gt := gt_of 438 (rfl) (by decide +kernel)
theorem ml_X4_179 : Cond.methodLink RX4 179 yX2_tellInto ∈ gt := gt_of 439 (by decide +kernel) (by decide +kernel)
theorem im_X2_tellInto : Cond.instanceMethod yX2_tellInto ∈ gt := gt_of 440 (by decide +kernel) (by decide +kernel)
theorem se_X2_tellInto : Cond.selects RX2 yX2_tellInto yX2_tellInto ∈ gt := gt_of 441 (by decide +kernel) (by decide +kernel)
set_option maxRecDepth 20000 in theorem co_X2_tellInto : Cond.code yX2_tellInto cX2_tellInto 3 (some .int) ∈ gt := gt_of 442 (rfl) (by decide +kernel)
theorem ml_X2_22 : Cond.methodLink RX2 22 yX2_nextToken ∈ gt := gt_of 443 (by decide +kernel) (by decide +kernel)
theorem im_X2_nextToken : Cond.instanceMethod yX2_nextToken ∈ gt := gt_of 445 (by decide +kernel) (by decide +kernel)
set_option maxRecDepth 20000 in theorem co_X2_nextToken : Cond.code yX2_nextToken cX2_nextToken 1 none ∈ gt := gt_of 446 (rfl) (by decide +kernel)
theorem ml_X2_118 : Cond.methodLink RX2 118 yX2_isLetter ∈ gt := gt_of 447 (by decide +kernel) (by decide +kernel)
theorem sm_X2_isLetter : Cond.static yX2_isLetter ∈ gt := gt_of 448 (by decide +kernel) (by decide +kernel)
set_option maxRecDepth 20000 in theorem co_X2_isLetter : Cond.code yX2_isLetter cX2_isLetter 1 (some .boolean) ∈ gt := gt_of 449 (rfl) (by decide +kernel)
theorem ml_X2_122 : Cond.methodLink RX2 122 yX2_isDigit ∈ gt := gt_of 450 (by decide +kernel) (by decide +kernel)
theorem sm_X2_isDigit : Cond.static yX2_isDigit ∈ gt := gt_of 451 (by decide +kernel) (by decide +kernel)
set_option maxRecDepth 20000 in theorem co_X2_isDigit : Cond.code yX2_isDigit cX2_isDigit 1 (some .boolean) ∈ gt := gt_of 452 (rfl) (by decide +kernel)
theorem ml_X2_125 : Cond.methodLink RX2 125 yX2_readNumber ∈ gt := gt_of 453 (by decide +kernel) (by decide +kernel)
theorem im_X2_readNumber : Cond.instanceMethod yX2_readNumber ∈ gt := gt_of 455 (by decide +kernel) (by decide +kernel)
set_option maxRecDepth 20000 in theorem co_X2_readNumber : Cond.code yX2_readNumber cX2_readNumber 1 none ∈ gt := gt_of 456 (rfl) (by decide +kernel)
theorem ml_X2_128 : Cond.methodLink RX2 128 yJ9_min_7cf53 ∈ gt := gt_of 457 (by decide +kernel) (by decide +kernel)
theorem ml_X2_25 : Cond.methodLink RX2 25 yX2_takeItem ∈ gt := gt_of 458 (by decide +kernel) (by decide +kernel)
theorem im_X2_takeItem : Cond.instanceMethod yX2_takeItem ∈ gt := gt_of 460 (by decide +kernel) (by decide +kernel)
set_option maxRecDepth 20000 in theorem co_X2_takeItem : Cond.code yX2_takeItem cX2_takeItem 4 (some .boolean) ∈ gt := gt_of 461 (rfl) (by decide +kernel)
theorem ml_X2_35 : Cond.methodLink RX2 35 yX2_kindNamed ∈ gt := gt_of 462 (by decide +kernel) (by decide +kernel)
theorem im_X2_kindNamed : Cond.instanceMethod yX2_kindNamed ∈ gt := gt_of 464 (by decide +kernel) (by decide +kernel)
set_option maxRecDepth 20000 in theorem co_X2_kindNamed : Cond.code yX2_kindNamed cX2_kindNamed 1 (some .int) ∈ gt := gt_of 465 (rfl) (by decide +kernel)
theorem ml_X2_51 : Cond.methodLink RX2 51 yX2_isWord ∈ gt := gt_of 467 (by decide +kernel) (by decide +kernel)
theorem im_X2_isWord : Cond.instanceMethod yX2_isWord ∈ gt := gt_of 469 (by decide +kernel) (by decide +kernel)
set_option maxRecDepth 20000 in theorem co_X2_isWord : Cond.code yX2_isWord cX2_isWord 3 (some .boolean) ∈ gt := gt_of 470 (rfl) (by decide +kernel)
theorem ml_X2_110 : Cond.methodLink RX2 110 yJ0_length_8abf5 ∈ gt := gt_of 471 (by decide +kernel) (by decide +kernel)
theorem im_J0_length_8abf5 : Cond.instanceMethod yJ0_length_8abf5 ∈ gt := gt_of 472 (by decide +kernel) (by decide +kernel)
theorem se_J0_length_8abf5 : Cond.selects RJ0 yJ0_length_8abf5 yJ0_length_8abf5 ∈ gt := gt_of 473 (by decide +kernel) (by decide +kernel)
set_option maxRecDepth 20000 in theorem co_J0_length_8abf5 : Cond.code yJ0_length_8abf5 cJ0_length_8abf5 1 (some .int) ∈ gt := gt_of 474 (rfl) (by decide +kernel)
theorem ml_J0_335 : Cond.methodLink RJ0 335 yJ0_coder_7d493 ∈ gt := gt_of 475 (by decide +kernel) (by decide +kernel)
theorem im_J0_coder_7d493 : Cond.instanceMethod yJ0_coder_7d493 ∈ gt := gt_of 476 (by decide +kernel) (by decide +kernel)
theorem se_J0_coder_7d493 : Cond.selects RJ0 yJ0_coder_7d493 yJ0_coder_7d493 ∈ gt := gt_of 477 (by decide +kernel) (by decide +kernel)
set_option maxRecDepth 20000 in theorem co_J0_coder_7d493 : Cond.code yJ0_coder_7d493 cJ0_coder_7d493 1 (some .byte) ∈ gt := gt_of 478 (rfl) (by decide +kernel)
theorem fl_J0_38 : Cond.fieldLink RJ0 38 "java/lang/String" "COMPACT_STRINGS" "Z" ∈ gt := gt_of 479 (by decide +kernel) (by decide +kernel)
theorem ml_X2_114 : Cond.methodLink RX2 114 yJ0_charAt_5068e ∈ gt := gt_of 481 (by decide +kernel) (by decide +kernel)
theorem im_J0_charAt_5068e : Cond.instanceMethod yJ0_charAt_5068e ∈ gt := gt_of 482 (by decide +kernel) (by decide +kernel)
theorem se_J0_charAt_5068e : Cond.selects RJ0 yJ0_charAt_5068e yJ0_charAt_5068e ∈ gt := gt_of 483 (by decide +kernel) (by decide +kernel)
set_option maxRecDepth 20000 in theorem co_J0_charAt_5068e : Cond.code yJ0_charAt_5068e cJ0_charAt_5068e 2 (some .char) ∈ gt := gt_of 484 (rfl) (by decide +kernel)
theorem ml_J0_492 : Cond.methodLink RJ0 492 yJ0_isLatin1_aae02 ∈ gt := gt_of 485 (by decide +kernel) (by decide +kernel)
theorem im_J0_isLatin1_aae02 : Cond.instanceMethod yJ0_isLatin1_aae02 ∈ gt := gt_of 486 (by decide +kernel) (by decide +kernel)
theorem se_J0_isLatin1_aae02 : Cond.selects RJ0 yJ0_isLatin1_aae02 yJ0_isLatin1_aae02 ∈ gt := gt_of 487 (by decide +kernel) (by decide +kernel)
set_option maxRecDepth 20000 in theorem co_J0_isLatin1_aae02 : Cond.code yJ0_isLatin1_aae02 cJ0_isLatin1_aae02 1 (some .boolean) ∈ gt := gt_of 488 (rfl) (by decide +kernel)
theorem ml_J0_495 : Cond.methodLink RJ0 495 yJ1_charAt_3b067 ∈ gt := gt_of 489 (by decide +kernel) (by decide +kernel)
theorem sm_J1_charAt_3b067 : Cond.static yJ1_charAt_3b067 ∈ gt := gt_of 490 (by decide +kernel) (by decide +kernel)
set_option maxRecDepth 20000 in theorem co_J1_charAt_3b067 : Cond.code yJ1_charAt_3b067 cJ1_charAt_3b067 2 (some .char) ∈ gt := gt_of 491 (rfl) (by decide +kernel)
theorem ml_J1_9 : Cond.methodLink RJ1 9 yJ0_checkIndex_df160 ∈ gt := gt_of 492 (by decide +kernel) (by decide +kernel)
theorem sm_J0_checkIndex_df160 : Cond.static yJ0_checkIndex_df160 ∈ gt := gt_of 493 (by decide +kernel) (by decide +kernel)
set_option maxRecDepth 20000 in theorem co_J0_checkIndex_df160 : Cond.code yJ0_checkIndex_df160 cJ0_checkIndex_df160 2 none ∈ gt := gt_of 494 (rfl) (by decide +kernel)
theorem fl_J0_1053 : Cond.fieldLink RJ0 1053 "jdk/internal/util/Preconditions" "SIOOBE_FORMATTER" "Ljava/util/function/BiFunction;" ∈ gt := gt_of 495 (by decide +kernel) (by decide +kernel)
theorem ml_J0_1059 : Cond.methodLink RJ0 1059 yJ3_checkIndex_8e157 ∈ gt := gt_of 497 (by decide +kernel) (by decide +kernel)
theorem sm_J3_checkIndex_8e157 : Cond.static yJ3_checkIndex_8e157 ∈ gt := gt_of 498 (by decide +kernel) (by decide +kernel)
set_option maxRecDepth 20000 in theorem co_J3_checkIndex_8e157 : Cond.code yJ3_checkIndex_8e157 cJ3_checkIndex_8e157 3 (some .int) ∈ gt := gt_of 499 (rfl) (by decide +kernel)
theorem ml_J0_498 : Cond.methodLink RJ0 498 yJ2_charAt_3b067 ∈ gt := gt_of 500 (by decide +kernel) (by decide +kernel)
theorem sm_J2_charAt_3b067 : Cond.static yJ2_charAt_3b067 ∈ gt := gt_of 501 (by decide +kernel) (by decide +kernel)
set_option maxRecDepth 20000 in theorem co_J2_charAt_3b067 : Cond.code yJ2_charAt_3b067 cJ2_charAt_3b067 2 (some .char) ∈ gt := gt_of 502 (rfl) (by decide +kernel)
theorem ml_J2_67 : Cond.methodLink RJ2 67 yJ2_checkIndex_2214a ∈ gt := gt_of 503 (by decide +kernel) (by decide +kernel)
theorem sm_J2_checkIndex_2214a : Cond.static yJ2_checkIndex_2214a ∈ gt := gt_of 504 (by decide +kernel) (by decide +kernel)
set_option maxRecDepth 20000 in theorem co_J2_checkIndex_2214a : Cond.code yJ2_checkIndex_2214a cJ2_checkIndex_2214a 2 none ∈ gt := gt_of 505 (rfl) (by decide +kernel)
theorem ml_J2_48 : Cond.methodLink RJ2 48 yJ2_length_9d52b ∈ gt := gt_of 506 (by decide +kernel) (by decide +kernel)
theorem sm_J2_length_9d52b : Cond.static yJ2_length_9d52b ∈ gt := gt_of 507 (by decide +kernel) (by decide +kernel)
set_option maxRecDepth 20000 in theorem co_J2_length_9d52b : Cond.code yJ2_length_9d52b cJ2_length_9d52b 1 (some .int) ∈ gt := gt_of 508 (rfl) (by decide +kernel)
theorem ml_J2_414 : Cond.methodLink RJ2 414 yJ0_checkIndex_df160 ∈ gt := gt_of 509 (by decide +kernel) (by decide +kernel)
theorem ml_J2_71 : Cond.methodLink RJ2 71 yJ2_getChar_3b067 ∈ gt := gt_of 510 (by decide +kernel) (by decide +kernel)
theorem sm_J2_getChar_3b067 : Cond.static yJ2_getChar_3b067 ∈ gt := gt_of 511 (by decide +kernel) (by decide +kernel)
set_option maxRecDepth 20000 in theorem co_J2_getChar_3b067 : Cond.code yJ2_getChar_3b067 cJ2_getChar_3b067 2 (some .char) ∈ gt := gt_of 512 (rfl) (by decide +kernel)
theorem fl_J2_44 : Cond.fieldLink RJ2 44 "java/lang/StringUTF16" "$assertionsDisabled" "Z" ∈ gt := gt_of 513 (by decide +kernel) (by decide +kernel)
theorem fl_J2_59 : Cond.fieldLink RJ2 59 "java/lang/StringUTF16" "HI_BYTE_SHIFT" "I" ∈ gt := gt_of 515 (by decide +kernel) (by decide +kernel)
theorem fl_J2_63 : Cond.fieldLink RJ2 63 "java/lang/StringUTF16" "LO_BYTE_SHIFT" "I" ∈ gt := gt_of 517 (by decide +kernel) (by decide +kernel)
theorem ml_X2_39 : Cond.methodLink RX2 39 yX2_takeDriver ∈ gt := gt_of 524 (by decide +kernel) (by decide +kernel)
theorem im_X2_takeDriver : Cond.instanceMethod yX2_takeDriver ∈ gt := gt_of 526 (by decide +kernel) (by decide +kernel)
set_option maxRecDepth 20000 in theorem co_X2_takeDriver : Cond.code yX2_takeDriver cX2_takeDriver 4 (some .boolean) ∈ gt := gt_of 527 (rfl) (by decide +kernel)
theorem ml_X2_70 : Cond.methodLink RX2 70 yX3_addDriver ∈ gt := gt_of 528 (by decide +kernel) (by decide +kernel)
theorem ml_X2_55 : Cond.methodLink RX2 55 yX2_isNumber ∈ gt := gt_of 530 (by decide +kernel) (by decide +kernel)
theorem im_X2_isNumber : Cond.instanceMethod yX2_isNumber ∈ gt := gt_of 532 (by decide +kernel) (by decide +kernel)
set_option maxRecDepth 20000 in theorem co_X2_isNumber : Cond.code yX2_isNumber cX2_isNumber 3 (some .boolean) ∈ gt := gt_of 533 (rfl) (by decide +kernel)
theorem ml_X2_43 : Cond.methodLink RX2 43 yX2_thingNamed ∈ gt := gt_of 535 (by decide +kernel) (by decide +kernel)
theorem im_X2_thingNamed : Cond.instanceMethod yX2_thingNamed ∈ gt := gt_of 537 (by decide +kernel) (by decide +kernel)
set_option maxRecDepth 20000 in theorem co_X2_thingNamed : Cond.code yX2_thingNamed cX2_thingNamed 1 (some .int) ∈ gt := gt_of 538 (rfl) (by decide +kernel)
theorem ml_X2_46 : Cond.methodLink RX2 46 yX2_takeThing ∈ gt := gt_of 544 (by decide +kernel) (by decide +kernel)
theorem im_X2_takeThing : Cond.instanceMethod yX2_takeThing ∈ gt := gt_of 546 (by decide +kernel) (by decide +kernel)
set_option maxRecDepth 20000 in theorem co_X2_takeThing : Cond.code yX2_takeThing cX2_takeThing 4 (some .boolean) ∈ gt := gt_of 547 (rfl) (by decide +kernel)
theorem ml_X2_84 : Cond.methodLink RX2 84 yX3_lay ∈ gt := gt_of 548 (by decide +kernel) (by decide +kernel)
theorem ac_byte : Cond.arrayClass .byte ∈ gt := gt_of 550 (by decide +kernel) (by decide +kernel)
theorem ml_L_129 : Cond.methodLink RL 129 yX4_sheet ∈ gt := gt_of 551 (by decide +kernel) (by decide +kernel)
theorem im_X4_sheet : Cond.instanceMethod yX4_sheet ∈ gt := gt_of 552 (by decide +kernel) (by decide +kernel)
theorem se_X4_sheet : Cond.selects RX4 yX4_sheet yX4_sheet ∈ gt := gt_of 553 (by decide +kernel) (by decide +kernel)
set_option maxRecDepth 20000 in theorem co_X4_sheet : Cond.code yX4_sheet cX4_sheet 4 (some .int) ∈ gt := gt_of 554 (rfl) (by decide +kernel)
theorem kc_X4_182 : Cond.constant RX4 182 (-1000000007) ∈ gt := gt_of 555 (by decide +kernel) (by decide +kernel)
theorem ml_X4_183 : Cond.methodLink RX4 183 yX1_become ∈ gt := gt_of 556 (by decide +kernel) (by decide +kernel)
theorem im_X1_become : Cond.instanceMethod yX1_become ∈ gt := gt_of 557 (by decide +kernel) (by decide +kernel)
theorem se_X1_become : Cond.selects RX1 yX1_become yX1_become ∈ gt := gt_of 558 (by decide +kernel) (by decide +kernel)
set_option maxRecDepth 20000 in theorem co_X1_become : Cond.code yX1_become cX1_become 4 none ∈ gt := gt_of 559 (rfl) (by decide +kernel)
theorem ml_L_135 : Cond.methodLink RL 135 yX4_write ∈ gt := gt_of 560 (by decide +kernel) (by decide +kernel)
theorem im_X4_write : Cond.instanceMethod yX4_write ∈ gt := gt_of 561 (by decide +kernel) (by decide +kernel)
theorem se_X4_write : Cond.selects RX4 yX4_write yX4_write ∈ gt := gt_of 562 (by decide +kernel) (by decide +kernel)
set_option maxRecDepth 20000 in theorem co_X4_write : Cond.code yX4_write cX4_write 8 (some .long) ∈ gt := gt_of 563 (rfl) (by decide +kernel)
theorem ml_X4_189 : Cond.methodLink RX4 189 yX4_sheetFault ∈ gt := gt_of 564 (by decide +kernel) (by decide +kernel)
theorem im_X4_sheetFault : Cond.instanceMethod yX4_sheetFault ∈ gt := gt_of 566 (by decide +kernel) (by decide +kernel)
set_option maxRecDepth 20000 in theorem co_X4_sheetFault : Cond.code yX4_sheetFault cX4_sheetFault 2 (some .int) ∈ gt := gt_of 567 (rfl) (by decide +kernel)
theorem kc_X4_203 : Cond.constant RX4 203 (-1000000006) ∈ gt := gt_of 568 (by decide +kernel) (by decide +kernel)
theorem ml_X4_196 : Cond.methodLink RX4 196 yX1_put ∈ gt := gt_of 569 (by decide +kernel) (by decide +kernel)
theorem im_X1_put : Cond.instanceMethod yX1_put ∈ gt := gt_of 570 (by decide +kernel) (by decide +kernel)
theorem se_X1_put : Cond.selects RX1 yX1_put yX1_put ∈ gt := gt_of 571 (by decide +kernel) (by decide +kernel)
set_option maxRecDepth 20000 in theorem co_X1_put : Cond.code yX1_put cX1_put 4 none ∈ gt := gt_of 572 (rfl) (by decide +kernel)
theorem ml_L_140 : Cond.methodLink RL 140 yX4_copy ∈ gt := gt_of 573 (by decide +kernel) (by decide +kernel)
theorem im_X4_copy : Cond.instanceMethod yX4_copy ∈ gt := gt_of 574 (by decide +kernel) (by decide +kernel)
theorem se_X4_copy : Cond.selects RX4 yX4_copy yX4_copy ∈ gt := gt_of 575 (by decide +kernel) (by decide +kernel)
set_option maxRecDepth 20000 in theorem co_X4_copy : Cond.code yX4_copy cX4_copy 8 (some .int) ∈ gt := gt_of 576 (rfl) (by decide +kernel)
theorem ml_X4_204 : Cond.methodLink RX4 204 yX1_hasPart ∈ gt := gt_of 577 (by decide +kernel) (by decide +kernel)
theorem im_X1_hasPart : Cond.instanceMethod yX1_hasPart ∈ gt := gt_of 578 (by decide +kernel) (by decide +kernel)
theorem se_X1_hasPart : Cond.selects RX1 yX1_hasPart yX1_hasPart ∈ gt := gt_of 579 (by decide +kernel) (by decide +kernel)
set_option maxRecDepth 20000 in theorem co_X1_hasPart : Cond.code yX1_hasPart cX1_hasPart 3 (some .boolean) ∈ gt := gt_of 580 (rfl) (by decide +kernel)
theorem ml_X4_207 : Cond.methodLink RX4 207 ⟨"java/lang/System", "arraycopy", "(Ljava/lang/Object;ILjava/lang/Object;II)V"⟩ ∈ gt := gt_of 581 (by decide +kernel) (by decide +kernel)
theorem ml_L_145 : Cond.methodLink RL 145 yX4_lays ∈ gt := gt_of 582 (by decide +kernel) (by decide +kernel)
theorem im_X4_lays : Cond.instanceMethod yX4_lays ∈ gt := gt_of 583 (by decide +kernel) (by decide +kernel)
theorem se_X4_lays : Cond.selects RX4 yX4_lays yX4_lays ∈ gt := gt_of 584 (by decide +kernel) (by decide +kernel)
set_option maxRecDepth 20000 in theorem co_X4_lays : Cond.code yX4_lays cX4_lays 9 (some .int) ∈ gt := gt_of 585 (rfl) (by decide +kernel)
theorem ml_X4_213 : Cond.methodLink RX4 213 yJ9_min_7cf53 ∈ gt := gt_of 586 (by decide +kernel) (by decide +kernel)
theorem kl_X4_218 : Cond.constantLong RX4 218 (4) ∈ gt := gt_of 587 (by decide +kernel) (by decide +kernel)
theorem ml_L_149 : Cond.methodLink RL 149 yX4_book ∈ gt := gt_of 588 (by decide +kernel) (by decide +kernel)
theorem im_X4_book : Cond.instanceMethod yX4_book ∈ gt := gt_of 589 (by decide +kernel) (by decide +kernel)
theorem se_X4_book : Cond.selects RX4 yX4_book yX4_book ∈ gt := gt_of 590 (by decide +kernel) (by decide +kernel)
set_option maxRecDepth 20000 in theorem co_X4_book : Cond.code yX4_book cX4_book 7 (some .int) ∈ gt := gt_of 591 (rfl) (by decide +kernel)
theorem ml_L_153 : Cond.methodLink RL 153 yX4_read ∈ gt := gt_of 592 (by decide +kernel) (by decide +kernel)
theorem im_X4_read : Cond.instanceMethod yX4_read ∈ gt := gt_of 593 (by decide +kernel) (by decide +kernel)
theorem se_X4_read : Cond.selects RX4 yX4_read yX4_read ∈ gt := gt_of 594 (by decide +kernel) (by decide +kernel)
set_option maxRecDepth 20000 in theorem co_X4_read : Cond.code yX4_read cX4_read 8 (some .int) ∈ gt := gt_of 595 (rfl) (by decide +kernel)
theorem ml_X4_220 : Cond.methodLink RX4 220 yX3_goesJustAs ∈ gt := gt_of 596 (by decide +kernel) (by decide +kernel)
theorem im_X3_goesJustAs : Cond.instanceMethod yX3_goesJustAs ∈ gt := gt_of 597 (by decide +kernel) (by decide +kernel)
theorem se_X3_goesJustAs : Cond.selects RX3 yX3_goesJustAs yX3_goesJustAs ∈ gt := gt_of 598 (by decide +kernel) (by decide +kernel)
set_option maxRecDepth 20000 in theorem co_X3_goesJustAs : Cond.code yX3_goesJustAs cX3_goesJustAs 8 (some .boolean) ∈ gt := gt_of 599 (rfl) (by decide +kernel)
theorem ml_X3_78 : Cond.methodLink RX3 78 yJ9_min_7cf53 ∈ gt := gt_of 600 (by decide +kernel) (by decide +kernel)
theorem ml_L_157 : Cond.methodLink RL 157 yX4_image ∈ gt := gt_of 601 (by decide +kernel) (by decide +kernel)
theorem im_X4_image : Cond.instanceMethod yX4_image ∈ gt := gt_of 602 (by decide +kernel) (by decide +kernel)
theorem se_X4_image : Cond.selects RX4 yX4_image yX4_image ∈ gt := gt_of 603 (by decide +kernel) (by decide +kernel)
set_option maxRecDepth 20000 in theorem co_X4_image : Cond.code yX4_image cX4_image 1 (some .int) ∈ gt := gt_of 604 (rfl) (by decide +kernel)
theorem ml_L_161 : Cond.methodLink RL 161 yX4_undo ∈ gt := gt_of 605 (by decide +kernel) (by decide +kernel)
theorem im_X4_undo : Cond.instanceMethod yX4_undo ∈ gt := gt_of 606 (by decide +kernel) (by decide +kernel)
theorem se_X4_undo : Cond.selects RX4 yX4_undo yX4_undo ∈ gt := gt_of 607 (by decide +kernel) (by decide +kernel)
set_option maxRecDepth 20000 in theorem co_X4_undo : Cond.code yX4_undo cX4_undo 1 (some .int) ∈ gt := gt_of 608 (rfl) (by decide +kernel)
theorem ml_L_165 : Cond.methodLink RL 165 yX4_tear ∈ gt := gt_of 609 (by decide +kernel) (by decide +kernel)
theorem im_X4_tear : Cond.instanceMethod yX4_tear ∈ gt := gt_of 610 (by decide +kernel) (by decide +kernel)
theorem se_X4_tear : Cond.selects RX4 yX4_tear yX4_tear ∈ gt := gt_of 611 (by decide +kernel) (by decide +kernel)
set_option maxRecDepth 20000 in theorem co_X4_tear : Cond.code yX4_tear cX4_tear 2 (some .int) ∈ gt := gt_of 612 (rfl) (by decide +kernel)
theorem ml_L_169 : Cond.methodLink RL 169 yX4_count ∈ gt := gt_of 613 (by decide +kernel) (by decide +kernel)
theorem im_X4_count : Cond.instanceMethod yX4_count ∈ gt := gt_of 614 (by decide +kernel) (by decide +kernel)
theorem se_X4_count : Cond.selects RX4 yX4_count yX4_count ∈ gt := gt_of 615 (by decide +kernel) (by decide +kernel)
set_option maxRecDepth 20000 in theorem co_X4_count : Cond.code yX4_count cX4_count 2 (some .int) ∈ gt := gt_of 616 (rfl) (by decide +kernel)
theorem ml_X4_224 : Cond.methodLink RX4 224 yX3_bumpsInAll ∈ gt := gt_of 617 (by decide +kernel) (by decide +kernel)
theorem im_X3_bumpsInAll : Cond.instanceMethod yX3_bumpsInAll ∈ gt := gt_of 618 (by decide +kernel) (by decide +kernel)
theorem se_X3_bumpsInAll : Cond.selects RX3 yX3_bumpsInAll yX3_bumpsInAll ∈ gt := gt_of 619 (by decide +kernel) (by decide +kernel)
set_option maxRecDepth 20000 in theorem co_X3_bumpsInAll : Cond.code yX3_bumpsInAll cX3_bumpsInAll 3 (some .int) ∈ gt := gt_of 620 (rfl) (by decide +kernel)
theorem ml_X3_47 : Cond.methodLink RX3 47 yX3_bumpsIn ∈ gt := gt_of 621 (by decide +kernel) (by decide +kernel)
theorem ml_X4_227 : Cond.methodLink RX4 227 yX3_wishesOfAll ∈ gt := gt_of 622 (by decide +kernel) (by decide +kernel)
theorem im_X3_wishesOfAll : Cond.instanceMethod yX3_wishesOfAll ∈ gt := gt_of 623 (by decide +kernel) (by decide +kernel)
theorem se_X3_wishesOfAll : Cond.selects RX3 yX3_wishesOfAll yX3_wishesOfAll ∈ gt := gt_of 624 (by decide +kernel) (by decide +kernel)
set_option maxRecDepth 20000 in theorem co_X3_wishesOfAll : Cond.code yX3_wishesOfAll cX3_wishesOfAll 3 (some .int) ∈ gt := gt_of 625 (rfl) (by decide +kernel)
theorem ml_L_173 : Cond.methodLink RL 173 yX4_status ∈ gt := gt_of 626 (by decide +kernel) (by decide +kernel)
theorem im_X4_status : Cond.instanceMethod yX4_status ∈ gt := gt_of 627 (by decide +kernel) (by decide +kernel)
theorem se_X4_status : Cond.selects RX4 yX4_status yX4_status ∈ gt := gt_of 628 (by decide +kernel) (by decide +kernel)
set_option maxRecDepth 20000 in theorem co_X4_status : Cond.code yX4_status cX4_status 4 (some .int) ∈ gt := gt_of 629 (rfl) (by decide +kernel)
theorem cl_L_10 : Cond.classLink RL 10 RX5 ∈ gt := gt_of 630 (by decide +kernel) (by decide +kernel)
theorem ia_X5 : Cond.instantiable RX5 21 ∈ gt := gt_of 631 (by decide +kernel) (by decide +kernel)
theorem ml_L_12 : Cond.methodLink RL 12 yX5_init ∈ gt := gt_of 632 (by decide +kernel) (by decide +kernel)
theorem im_X5_init : Cond.instanceMethod yX5_init ∈ gt := gt_of 633 (by decide +kernel) (by decide +kernel)
set_option maxRecDepth 20000 in theorem co_X5_init : Cond.code yX5_init cX5_init 1 none ∈ gt := gt_of 634 (rfl) (by decide +kernel)
theorem ml_X5_1 : Cond.methodLink RX5 1 ⟨"java/lang/Object", "<init>", "()V"⟩ ∈ gt := gt_of 635 (by decide +kernel) (by decide +kernel)
theorem fl_X5_9 : Cond.fieldLink RX5 9 "BumpStreetsModel" "s" "[I" ∈ gt := gt_of 636 (by decide +kernel) (by decide +kernel)
theorem fl_X5_13 : Cond.fieldLink RX5 13 "BumpStreetsModel" "kept" "[I" ∈ gt := gt_of 637 (by decide +kernel) (by decide +kernel)
theorem fl_X5_16 : Cond.fieldLink RX5 16 "BumpStreetsModel" "aside" "[I" ∈ gt := gt_of 638 (by decide +kernel) (by decide +kernel)
theorem fl_X5_243 : Cond.fieldLink RX5 243 "BumpStreetsModel" "isKept" "Z" ∈ gt := gt_of 639 (by decide +kernel) (by decide +kernel)
theorem fl_X5_19 : Cond.fieldLink RX5 19 "BumpStreetsModel" "found" "[I" ∈ gt := gt_of 640 (by decide +kernel) (by decide +kernel)
theorem fl_X5_22 : Cond.fieldLink RX5 22 "BumpStreetsModel" "quick" "[I" ∈ gt := gt_of 641 (by decide +kernel) (by decide +kernel)
theorem fl_X5_75 : Cond.fieldLink RX5 75 "BumpStreetsModel" "took" "I" ∈ gt := gt_of 642 (by decide +kernel) (by decide +kernel)
theorem fl_X5_79 : Cond.fieldLink RX5 79 "BumpStreetsModel" "shook" "I" ∈ gt := gt_of 643 (by decide +kernel) (by decide +kernel)
theorem fl_X5_25 : Cond.fieldLink RX5 25 "BumpStreetsModel" "tape" "[I" ∈ gt := gt_of 644 (by decide +kernel) (by decide +kernel)
theorem fl_X5_166 : Cond.fieldLink RX5 166 "BumpStreetsModel" "taped" "I" ∈ gt := gt_of 645 (by decide +kernel) (by decide +kernel)
theorem fl_X5_179 : Cond.fieldLink RX5 179 "BumpStreetsModel" "token" "I" ∈ gt := gt_of 646 (by decide +kernel) (by decide +kernel)
theorem fl_X5_172 : Cond.fieldLink RX5 172 "BumpStreetsModel" "begun" "I" ∈ gt := gt_of 647 (by decide +kernel) (by decide +kernel)
theorem fl_X5_169 : Cond.fieldLink RX5 169 "BumpStreetsModel" "ended" "I" ∈ gt := gt_of 648 (by decide +kernel) (by decide +kernel)
theorem fl_X5_175 : Cond.fieldLink RX5 175 "BumpStreetsModel" "value" "J" ∈ gt := gt_of 649 (by decide +kernel) (by decide +kernel)
theorem fl_X5_28 : Cond.fieldLink RX5 28 "BumpStreetsModel" "letters" "[C" ∈ gt := gt_of 650 (by decide +kernel) (by decide +kernel)
theorem fl_X5_32 : Cond.fieldLink RX5 32 "BumpStreetsModel" "more" "[C" ∈ gt := gt_of 651 (by decide +kernel) (by decide +kernel)
theorem fl_X5_35 : Cond.fieldLink RX5 35 "BumpStreetsModel" "others" "[C" ∈ gt := gt_of 652 (by decide +kernel) (by decide +kernel)
theorem fl_X5_38 : Cond.fieldLink RX5 38 "BumpStreetsModel" "widths" "[I" ∈ gt := gt_of 653 (by decide +kernel) (by decide +kernel)
theorem fl_X5_41 : Cond.fieldLink RX5 41 "BumpStreetsModel" "sizes" "[I" ∈ gt := gt_of 654 (by decide +kernel) (by decide +kernel)
theorem fl_X5_44 : Cond.fieldLink RX5 44 "BumpStreetsModel" "cells" "[J" ∈ gt := gt_of 655 (by decide +kernel) (by decide +kernel)
theorem fl_X5_48 : Cond.fieldLink RX5 48 "BumpStreetsModel" "carried" "[J" ∈ gt := gt_of 656 (by decide +kernel) (by decide +kernel)
theorem la_X5_s : Cond.laysFinal RX5 "BumpStreetsModel" "s" "[I" ∈ gt := gt_of 657 (by decide +kernel) (by decide +kernel)
theorem la_X5_kept : Cond.laysFinal RX5 "BumpStreetsModel" "kept" "[I" ∈ gt := gt_of 659 (by decide +kernel) (by decide +kernel)
theorem la_X5_aside : Cond.laysFinal RX5 "BumpStreetsModel" "aside" "[I" ∈ gt := gt_of 661 (by decide +kernel) (by decide +kernel)
theorem la_X5_isKept : Cond.lays RX5 "BumpStreetsModel" "isKept" "Z" ∈ gt := gt_of 663 (by decide +kernel) (by decide +kernel)
theorem la_X5_found : Cond.laysFinal RX5 "BumpStreetsModel" "found" "[I" ∈ gt := gt_of 665 (by decide +kernel) (by decide +kernel)
theorem la_X5_quick : Cond.laysFinal RX5 "BumpStreetsModel" "quick" "[I" ∈ gt := gt_of 667 (by decide +kernel) (by decide +kernel)
theorem la_X5_took : Cond.lays RX5 "BumpStreetsModel" "took" "I" ∈ gt := gt_of 669 (by decide +kernel) (by decide +kernel)
theorem la_X5_shook : Cond.lays RX5 "BumpStreetsModel" "shook" "I" ∈ gt := gt_of 671 (by decide +kernel) (by decide +kernel)
theorem la_X5_tape : Cond.laysFinal RX5 "BumpStreetsModel" "tape" "[I" ∈ gt := gt_of 673 (by decide +kernel) (by decide +kernel)
theorem la_X5_taped : Cond.lays RX5 "BumpStreetsModel" "taped" "I" ∈ gt := gt_of 675 (by decide +kernel) (by decide +kernel)
theorem la_X5_token : Cond.lays RX5 "BumpStreetsModel" "token" "I" ∈ gt := gt_of 677 (by decide +kernel) (by decide +kernel)
theorem la_X5_begun : Cond.lays RX5 "BumpStreetsModel" "begun" "I" ∈ gt := gt_of 679 (by decide +kernel) (by decide +kernel)
theorem la_X5_ended : Cond.lays RX5 "BumpStreetsModel" "ended" "I" ∈ gt := gt_of 681 (by decide +kernel) (by decide +kernel)
theorem la_X5_value : Cond.lays RX5 "BumpStreetsModel" "value" "J" ∈ gt := gt_of 683 (by decide +kernel) (by decide +kernel)
theorem la_X5_letters : Cond.laysFinal RX5 "BumpStreetsModel" "letters" "[C" ∈ gt := gt_of 685 (by decide +kernel) (by decide +kernel)
theorem la_X5_more : Cond.laysFinal RX5 "BumpStreetsModel" "more" "[C" ∈ gt := gt_of 687 (by decide +kernel) (by decide +kernel)
theorem la_X5_others : Cond.laysFinal RX5 "BumpStreetsModel" "others" "[C" ∈ gt := gt_of 689 (by decide +kernel) (by decide +kernel)
theorem la_X5_widths : Cond.laysFinal RX5 "BumpStreetsModel" "widths" "[I" ∈ gt := gt_of 691 (by decide +kernel) (by decide +kernel)
theorem la_X5_sizes : Cond.laysFinal RX5 "BumpStreetsModel" "sizes" "[I" ∈ gt := gt_of 693 (by decide +kernel) (by decide +kernel)
theorem la_X5_cells : Cond.laysFinal RX5 "BumpStreetsModel" "cells" "[J" ∈ gt := gt_of 695 (by decide +kernel) (by decide +kernel)
theorem la_X5_carried : Cond.laysFinal RX5 "BumpStreetsModel" "carried" "[J" ∈ gt := gt_of 697 (by decide +kernel) (by decide +kernel)
theorem ac_char : Cond.arrayClass .char ∈ gt := gt_of 700 (by decide +kernel) (by decide +kernel)
theorem ml_L_17 : Cond.methodLink RL 17 yX5_thing ∈ gt := gt_of 701 (by decide +kernel) (by decide +kernel)
theorem im_X5_thing : Cond.instanceMethod yX5_thing ∈ gt := gt_of 702 (by decide +kernel) (by decide +kernel)
theorem se_X5_thing : Cond.selects RX5 yX5_thing yX5_thing ∈ gt := gt_of 703 (by decide +kernel) (by decide +kernel)
set_option maxRecDepth 20000 in theorem co_X5_thing : Cond.code yX5_thing cX5_thing 5 (some .int) ∈ gt := gt_of 704 (rfl) (by decide +kernel)
theorem ml_X5_112 : Cond.methodLink RX5 112 yX5_isStreet ∈ gt := gt_of 705 (by decide +kernel) (by decide +kernel)
theorem sm_X5_isStreet : Cond.static yX5_isStreet ∈ gt := gt_of 706 (by decide +kernel) (by decide +kernel)
set_option maxRecDepth 20000 in theorem co_X5_isStreet : Cond.code yX5_isStreet cX5_isStreet 1 (some .boolean) ∈ gt := gt_of 707 (rfl) (by decide +kernel)
theorem ml_X5_52 : Cond.methodLink RX5 52 yX5_in1 ∈ gt := gt_of 708 (by decide +kernel) (by decide +kernel)
theorem sm_X5_in1 : Cond.static yX5_in1 ∈ gt := gt_of 709 (by decide +kernel) (by decide +kernel)
set_option maxRecDepth 20000 in theorem co_X5_in1 : Cond.code yX5_in1 cX5_in1 3 (some .boolean) ∈ gt := gt_of 710 (rfl) (by decide +kernel)
theorem ml_X5_115 : Cond.methodLink RX5 115 yX5_isStretch ∈ gt := gt_of 711 (by decide +kernel) (by decide +kernel)
theorem sm_X5_isStretch : Cond.static yX5_isStretch ∈ gt := gt_of 712 (by decide +kernel) (by decide +kernel)
set_option maxRecDepth 20000 in theorem co_X5_isStretch : Cond.code yX5_isStretch cX5_isStretch 1 (some .boolean) ∈ gt := gt_of 713 (rfl) (by decide +kernel)
theorem ml_X5_118 : Cond.methodLink RX5 118 yX5_no ∈ gt := gt_of 714 (by decide +kernel) (by decide +kernel)
theorem im_X5_no : Cond.instanceMethod yX5_no ∈ gt := gt_of 716 (by decide +kernel) (by decide +kernel)
set_option maxRecDepth 20000 in theorem co_X5_no : Cond.code yX5_no cX5_no 2 (some .int) ∈ gt := gt_of 717 (rfl) (by decide +kernel)
theorem kc_X5_51 : Cond.constant RX5 51 (-1000000001) ∈ gt := gt_of 718 (by decide +kernel) (by decide +kernel)
theorem ml_X5_121 : Cond.methodLink RX5 121 yX5_lies ∈ gt := gt_of 719 (by decide +kernel) (by decide +kernel)
theorem im_X5_lies : Cond.instanceMethod yX5_lies ∈ gt := gt_of 721 (by decide +kernel) (by decide +kernel)
set_option maxRecDepth 20000 in theorem co_X5_lies : Cond.code yX5_lies cX5_lies 4 none ∈ gt := gt_of 722 (rfl) (by decide +kernel)
theorem ml_L_21 : Cond.methodLink RL 21 yX5_stretch ∈ gt := gt_of 723 (by decide +kernel) (by decide +kernel)
theorem im_X5_stretch : Cond.instanceMethod yX5_stretch ∈ gt := gt_of 724 (by decide +kernel) (by decide +kernel)
theorem se_X5_stretch : Cond.selects RX5 yX5_stretch yX5_stretch ∈ gt := gt_of 725 (by decide +kernel) (by decide +kernel)
set_option maxRecDepth 20000 in theorem co_X5_stretch : Cond.code yX5_stretch cX5_stretch 4 (some .int) ∈ gt := gt_of 726 (rfl) (by decide +kernel)
theorem ml_L_26 : Cond.methodLink RL 26 yX5_high ∈ gt := gt_of 727 (by decide +kernel) (by decide +kernel)
theorem im_X5_high : Cond.instanceMethod yX5_high ∈ gt := gt_of 728 (by decide +kernel) (by decide +kernel)
theorem se_X5_high : Cond.selects RX5 yX5_high yX5_high ∈ gt := gt_of 729 (by decide +kernel) (by decide +kernel)
set_option maxRecDepth 20000 in theorem co_X5_high : Cond.code yX5_high cX5_high 3 (some .int) ∈ gt := gt_of 730 (rfl) (by decide +kernel)
theorem ml_L_31 : Cond.methodLink RL 31 yX5_street ∈ gt := gt_of 731 (by decide +kernel) (by decide +kernel)
theorem im_X5_street : Cond.instanceMethod yX5_street ∈ gt := gt_of 732 (by decide +kernel) (by decide +kernel)
theorem se_X5_street : Cond.selects RX5 yX5_street yX5_street ∈ gt := gt_of 733 (by decide +kernel) (by decide +kernel)
set_option maxRecDepth 20000 in theorem co_X5_street : Cond.code yX5_street cX5_street 7 (some .int) ∈ gt := gt_of 734 (rfl) (by decide +kernel)
theorem ml_X5_92 : Cond.methodLink RX5 92 yX5_get ∈ gt := gt_of 735 (by decide +kernel) (by decide +kernel)
theorem im_X5_get : Cond.instanceMethod yX5_get ∈ gt := gt_of 737 (by decide +kernel) (by decide +kernel)
set_option maxRecDepth 20000 in theorem co_X5_get : Cond.code yX5_get cX5_get 3 (some .int) ∈ gt := gt_of 738 (rfl) (by decide +kernel)
theorem ml_X5_99 : Cond.methodLink RX5 99 yX5_shookBy ∈ gt := gt_of 739 (by decide +kernel) (by decide +kernel)
theorem im_X5_shookBy : Cond.instanceMethod yX5_shookBy ∈ gt := gt_of 741 (by decide +kernel) (by decide +kernel)
set_option maxRecDepth 20000 in theorem co_X5_shookBy : Cond.code yX5_shookBy cX5_shookBy 3 (some .int) ∈ gt := gt_of 742 (rfl) (by decide +kernel)
theorem ml_X5_95 : Cond.methodLink RX5 95 yX5_goesThrough ∈ gt := gt_of 743 (by decide +kernel) (by decide +kernel)
theorem im_X5_goesThrough : Cond.instanceMethod yX5_goesThrough ∈ gt := gt_of 745 (by decide +kernel) (by decide +kernel)
set_option maxRecDepth 20000 in theorem co_X5_goesThrough : Cond.code yX5_goesThrough cX5_goesThrough 8 none ∈ gt := gt_of 746 (rfl) (by decide +kernel)
theorem ml_X5_82 : Cond.methodLink RX5 82 yX5_hurriesOf ∈ gt := gt_of 747 (by decide +kernel) (by decide +kernel)
theorem sm_X5_hurriesOf : Cond.static yX5_hurriesOf ∈ gt := gt_of 748 (by decide +kernel) (by decide +kernel)
set_option maxRecDepth 20000 in theorem co_X5_hurriesOf : Cond.code yX5_hurriesOf cX5_hurriesOf 1 (some .int) ∈ gt := gt_of 749 (rfl) (by decide +kernel)
end
section
theorem ml_X5_71 : Cond.methodLink RX5 71 yX5_less ∈ gt := gt_of 750 (by decide +kernel) (by decide +kernel)
theorem sm_X5_less : Cond.static yX5_less ∈ gt := gt_of 751 (by decide +kernel) (by decide +kernel)
set_option maxRecDepth 20000 in theorem co_X5_less : Cond.code yX5_less cX5_less 2 (some .int) ∈ gt := gt_of 752 (rfl) (by decide +kernel)
theorem ml_X5_86 : Cond.methodLink RX5 86 yX5_slowsTo ∈ gt := gt_of 753 (by decide +kernel) (by decide +kernel)
theorem sm_X5_slowsTo : Cond.static yX5_slowsTo ∈ gt := gt_of 754 (by decide +kernel) (by decide +kernel)
set_option maxRecDepth 20000 in theorem co_X5_slowsTo : Cond.code yX5_slowsTo cX5_slowsTo 6 (some .int) ∈ gt := gt_of 755 (rfl) (by decide +kernel)
theorem ml_X5_67 : Cond.methodLink RX5 67 yX5_plainSlow ∈ gt := gt_of 756 (by decide +kernel) (by decide +kernel)
theorem sm_X5_plainSlow : Cond.static yX5_plainSlow ∈ gt := gt_of 757 (by decide +kernel) (by decide +kernel)
set_option maxRecDepth 20000 in theorem co_X5_plainSlow : Cond.code yX5_plainSlow cX5_plainSlow 5 (some .int) ∈ gt := gt_of 758 (rfl) (by decide +kernel)
theorem ml_X5_60 : Cond.methodLink RX5 60 yX5_atBump ∈ gt := gt_of 759 (by decide +kernel) (by decide +kernel)
theorem sm_X5_atBump : Cond.static yX5_atBump ∈ gt := gt_of 760 (by decide +kernel) (by decide +kernel)
set_option maxRecDepth 20000 in theorem co_X5_atBump : Cond.code yX5_atBump cX5_atBump 4 (some .int) ∈ gt := gt_of 761 (rfl) (by decide +kernel)
theorem ml_X5_56 : Cond.methodLink RX5 56 yX5_isBus ∈ gt := gt_of 762 (by decide +kernel) (by decide +kernel)
theorem sm_X5_isBus : Cond.static yX5_isBus ∈ gt := gt_of 763 (by decide +kernel) (by decide +kernel)
set_option maxRecDepth 20000 in theorem co_X5_isBus : Cond.code yX5_isBus cX5_isBus 1 (some .boolean) ∈ gt := gt_of 764 (rfl) (by decide +kernel)
theorem ml_X5_64 : Cond.methodLink RX5 64 yX5_isLocal ∈ gt := gt_of 765 (by decide +kernel) (by decide +kernel)
theorem sm_X5_isLocal : Cond.static yX5_isLocal ∈ gt := gt_of 766 (by decide +kernel) (by decide +kernel)
set_option maxRecDepth 20000 in theorem co_X5_isLocal : Cond.code yX5_isLocal cX5_isLocal 1 (some .boolean) ∈ gt := gt_of 767 (rfl) (by decide +kernel)
theorem ml_X5_89 : Cond.methodLink RX5 89 yX5_shakesAt ∈ gt := gt_of 768 (by decide +kernel) (by decide +kernel)
theorem sm_X5_shakesAt : Cond.static yX5_shakesAt ∈ gt := gt_of 769 (by decide +kernel) (by decide +kernel)
set_option maxRecDepth 20000 in theorem co_X5_shakesAt : Cond.code yX5_shakesAt cX5_shakesAt 4 (some .int) ∈ gt := gt_of 770 (rfl) (by decide +kernel)
theorem ml_X5_124 : Cond.methodLink RX5 124 yX5_thingsIn ∈ gt := gt_of 771 (by decide +kernel) (by decide +kernel)
theorem im_X5_thingsIn : Cond.instanceMethod yX5_thingsIn ∈ gt := gt_of 773 (by decide +kernel) (by decide +kernel)
set_option maxRecDepth 20000 in theorem co_X5_thingsIn : Cond.code yX5_thingsIn cX5_thingsIn 4 (some .int) ∈ gt := gt_of 774 (rfl) (by decide +kernel)
theorem ml_X5_127 : Cond.methodLink RX5 127 yX5_bumpsIn ∈ gt := gt_of 775 (by decide +kernel) (by decide +kernel)
theorem im_X5_bumpsIn : Cond.instanceMethod yX5_bumpsIn ∈ gt := gt_of 777 (by decide +kernel) (by decide +kernel)
set_option maxRecDepth 20000 in theorem co_X5_bumpsIn : Cond.code yX5_bumpsIn cX5_bumpsIn 4 (some .int) ∈ gt := gt_of 778 (rfl) (by decide +kernel)
theorem ml_L_35 : Cond.methodLink RL 35 yX5_now ∈ gt := gt_of 779 (by decide +kernel) (by decide +kernel)
theorem im_X5_now : Cond.instanceMethod yX5_now ∈ gt := gt_of 780 (by decide +kernel) (by decide +kernel)
theorem se_X5_now : Cond.selects RX5 yX5_now yX5_now ∈ gt := gt_of 781 (by decide +kernel) (by decide +kernel)
set_option maxRecDepth 20000 in theorem co_X5_now : Cond.code yX5_now cX5_now 2 (some .int) ∈ gt := gt_of 782 (rfl) (by decide +kernel)
theorem ml_X5_130 : Cond.methodLink RX5 130 yX5_allShook ∈ gt := gt_of 783 (by decide +kernel) (by decide +kernel)
theorem im_X5_allShook : Cond.instanceMethod yX5_allShook ∈ gt := gt_of 785 (by decide +kernel) (by decide +kernel)
set_option maxRecDepth 20000 in theorem co_X5_allShook : Cond.code yX5_allShook cX5_allShook 3 (some .int) ∈ gt := gt_of 786 (rfl) (by decide +kernel)
theorem ml_X5_134 : Cond.methodLink RX5 134 yX5_allTook ∈ gt := gt_of 787 (by decide +kernel) (by decide +kernel)
theorem im_X5_allTook : Cond.instanceMethod yX5_allTook ∈ gt := gt_of 789 (by decide +kernel) (by decide +kernel)
set_option maxRecDepth 20000 in theorem co_X5_allTook : Cond.code yX5_allTook cX5_allTook 3 (some .int) ∈ gt := gt_of 790 (rfl) (by decide +kernel)
theorem ml_X5_102 : Cond.methodLink RX5 102 yX5_tookBy ∈ gt := gt_of 791 (by decide +kernel) (by decide +kernel)
theorem im_X5_tookBy : Cond.instanceMethod yX5_tookBy ∈ gt := gt_of 793 (by decide +kernel) (by decide +kernel)
set_option maxRecDepth 20000 in theorem co_X5_tookBy : Cond.code yX5_tookBy cX5_tookBy 3 (some .int) ∈ gt := gt_of 794 (rfl) (by decide +kernel)
theorem ml_L_39 : Cond.methodLink RL 39 yX5_driver ∈ gt := gt_of 795 (by decide +kernel) (by decide +kernel)
theorem im_X5_driver : Cond.instanceMethod yX5_driver ∈ gt := gt_of 796 (by decide +kernel) (by decide +kernel)
theorem se_X5_driver : Cond.selects RX5 yX5_driver yX5_driver ∈ gt := gt_of 797 (by decide +kernel) (by decide +kernel)
set_option maxRecDepth 20000 in theorem co_X5_driver : Cond.code yX5_driver cX5_driver 2 (some .int) ∈ gt := gt_of 798 (rfl) (by decide +kernel)
theorem ml_X5_137 : Cond.methodLink RX5 137 yX5_addsDriver ∈ gt := gt_of 799 (by decide +kernel) (by decide +kernel)
theorem im_X5_addsDriver : Cond.instanceMethod yX5_addsDriver ∈ gt := gt_of 801 (by decide +kernel) (by decide +kernel)
set_option maxRecDepth 20000 in theorem co_X5_addsDriver : Cond.code yX5_addsDriver cX5_addsDriver 3 none ∈ gt := gt_of 802 (rfl) (by decide +kernel)
theorem ml_X5_105 : Cond.methodLink RX5 105 yX5_puts ∈ gt := gt_of 803 (by decide +kernel) (by decide +kernel)
theorem im_X5_puts : Cond.instanceMethod yX5_puts ∈ gt := gt_of 805 (by decide +kernel) (by decide +kernel)
set_option maxRecDepth 20000 in theorem co_X5_puts : Cond.code yX5_puts cX5_puts 4 none ∈ gt := gt_of 806 (rfl) (by decide +kernel)
theorem ml_L_43 : Cond.methodLink RL 43 yX5_of ∈ gt := gt_of 807 (by decide +kernel) (by decide +kernel)
theorem im_X5_of : Cond.instanceMethod yX5_of ∈ gt := gt_of 808 (by decide +kernel) (by decide +kernel)
theorem se_X5_of : Cond.selects RX5 yX5_of yX5_of ∈ gt := gt_of 809 (by decide +kernel) (by decide +kernel)
set_option maxRecDepth 20000 in theorem co_X5_of : Cond.code yX5_of cX5_of 3 (some .int) ∈ gt := gt_of 810 (rfl) (by decide +kernel)
theorem ml_X5_140 : Cond.methodLink RX5 140 yX5_isDriver ∈ gt := gt_of 811 (by decide +kernel) (by decide +kernel)
theorem im_X5_isDriver : Cond.instanceMethod yX5_isDriver ∈ gt := gt_of 813 (by decide +kernel) (by decide +kernel)
set_option maxRecDepth 20000 in theorem co_X5_isDriver : Cond.code yX5_isDriver cX5_isDriver 2 (some .boolean) ∈ gt := gt_of 814 (rfl) (by decide +kernel)
theorem ml_L_47 : Cond.methodLink RL 47 yX5_set ∈ gt := gt_of 815 (by decide +kernel) (by decide +kernel)
theorem im_X5_set : Cond.instanceMethod yX5_set ∈ gt := gt_of 816 (by decide +kernel) (by decide +kernel)
theorem se_X5_set : Cond.selects RX5 yX5_set yX5_set ∈ gt := gt_of 817 (by decide +kernel) (by decide +kernel)
set_option maxRecDepth 20000 in theorem co_X5_set : Cond.code yX5_set cX5_set 5 (some .int) ∈ gt := gt_of 818 (rfl) (by decide +kernel)
theorem ml_X5_143 : Cond.methodLink RX5 143 yX5_isWish ∈ gt := gt_of 819 (by decide +kernel) (by decide +kernel)
theorem sm_X5_isWish : Cond.static yX5_isWish ∈ gt := gt_of 820 (by decide +kernel) (by decide +kernel)
set_option maxRecDepth 20000 in theorem co_X5_isWish : Cond.code yX5_isWish cX5_isWish 1 (some .boolean) ∈ gt := gt_of 821 (rfl) (by decide +kernel)
theorem ml_L_51 : Cond.methodLink RL 51 yX5_turn ∈ gt := gt_of 822 (by decide +kernel) (by decide +kernel)
theorem im_X5_turn : Cond.instanceMethod yX5_turn ∈ gt := gt_of 823 (by decide +kernel) (by decide +kernel)
theorem se_X5_turn : Cond.selects RX5 yX5_turn yX5_turn ∈ gt := gt_of 824 (by decide +kernel) (by decide +kernel)
set_option maxRecDepth 20000 in theorem co_X5_turn : Cond.code yX5_turn cX5_turn 4 (some .int) ∈ gt := gt_of 825 (rfl) (by decide +kernel)
theorem ml_L_55 : Cond.methodLink RL 55 yX5_as ∈ gt := gt_of 826 (by decide +kernel) (by decide +kernel)
theorem im_X5_as : Cond.instanceMethod yX5_as ∈ gt := gt_of 827 (by decide +kernel) (by decide +kernel)
theorem se_X5_as : Cond.selects RX5 yX5_as yX5_as ∈ gt := gt_of 828 (by decide +kernel) (by decide +kernel)
set_option maxRecDepth 20000 in theorem co_X5_as : Cond.code yX5_as cX5_as 4 (some .int) ∈ gt := gt_of 829 (rfl) (by decide +kernel)
theorem ml_L_59 : Cond.methodLink RL 59 yX5_slows ∈ gt := gt_of 830 (by decide +kernel) (by decide +kernel)
theorem im_X5_slows : Cond.instanceMethod yX5_slows ∈ gt := gt_of 831 (by decide +kernel) (by decide +kernel)
theorem se_X5_slows : Cond.selects RX5 yX5_slows yX5_slows ∈ gt := gt_of 832 (by decide +kernel) (by decide +kernel)
set_option maxRecDepth 20000 in theorem co_X5_slows : Cond.code yX5_slows cX5_slows 5 (some .int) ∈ gt := gt_of 833 (rfl) (by decide +kernel)
theorem ml_L_63 : Cond.methodLink RL 63 yX5_quick ∈ gt := gt_of 834 (by decide +kernel) (by decide +kernel)
theorem im_X5_quick : Cond.instanceMethod yX5_quick ∈ gt := gt_of 835 (by decide +kernel) (by decide +kernel)
theorem se_X5_quick : Cond.selects RX5 yX5_quick yX5_quick ∈ gt := gt_of 836 (by decide +kernel) (by decide +kernel)
set_option maxRecDepth 20000 in theorem co_X5_quick : Cond.code yX5_quick cX5_quick 4 (some .int) ∈ gt := gt_of 837 (rfl) (by decide +kernel)
theorem ml_X5_146 : Cond.methodLink RX5 146 yX5_areBoth ∈ gt := gt_of 838 (by decide +kernel) (by decide +kernel)
theorem im_X5_areBoth : Cond.instanceMethod yX5_areBoth ∈ gt := gt_of 840 (by decide +kernel) (by decide +kernel)
set_option maxRecDepth 20000 in theorem co_X5_areBoth : Cond.code yX5_areBoth cX5_areBoth 3 (some .boolean) ∈ gt := gt_of 841 (rfl) (by decide +kernel)
theorem ml_L_67 : Cond.methodLink RL 67 yX5_takes ∈ gt := gt_of 842 (by decide +kernel) (by decide +kernel)
theorem im_X5_takes : Cond.instanceMethod yX5_takes ∈ gt := gt_of 843 (by decide +kernel) (by decide +kernel)
theorem se_X5_takes : Cond.selects RX5 yX5_takes yX5_takes ∈ gt := gt_of 844 (by decide +kernel) (by decide +kernel)
set_option maxRecDepth 20000 in theorem co_X5_takes : Cond.code yX5_takes cX5_takes 3 (some .int) ∈ gt := gt_of 845 (rfl) (by decide +kernel)
theorem ml_L_71 : Cond.methodLink RL 71 yX5_shaken ∈ gt := gt_of 846 (by decide +kernel) (by decide +kernel)
theorem im_X5_shaken : Cond.instanceMethod yX5_shaken ∈ gt := gt_of 847 (by decide +kernel) (by decide +kernel)
theorem se_X5_shaken : Cond.selects RX5 yX5_shaken yX5_shaken ∈ gt := gt_of 848 (by decide +kernel) (by decide +kernel)
set_option maxRecDepth 20000 in theorem co_X5_shaken : Cond.code yX5_shaken cX5_shaken 3 (some .int) ∈ gt := gt_of 849 (rfl) (by decide +kernel)
theorem ml_L_75 : Cond.methodLink RL 75 yX5_days ∈ gt := gt_of 850 (by decide +kernel) (by decide +kernel)
theorem im_X5_days : Cond.instanceMethod yX5_days ∈ gt := gt_of 851 (by decide +kernel) (by decide +kernel)
theorem se_X5_days : Cond.selects RX5 yX5_days yX5_days ∈ gt := gt_of 852 (by decide +kernel) (by decide +kernel)
set_option maxRecDepth 20000 in theorem co_X5_days : Cond.code yX5_days cX5_days 2 (some .int) ∈ gt := gt_of 853 (rfl) (by decide +kernel)
theorem ml_X5_150 : Cond.methodLink RX5 150 yX5_goes ∈ gt := gt_of 854 (by decide +kernel) (by decide +kernel)
theorem im_X5_goes : Cond.instanceMethod yX5_goes ∈ gt := gt_of 856 (by decide +kernel) (by decide +kernel)
set_option maxRecDepth 20000 in theorem co_X5_goes : Cond.code yX5_goes cX5_goes 4 none ∈ gt := gt_of 857 (rfl) (by decide +kernel)
theorem ml_X5_108 : Cond.methodLink RX5 108 yX5_chooses ∈ gt := gt_of 858 (by decide +kernel) (by decide +kernel)
theorem im_X5_chooses : Cond.instanceMethod yX5_chooses ∈ gt := gt_of 860 (by decide +kernel) (by decide +kernel)
set_option maxRecDepth 20000 in theorem co_X5_chooses : Cond.code yX5_chooses cX5_chooses 6 none ∈ gt := gt_of 861 (rfl) (by decide +kernel)
theorem ml_L_79 : Cond.methodLink RL 79 yX5_on ∈ gt := gt_of 862 (by decide +kernel) (by decide +kernel)
theorem im_X5_on : Cond.instanceMethod yX5_on ∈ gt := gt_of 863 (by decide +kernel) (by decide +kernel)
theorem se_X5_on : Cond.selects RX5 yX5_on yX5_on ∈ gt := gt_of 864 (by decide +kernel) (by decide +kernel)
set_option maxRecDepth 20000 in theorem co_X5_on : Cond.code yX5_on cX5_on 4 (some .int) ∈ gt := gt_of 865 (rfl) (by decide +kernel)
theorem ml_X5_153 : Cond.methodLink RX5 153 yX5_setsAside ∈ gt := gt_of 866 (by decide +kernel) (by decide +kernel)
theorem im_X5_setsAside : Cond.instanceMethod yX5_setsAside ∈ gt := gt_of 868 (by decide +kernel) (by decide +kernel)
set_option maxRecDepth 20000 in theorem co_X5_setsAside : Cond.code yX5_setsAside cX5_setsAside 2 none ∈ gt := gt_of 869 (rfl) (by decide +kernel)
theorem ml_X5_156 : Cond.methodLink RX5 156 yX5_laysBack ∈ gt := gt_of 870 (by decide +kernel) (by decide +kernel)
theorem im_X5_laysBack : Cond.instanceMethod yX5_laysBack ∈ gt := gt_of 872 (by decide +kernel) (by decide +kernel)
set_option maxRecDepth 20000 in theorem co_X5_laysBack : Cond.code yX5_laysBack cX5_laysBack 2 none ∈ gt := gt_of 873 (rfl) (by decide +kernel)
theorem ml_L_83 : Cond.methodLink RL 83 yX5_then ∈ gt := gt_of 874 (by decide +kernel) (by decide +kernel)
theorem im_X5_then : Cond.instanceMethod yX5_then ∈ gt := gt_of 875 (by decide +kernel) (by decide +kernel)
theorem se_X5_then : Cond.selects RX5 yX5_then yX5_then ∈ gt := gt_of 876 (by decide +kernel) (by decide +kernel)
set_option maxRecDepth 20000 in theorem co_X5_then : Cond.code yX5_then cX5_then 3 (some .int) ∈ gt := gt_of 877 (rfl) (by decide +kernel)
theorem ml_X5_159 : Cond.methodLink RX5 159 yX5_onBy ∈ gt := gt_of 878 (by decide +kernel) (by decide +kernel)
theorem im_X5_onBy : Cond.instanceMethod yX5_onBy ∈ gt := gt_of 880 (by decide +kernel) (by decide +kernel)
set_option maxRecDepth 20000 in theorem co_X5_onBy : Cond.code yX5_onBy cX5_onBy 4 (some .int) ∈ gt := gt_of 881 (rfl) (by decide +kernel)
theorem ml_L_87 : Cond.methodLink RL 87 yX5_leaves ∈ gt := gt_of 882 (by decide +kernel) (by decide +kernel)
theorem im_X5_leaves : Cond.instanceMethod yX5_leaves ∈ gt := gt_of 883 (by decide +kernel) (by decide +kernel)
theorem se_X5_leaves : Cond.selects RX5 yX5_leaves yX5_leaves ∈ gt := gt_of 884 (by decide +kernel) (by decide +kernel)
set_option maxRecDepth 20000 in theorem co_X5_leaves : Cond.code yX5_leaves cX5_leaves 4 (some .int) ∈ gt := gt_of 885 (rfl) (by decide +kernel)
theorem ml_L_91 : Cond.methodLink RL 91 yX5_tame ∈ gt := gt_of 886 (by decide +kernel) (by decide +kernel)
theorem im_X5_tame : Cond.instanceMethod yX5_tame ∈ gt := gt_of 887 (by decide +kernel) (by decide +kernel)
theorem se_X5_tame : Cond.selects RX5 yX5_tame yX5_tame ∈ gt := gt_of 888 (by decide +kernel) (by decide +kernel)
set_option maxRecDepth 20000 in theorem co_X5_tame : Cond.code yX5_tame cX5_tame 6 (some .int) ∈ gt := gt_of 889 (rfl) (by decide +kernel)
theorem ml_X5_162 : Cond.methodLink RX5 162 yX5_quickest ∈ gt := gt_of 890 (by decide +kernel) (by decide +kernel)
theorem im_X5_quickest : Cond.instanceMethod yX5_quickest ∈ gt := gt_of 892 (by decide +kernel) (by decide +kernel)
set_option maxRecDepth 20000 in theorem co_X5_quickest : Cond.code yX5_quickest cX5_quickest 3 (some .int) ∈ gt := gt_of 893 (rfl) (by decide +kernel)
theorem ml_L_95 : Cond.methodLink RL 95 yX5_clear ∈ gt := gt_of 894 (by decide +kernel) (by decide +kernel)
theorem im_X5_clear : Cond.instanceMethod yX5_clear ∈ gt := gt_of 895 (by decide +kernel) (by decide +kernel)
theorem se_X5_clear : Cond.selects RX5 yX5_clear yX5_clear ∈ gt := gt_of 896 (by decide +kernel) (by decide +kernel)
set_option maxRecDepth 20000 in theorem co_X5_clear : Cond.code yX5_clear cX5_clear 8 (some .int) ∈ gt := gt_of 897 (rfl) (by decide +kernel)
theorem ml_L_99 : Cond.methodLink RL 99 yX5_lower ∈ gt := gt_of 898 (by decide +kernel) (by decide +kernel)
theorem im_X5_lower : Cond.instanceMethod yX5_lower ∈ gt := gt_of 899 (by decide +kernel) (by decide +kernel)
theorem se_X5_lower : Cond.selects RX5 yX5_lower yX5_lower ∈ gt := gt_of 900 (by decide +kernel) (by decide +kernel)
set_option maxRecDepth 20000 in theorem co_X5_lower : Cond.code yX5_lower cX5_lower 4 (some .int) ∈ gt := gt_of 901 (rfl) (by decide +kernel)
theorem kc_X5_165 : Cond.constant RX5 165 (99999) ∈ gt := gt_of 902 (by decide +kernel) (by decide +kernel)
theorem ml_L_103 : Cond.methodLink RL 103 yX5_kind ∈ gt := gt_of 903 (by decide +kernel) (by decide +kernel)
theorem im_X5_kind : Cond.instanceMethod yX5_kind ∈ gt := gt_of 904 (by decide +kernel) (by decide +kernel)
theorem se_X5_kind : Cond.selects RX5 yX5_kind yX5_kind ∈ gt := gt_of 905 (by decide +kernel) (by decide +kernel)
set_option maxRecDepth 20000 in theorem co_X5_kind : Cond.code yX5_kind cX5_kind 6 (some .int) ∈ gt := gt_of 906 (rfl) (by decide +kernel)
theorem ml_L_107 : Cond.methodLink RL 107 yX5_wish ∈ gt := gt_of 907 (by decide +kernel) (by decide +kernel)
theorem im_X5_wish : Cond.instanceMethod yX5_wish ∈ gt := gt_of 908 (by decide +kernel) (by decide +kernel)
theorem se_X5_wish : Cond.selects RX5 yX5_wish yX5_wish ∈ gt := gt_of 909 (by decide +kernel) (by decide +kernel)
set_option maxRecDepth 20000 in theorem co_X5_wish : Cond.code yX5_wish cX5_wish 8 (some .int) ∈ gt := gt_of 910 (rfl) (by decide +kernel)
theorem ml_L_111 : Cond.methodLink RL 111 yX5_drives ∈ gt := gt_of 911 (by decide +kernel) (by decide +kernel)
theorem im_X5_drives : Cond.instanceMethod yX5_drives ∈ gt := gt_of 912 (by decide +kernel) (by decide +kernel)
theorem se_X5_drives : Cond.selects RX5 yX5_drives yX5_drives ∈ gt := gt_of 913 (by decide +kernel) (by decide +kernel)
set_option maxRecDepth 20000 in theorem co_X5_drives : Cond.code yX5_drives cX5_drives 7 (some .int) ∈ gt := gt_of 914 (rfl) (by decide +kernel)
theorem ml_L_116 : Cond.methodLink RL 116 yX5_slowest ∈ gt := gt_of 915 (by decide +kernel) (by decide +kernel)
theorem im_X5_slowest : Cond.instanceMethod yX5_slowest ∈ gt := gt_of 916 (by decide +kernel) (by decide +kernel)
theorem se_X5_slowest : Cond.selects RX5 yX5_slowest yX5_slowest ∈ gt := gt_of 917 (by decide +kernel) (by decide +kernel)
set_option maxRecDepth 20000 in theorem co_X5_slowest : Cond.code yX5_slowest cX5_slowest 5 (some .int) ∈ gt := gt_of 918 (rfl) (by decide +kernel)
theorem ml_L_120 : Cond.methodLink RL 120 yX5_feed ∈ gt := gt_of 919 (by decide +kernel) (by decide +kernel)
theorem im_X5_feed : Cond.instanceMethod yX5_feed ∈ gt := gt_of 920 (by decide +kernel) (by decide +kernel)
theorem se_X5_feed : Cond.selects RX5 yX5_feed yX5_feed ∈ gt := gt_of 921 (by decide +kernel) (by decide +kernel)
set_option maxRecDepth 20000 in theorem co_X5_feed : Cond.code yX5_feed cX5_feed 4 (some .int) ∈ gt := gt_of 922 (rfl) (by decide +kernel)
theorem ml_L_124 : Cond.methodLink RL 124 yX5_wipe ∈ gt := gt_of 923 (by decide +kernel) (by decide +kernel)
theorem im_X5_wipe : Cond.instanceMethod yX5_wipe ∈ gt := gt_of 924 (by decide +kernel) (by decide +kernel)
theorem se_X5_wipe : Cond.selects RX5 yX5_wipe yX5_wipe ∈ gt := gt_of 925 (by decide +kernel) (by decide +kernel)
set_option maxRecDepth 20000 in theorem co_X5_wipe : Cond.code yX5_wipe cX5_wipe 2 (some .int) ∈ gt := gt_of 926 (rfl) (by decide +kernel)
theorem ml_L_128 : Cond.methodLink RL 128 yX5_town ∈ gt := gt_of 927 (by decide +kernel) (by decide +kernel)
theorem im_X5_town : Cond.instanceMethod yX5_town ∈ gt := gt_of 928 (by decide +kernel) (by decide +kernel)
theorem se_X5_town : Cond.selects RX5 yX5_town yX5_town ∈ gt := gt_of 929 (by decide +kernel) (by decide +kernel)
set_option maxRecDepth 20000 in theorem co_X5_town : Cond.code yX5_town cX5_town 3 (some .int) ∈ gt := gt_of 930 (rfl) (by decide +kernel)
theorem ml_X5_200 : Cond.methodLink RX5 200 yX5_nextToken ∈ gt := gt_of 931 (by decide +kernel) (by decide +kernel)
theorem im_X5_nextToken : Cond.instanceMethod yX5_nextToken ∈ gt := gt_of 933 (by decide +kernel) (by decide +kernel)
set_option maxRecDepth 20000 in theorem co_X5_nextToken : Cond.code yX5_nextToken cX5_nextToken 1 none ∈ gt := gt_of 934 (rfl) (by decide +kernel)
theorem ml_X5_182 : Cond.methodLink RX5 182 yX5_isLetter ∈ gt := gt_of 935 (by decide +kernel) (by decide +kernel)
theorem sm_X5_isLetter : Cond.static yX5_isLetter ∈ gt := gt_of 936 (by decide +kernel) (by decide +kernel)
set_option maxRecDepth 20000 in theorem co_X5_isLetter : Cond.code yX5_isLetter cX5_isLetter 1 (some .boolean) ∈ gt := gt_of 937 (rfl) (by decide +kernel)
theorem kl_X5_185 : Cond.constantLong RX5 185 (9999999999999) ∈ gt := gt_of 938 (by decide +kernel) (by decide +kernel)
theorem kl_X5_187 : Cond.constantLong RX5 187 (27) ∈ gt := gt_of 939 (by decide +kernel) (by decide +kernel)
theorem kl_X5_189 : Cond.constantLong RX5 189 (96) ∈ gt := gt_of 940 (by decide +kernel) (by decide +kernel)
theorem ml_X5_191 : Cond.methodLink RX5 191 yX5_isDigit ∈ gt := gt_of 941 (by decide +kernel) (by decide +kernel)
theorem sm_X5_isDigit : Cond.static yX5_isDigit ∈ gt := gt_of 942 (by decide +kernel) (by decide +kernel)
set_option maxRecDepth 20000 in theorem co_X5_isDigit : Cond.code yX5_isDigit cX5_isDigit 1 (some .boolean) ∈ gt := gt_of 943 (rfl) (by decide +kernel)
theorem kl_X5_194 : Cond.constantLong RX5 194 (999) ∈ gt := gt_of 944 (by decide +kernel) (by decide +kernel)
theorem kl_X5_196 : Cond.constantLong RX5 196 (10) ∈ gt := gt_of 945 (by decide +kernel) (by decide +kernel)
theorem kl_X5_198 : Cond.constantLong RX5 198 (48) ∈ gt := gt_of 946 (by decide +kernel) (by decide +kernel)
theorem ml_X5_216 : Cond.methodLink RX5 216 yX5_readsItem ∈ gt := gt_of 947 (by decide +kernel) (by decide +kernel)
theorem im_X5_readsItem : Cond.instanceMethod yX5_readsItem ∈ gt := gt_of 949 (by decide +kernel) (by decide +kernel)
set_option maxRecDepth 20000 in theorem co_X5_readsItem : Cond.code yX5_readsItem cX5_readsItem 4 (some .boolean) ∈ gt := gt_of 950 (rfl) (by decide +kernel)
theorem ml_X5_203 : Cond.methodLink RX5 203 yX5_wordOf ∈ gt := gt_of 951 (by decide +kernel) (by decide +kernel)
theorem im_X5_wordOf : Cond.instanceMethod yX5_wordOf ∈ gt := gt_of 953 (by decide +kernel) (by decide +kernel)
set_option maxRecDepth 20000 in theorem co_X5_wordOf : Cond.code yX5_wordOf cX5_wordOf 7 (some .int) ∈ gt := gt_of 954 (rfl) (by decide +kernel)
theorem ml_X5_210 : Cond.methodLink RX5 210 yX5_readsDriver ∈ gt := gt_of 955 (by decide +kernel) (by decide +kernel)
theorem im_X5_readsDriver : Cond.instanceMethod yX5_readsDriver ∈ gt := gt_of 957 (by decide +kernel) (by decide +kernel)
set_option maxRecDepth 20000 in theorem co_X5_readsDriver : Cond.code yX5_readsDriver cX5_readsDriver 5 (some .boolean) ∈ gt := gt_of 958 (rfl) (by decide +kernel)
theorem ml_X5_207 : Cond.methodLink RX5 207 yX5_takesNumber ∈ gt := gt_of 959 (by decide +kernel) (by decide +kernel)
theorem im_X5_takesNumber : Cond.instanceMethod yX5_takesNumber ∈ gt := gt_of 961 (by decide +kernel) (by decide +kernel)
set_option maxRecDepth 20000 in theorem co_X5_takesNumber : Cond.code yX5_takesNumber cX5_takesNumber 4 (some .int) ∈ gt := gt_of 962 (rfl) (by decide +kernel)
theorem ml_X5_213 : Cond.methodLink RX5 213 yX5_readsThing ∈ gt := gt_of 963 (by decide +kernel) (by decide +kernel)
theorem im_X5_readsThing : Cond.instanceMethod yX5_readsThing ∈ gt := gt_of 965 (by decide +kernel) (by decide +kernel)
set_option maxRecDepth 20000 in theorem co_X5_readsThing : Cond.code yX5_readsThing cX5_readsThing 4 (some .boolean) ∈ gt := gt_of 966 (rfl) (by decide +kernel)
theorem ml_L_132 : Cond.methodLink RL 132 yX5_sheet ∈ gt := gt_of 967 (by decide +kernel) (by decide +kernel)
theorem im_X5_sheet : Cond.instanceMethod yX5_sheet ∈ gt := gt_of 968 (by decide +kernel) (by decide +kernel)
theorem se_X5_sheet : Cond.selects RX5 yX5_sheet yX5_sheet ∈ gt := gt_of 969 (by decide +kernel) (by decide +kernel)
set_option maxRecDepth 20000 in theorem co_X5_sheet : Cond.code yX5_sheet cX5_sheet 5 (some .int) ∈ gt := gt_of 970 (rfl) (by decide +kernel)
theorem ml_X5_220 : Cond.methodLink RX5 220 yX5_isSheet ∈ gt := gt_of 971 (by decide +kernel) (by decide +kernel)
theorem sm_X5_isSheet : Cond.static yX5_isSheet ∈ gt := gt_of 972 (by decide +kernel) (by decide +kernel)
set_option maxRecDepth 20000 in theorem co_X5_isSheet : Cond.code yX5_isSheet cX5_isSheet 1 (some .boolean) ∈ gt := gt_of 973 (rfl) (by decide +kernel)
theorem ml_L_139 : Cond.methodLink RL 139 yX5_write ∈ gt := gt_of 974 (by decide +kernel) (by decide +kernel)
theorem im_X5_write : Cond.instanceMethod yX5_write ∈ gt := gt_of 975 (by decide +kernel) (by decide +kernel)
theorem se_X5_write : Cond.selects RX5 yX5_write yX5_write ∈ gt := gt_of 976 (by decide +kernel) (by decide +kernel)
set_option maxRecDepth 20000 in theorem co_X5_write : Cond.code yX5_write cX5_write 8 (some .long) ∈ gt := gt_of 977 (rfl) (by decide +kernel)
theorem ml_X5_223 : Cond.methodLink RX5 223 yX5_wrongSheet ∈ gt := gt_of 978 (by decide +kernel) (by decide +kernel)
theorem im_X5_wrongSheet : Cond.instanceMethod yX5_wrongSheet ∈ gt := gt_of 980 (by decide +kernel) (by decide +kernel)
set_option maxRecDepth 20000 in theorem co_X5_wrongSheet : Cond.code yX5_wrongSheet cX5_wrongSheet 2 (some .int) ∈ gt := gt_of 981 (rfl) (by decide +kernel)
theorem ml_X5_226 : Cond.methodLink RX5 226 yX5_told ∈ gt := gt_of 982 (by decide +kernel) (by decide +kernel)
theorem im_X5_told : Cond.instanceMethod yX5_told ∈ gt := gt_of 984 (by decide +kernel) (by decide +kernel)
set_option maxRecDepth 20000 in theorem co_X5_told : Cond.code yX5_told cX5_told 3 (some .long) ∈ gt := gt_of 985 (rfl) (by decide +kernel)
theorem ml_X5_230 : Cond.methodLink RX5 230 yX5_tells ∈ gt := gt_of 986 (by decide +kernel) (by decide +kernel)
theorem im_X5_tells : Cond.instanceMethod yX5_tells ∈ gt := gt_of 988 (by decide +kernel) (by decide +kernel)
set_option maxRecDepth 20000 in theorem co_X5_tells : Cond.code yX5_tells cX5_tells 5 none ∈ gt := gt_of 989 (rfl) (by decide +kernel)
theorem ml_L_144 : Cond.methodLink RL 144 yX5_copy ∈ gt := gt_of 990 (by decide +kernel) (by decide +kernel)
theorem im_X5_copy : Cond.instanceMethod yX5_copy ∈ gt := gt_of 991 (by decide +kernel) (by decide +kernel)
theorem se_X5_copy : Cond.selects RX5 yX5_copy yX5_copy ∈ gt := gt_of 992 (by decide +kernel) (by decide +kernel)
set_option maxRecDepth 20000 in theorem co_X5_copy : Cond.code yX5_copy cX5_copy 7 (some .int) ∈ gt := gt_of 993 (rfl) (by decide +kernel)
theorem ml_L_148 : Cond.methodLink RL 148 yX5_lays ∈ gt := gt_of 994 (by decide +kernel) (by decide +kernel)
theorem im_X5_lays : Cond.instanceMethod yX5_lays ∈ gt := gt_of 995 (by decide +kernel) (by decide +kernel)
theorem se_X5_lays : Cond.selects RX5 yX5_lays yX5_lays ∈ gt := gt_of 996 (by decide +kernel) (by decide +kernel)
set_option maxRecDepth 20000 in theorem co_X5_lays : Cond.code yX5_lays cX5_lays 6 (some .int) ∈ gt := gt_of 997 (rfl) (by decide +kernel)
theorem ml_X5_234 : Cond.methodLink RX5 234 yX5_wrongWith ∈ gt := gt_of 998 (by decide +kernel) (by decide +kernel)
theorem im_X5_wrongWith : Cond.instanceMethod yX5_wrongWith ∈ gt := gt_of 1000 (by decide +kernel) (by decide +kernel)
set_option maxRecDepth 20000 in theorem co_X5_wrongWith : Cond.code yX5_wrongWith cX5_wrongWith 4 (some .int) ∈ gt := gt_of 1001 (rfl) (by decide +kernel)
theorem kl_X5_238 : Cond.constantLong RX5 238 (4) ∈ gt := gt_of 1002 (by decide +kernel) (by decide +kernel)
theorem ml_L_152 : Cond.methodLink RL 152 yX5_book ∈ gt := gt_of 1003 (by decide +kernel) (by decide +kernel)
theorem im_X5_book : Cond.instanceMethod yX5_book ∈ gt := gt_of 1004 (by decide +kernel) (by decide +kernel)
theorem se_X5_book : Cond.selects RX5 yX5_book yX5_book ∈ gt := gt_of 1005 (by decide +kernel) (by decide +kernel)
set_option maxRecDepth 20000 in theorem co_X5_book : Cond.code yX5_book cX5_book 7 (some .int) ∈ gt := gt_of 1006 (rfl) (by decide +kernel)
theorem ml_L_156 : Cond.methodLink RL 156 yX5_read ∈ gt := gt_of 1007 (by decide +kernel) (by decide +kernel)
theorem im_X5_read : Cond.instanceMethod yX5_read ∈ gt := gt_of 1008 (by decide +kernel) (by decide +kernel)
theorem se_X5_read : Cond.selects RX5 yX5_read yX5_read ∈ gt := gt_of 1009 (by decide +kernel) (by decide +kernel)
set_option maxRecDepth 20000 in theorem co_X5_read : Cond.code yX5_read cX5_read 8 (some .int) ∈ gt := gt_of 1010 (rfl) (by decide +kernel)
theorem ml_X5_240 : Cond.methodLink RX5 240 yX5_isSo ∈ gt := gt_of 1011 (by decide +kernel) (by decide +kernel)
theorem im_X5_isSo : Cond.instanceMethod yX5_isSo ∈ gt := gt_of 1013 (by decide +kernel) (by decide +kernel)
set_option maxRecDepth 20000 in theorem co_X5_isSo : Cond.code yX5_isSo cX5_isSo 4 (some .boolean) ∈ gt := gt_of 1014 (rfl) (by decide +kernel)
theorem ml_L_160 : Cond.methodLink RL 160 yX5_image ∈ gt := gt_of 1015 (by decide +kernel) (by decide +kernel)
theorem im_X5_image : Cond.instanceMethod yX5_image ∈ gt := gt_of 1016 (by decide +kernel) (by decide +kernel)
theorem se_X5_image : Cond.selects RX5 yX5_image yX5_image ∈ gt := gt_of 1017 (by decide +kernel) (by decide +kernel)
set_option maxRecDepth 20000 in theorem co_X5_image : Cond.code yX5_image cX5_image 2 (some .int) ∈ gt := gt_of 1018 (rfl) (by decide +kernel)
theorem ml_L_164 : Cond.methodLink RL 164 yX5_undo ∈ gt := gt_of 1019 (by decide +kernel) (by decide +kernel)
theorem im_X5_undo : Cond.instanceMethod yX5_undo ∈ gt := gt_of 1020 (by decide +kernel) (by decide +kernel)
theorem se_X5_undo : Cond.selects RX5 yX5_undo yX5_undo ∈ gt := gt_of 1021 (by decide +kernel) (by decide +kernel)
set_option maxRecDepth 20000 in theorem co_X5_undo : Cond.code yX5_undo cX5_undo 2 (some .int) ∈ gt := gt_of 1022 (rfl) (by decide +kernel)
theorem ml_L_168 : Cond.methodLink RL 168 yX5_tear ∈ gt := gt_of 1023 (by decide +kernel) (by decide +kernel)
theorem im_X5_tear : Cond.instanceMethod yX5_tear ∈ gt := gt_of 1024 (by decide +kernel) (by decide +kernel)
theorem se_X5_tear : Cond.selects RX5 yX5_tear yX5_tear ∈ gt := gt_of 1025 (by decide +kernel) (by decide +kernel)
set_option maxRecDepth 20000 in theorem co_X5_tear : Cond.code yX5_tear cX5_tear 2 (some .int) ∈ gt := gt_of 1026 (rfl) (by decide +kernel)
theorem ml_L_172 : Cond.methodLink RL 172 yX5_count ∈ gt := gt_of 1027 (by decide +kernel) (by decide +kernel)
theorem im_X5_count : Cond.instanceMethod yX5_count ∈ gt := gt_of 1028 (by decide +kernel) (by decide +kernel)
theorem se_X5_count : Cond.selects RX5 yX5_count yX5_count ∈ gt := gt_of 1029 (by decide +kernel) (by decide +kernel)
set_option maxRecDepth 20000 in theorem co_X5_count : Cond.code yX5_count cX5_count 4 (some .int) ∈ gt := gt_of 1030 (rfl) (by decide +kernel)
theorem ml_L_176 : Cond.methodLink RL 176 yX5_status ∈ gt := gt_of 1031 (by decide +kernel) (by decide +kernel)
theorem im_X5_status : Cond.instanceMethod yX5_status ∈ gt := gt_of 1032 (by decide +kernel) (by decide +kernel)
theorem se_X5_status : Cond.selects RX5 yX5_status yX5_status ∈ gt := gt_of 1033 (by decide +kernel) (by decide +kernel)
set_option maxRecDepth 20000 in theorem co_X5_status : Cond.code yX5_status cX5_status 4 (some .int) ∈ gt := gt_of 1034 (rfl) (by decide +kernel)
theorem kl_L_133 : Cond.constantLong RL 133 (4294967295) ∈ gt := gt_of 1035 (by decide +kernel) (by decide +kernel)
theorem fl_J0_9 : Cond.fieldLink RJ0 9 "java/lang/String" "value" "[B" ∈ gt := gt_of 1036 (by decide +kernel) (by decide +kernel)
theorem fl_J0_15 : Cond.fieldLink RJ0 15 "java/lang/String" "coder" "B" ∈ gt := gt_of 1037 (by decide +kernel) (by decide +kernel)
theorem se_X4_tell : Cond.selects RX4 yX4_tell yX4_tell ∈ gt := gt_of 0 (by decide +kernel) (by decide +kernel)
theorem se_X3_nextPace : Cond.selects RX3 yX3_nextPace yX3_nextPace ∈ gt := gt_of 1 (by decide +kernel) (by decide +kernel)
theorem se_X3_agePaint : Cond.selects RX3 yX3_agePaint yX3_agePaint ∈ gt := gt_of 2 (by decide +kernel) (by decide +kernel)
theorem se_X3_chooseStreet : Cond.selects RX3 yX3_chooseStreet yX3_chooseStreet ∈ gt := gt_of 3 (by decide +kernel) (by decide +kernel)
theorem se_X2_nextToken : Cond.selects RX2 yX2_nextToken yX2_nextToken ∈ gt := gt_of 4 (by decide +kernel) (by decide +kernel)
theorem se_X2_readNumber : Cond.selects RX2 yX2_readNumber yX2_readNumber ∈ gt := gt_of 5 (by decide +kernel) (by decide +kernel)
theorem se_X2_takeItem : Cond.selects RX2 yX2_takeItem yX2_takeItem ∈ gt := gt_of 6 (by decide +kernel) (by decide +kernel)
theorem se_X2_kindNamed : Cond.selects RX2 yX2_kindNamed yX2_kindNamed ∈ gt := gt_of 7 (by decide +kernel) (by decide +kernel)
theorem se_X2_isWord : Cond.selects RX2 yX2_isWord yX2_isWord ∈ gt := gt_of 8 (by decide +kernel) (by decide +kernel)
theorem se_X2_takeDriver : Cond.selects RX2 yX2_takeDriver yX2_takeDriver ∈ gt := gt_of 9 (by decide +kernel) (by decide +kernel)
theorem se_X2_isNumber : Cond.selects RX2 yX2_isNumber yX2_isNumber ∈ gt := gt_of 10 (by decide +kernel) (by decide +kernel)
theorem se_X2_thingNamed : Cond.selects RX2 yX2_thingNamed yX2_thingNamed ∈ gt := gt_of 11 (by decide +kernel) (by decide +kernel)
theorem se_X2_takeThing : Cond.selects RX2 yX2_takeThing yX2_takeThing ∈ gt := gt_of 12 (by decide +kernel) (by decide +kernel)
theorem se_X4_sheetFault : Cond.selects RX4 yX4_sheetFault yX4_sheetFault ∈ gt := gt_of 13 (by decide +kernel) (by decide +kernel)
theorem se_X5_no : Cond.selects RX5 yX5_no yX5_no ∈ gt := gt_of 14 (by decide +kernel) (by decide +kernel)
theorem se_X5_lies : Cond.selects RX5 yX5_lies yX5_lies ∈ gt := gt_of 15 (by decide +kernel) (by decide +kernel)
theorem se_X5_get : Cond.selects RX5 yX5_get yX5_get ∈ gt := gt_of 16 (by decide +kernel) (by decide +kernel)
theorem se_X5_shookBy : Cond.selects RX5 yX5_shookBy yX5_shookBy ∈ gt := gt_of 17 (by decide +kernel) (by decide +kernel)
theorem se_X5_goesThrough : Cond.selects RX5 yX5_goesThrough yX5_goesThrough ∈ gt := gt_of 18 (by decide +kernel) (by decide +kernel)
theorem se_X5_thingsIn : Cond.selects RX5 yX5_thingsIn yX5_thingsIn ∈ gt := gt_of 19 (by decide +kernel) (by decide +kernel)
theorem se_X5_bumpsIn : Cond.selects RX5 yX5_bumpsIn yX5_bumpsIn ∈ gt := gt_of 20 (by decide +kernel) (by decide +kernel)
theorem se_X5_allShook : Cond.selects RX5 yX5_allShook yX5_allShook ∈ gt := gt_of 21 (by decide +kernel) (by decide +kernel)
theorem se_X5_allTook : Cond.selects RX5 yX5_allTook yX5_allTook ∈ gt := gt_of 22 (by decide +kernel) (by decide +kernel)
theorem se_X5_tookBy : Cond.selects RX5 yX5_tookBy yX5_tookBy ∈ gt := gt_of 23 (by decide +kernel) (by decide +kernel)
theorem se_X5_addsDriver : Cond.selects RX5 yX5_addsDriver yX5_addsDriver ∈ gt := gt_of 24 (by decide +kernel) (by decide +kernel)
theorem se_X5_puts : Cond.selects RX5 yX5_puts yX5_puts ∈ gt := gt_of 25 (by decide +kernel) (by decide +kernel)
theorem se_X5_isDriver : Cond.selects RX5 yX5_isDriver yX5_isDriver ∈ gt := gt_of 26 (by decide +kernel) (by decide +kernel)
theorem se_X5_areBoth : Cond.selects RX5 yX5_areBoth yX5_areBoth ∈ gt := gt_of 27 (by decide +kernel) (by decide +kernel)
theorem se_X5_goes : Cond.selects RX5 yX5_goes yX5_goes ∈ gt := gt_of 28 (by decide +kernel) (by decide +kernel)
theorem se_X5_chooses : Cond.selects RX5 yX5_chooses yX5_chooses ∈ gt := gt_of 29 (by decide +kernel) (by decide +kernel)
theorem se_X5_setsAside : Cond.selects RX5 yX5_setsAside yX5_setsAside ∈ gt := gt_of 30 (by decide +kernel) (by decide +kernel)
theorem se_X5_laysBack : Cond.selects RX5 yX5_laysBack yX5_laysBack ∈ gt := gt_of 31 (by decide +kernel) (by decide +kernel)
theorem se_X5_onBy : Cond.selects RX5 yX5_onBy yX5_onBy ∈ gt := gt_of 32 (by decide +kernel) (by decide +kernel)
theorem se_X5_quickest : Cond.selects RX5 yX5_quickest yX5_quickest ∈ gt := gt_of 33 (by decide +kernel) (by decide +kernel)
theorem se_X5_nextToken : Cond.selects RX5 yX5_nextToken yX5_nextToken ∈ gt := gt_of 34 (by decide +kernel) (by decide +kernel)
theorem se_X5_readsItem : Cond.selects RX5 yX5_readsItem yX5_readsItem ∈ gt := gt_of 35 (by decide +kernel) (by decide +kernel)
theorem se_X5_wordOf : Cond.selects RX5 yX5_wordOf yX5_wordOf ∈ gt := gt_of 36 (by decide +kernel) (by decide +kernel)
theorem se_X5_readsDriver : Cond.selects RX5 yX5_readsDriver yX5_readsDriver ∈ gt := gt_of 37 (by decide +kernel) (by decide +kernel)
theorem se_X5_takesNumber : Cond.selects RX5 yX5_takesNumber yX5_takesNumber ∈ gt := gt_of 38 (by decide +kernel) (by decide +kernel)
theorem se_X5_readsThing : Cond.selects RX5 yX5_readsThing yX5_readsThing ∈ gt := gt_of 39 (by decide +kernel) (by decide +kernel)
theorem se_X5_wrongSheet : Cond.selects RX5 yX5_wrongSheet yX5_wrongSheet ∈ gt := gt_of 40 (by decide +kernel) (by decide +kernel)
theorem se_X5_told : Cond.selects RX5 yX5_told yX5_told ∈ gt := gt_of 41 (by decide +kernel) (by decide +kernel)
theorem se_X5_tells : Cond.selects RX5 yX5_tells yX5_tells ∈ gt := gt_of 42 (by decide +kernel) (by decide +kernel)
theorem se_X5_wrongWith : Cond.selects RX5 yX5_wrongWith yX5_wrongWith ∈ gt := gt_of 43 (by decide +kernel) (by decide +kernel)
theorem se_X5_isSo : Cond.selects RX5 yX5_isSo yX5_isSo ∈ gt := gt_of 44 (by decide +kernel) (by decide +kernel)
theorem inX1 : ∀ w ∈ u_ws RX1 TX1 3, w ∈ gt := by
  intro w hw
  obtain ⟨k, hk, rfl⟩ := List.mem_map.mp hw
  have hk := List.mem_range.mp hk
  match k, hk with
  | 0, _ => exact la_X1_bits
  | 1, _ => exact la_X1_size
  | 2, _ => exact la_X1_numbers
  | k + 3, hk => exact absurd hk (by omega)
theorem inX2 : ∀ w ∈ u_ws RX2 TX2 6, w ∈ gt := by
  intro w hw
  obtain ⟨k, hk, rfl⟩ := List.mem_map.mp hw
  have hk := List.mem_range.mp hk
  match k, hk with
  | 0, _ => exact la_X2_bytes
  | 1, _ => exact la_X2_length
  | 2, _ => exact la_X2_token
  | 3, _ => exact la_X2_start
  | 4, _ => exact la_X2_end
  | 5, _ => exact la_X2_value
  | k + 6, hk => exact absurd hk (by omega)
theorem inX3 : ∀ w ∈ u_ws RX3 TX3 8, w ∈ gt := by
  intro w hw
  obtain ⟨k, hk, rfl⟩ := List.mem_map.mp hw
  have hk := List.mem_range.mp hk
  match k, hk with
  | 0, _ => exact la_X3_day
  | 1, _ => exact la_X3_inches
  | 2, _ => exact la_X3_drivers
  | 3, _ => exact la_X3_things
  | 4, _ => exact la_X3_ages
  | 5, _ => exact la_X3_kinds
  | 6, _ => exact la_X3_wishes
  | 7, _ => exact la_X3_goesIn
  | k + 8, hk => exact absurd hk (by omega)
theorem inX4 : ∀ w ∈ u_ws RX4 TX4 7, w ∈ gt := by
  intro w hw
  obtain ⟨k, hk, rfl⟩ := List.mem_map.mp hw
  have hk := List.mem_range.mp hk
  match k, hk with
  | 0, _ => exact la_X4_present
  | 1, _ => exact la_X4_kept
  | 2, _ => exact la_X4_trial
  | 3, _ => exact la_X4_tape
  | 4, _ => exact la_X4_sheets
  | 5, _ => exact la_X4_told
  | 6, _ => exact la_X4_isKept
  | k + 7, hk => exact absurd hk (by omega)
theorem inX5 : ∀ w ∈ u_ws RX5 TX5 21, w ∈ gt := by
  intro w hw
  obtain ⟨k, hk, rfl⟩ := List.mem_map.mp hw
  have hk := List.mem_range.mp hk
  match k, hk with
  | 0, _ => exact la_X5_s
  | 1, _ => exact la_X5_kept
  | 2, _ => exact la_X5_aside
  | 3, _ => exact la_X5_isKept
  | 4, _ => exact la_X5_found
  | 5, _ => exact la_X5_quick
  | 6, _ => exact la_X5_took
  | 7, _ => exact la_X5_shook
  | 8, _ => exact la_X5_tape
  | 9, _ => exact la_X5_taped
  | 10, _ => exact la_X5_token
  | 11, _ => exact la_X5_begun
  | 12, _ => exact la_X5_ended
  | 13, _ => exact la_X5_value
  | 14, _ => exact la_X5_letters
  | 15, _ => exact la_X5_more
  | 16, _ => exact la_X5_others
  | 17, _ => exact la_X5_widths
  | 18, _ => exact la_X5_sizes
  | 19, _ => exact la_X5_cells
  | 20, _ => exact la_X5_carried
  | k + 21, hk => exact absurd hk (by omega)
end
section
/-! THE HEAP AS NUMBERS: cell k holds at place i the int s.1 k i or the long s.2 k i; what a cell is (its class, its references) stands fast in a shape. -/
abbrev xH : Type := (Nat → Nat → Int32) × (Nat → Nat → Int64)
/-- a field: an int, a long, a reference to a cell -/
abbrev xF : Type := Bool ⊕ Nat
/-- a cell: an array (0 ints, 1 longs, 2 chars, 3 references first + step * j), its length; or an object: its class's number, its fields -/
abbrev xC : Type := (Nat × Nat × Nat × Nat) ⊕ (Nat × List xF)
/-- a world: shapes, addresses, the tables' numbers, the array classes, the third array class's type -/
abbrev xW : Type := List xC × (Nat → Nat) × va_G × (Nat → ClassId) × FieldType
/-- a method: its name, code, locals, answer's type, room -/
abbrev xM : Type := MethodName × ByteArray × Nat × Option FieldType × Room
abbrev xsh (Ω : xW) : List xC := Ω.1
abbrev xad (Ω : xW) : Nat → Nat := Ω.2.1
abbrev xD (Ω : xW) : va_G := Ω.2.2.1
abbrev xcy (Ω : xW) : Nat → ClassId := Ω.2.2.2.1
abbrev xt2 (Ω : xW) : FieldType := Ω.2.2.2.2
abbrev xy (M : xM) : MethodName := M.1
abbrev xcc (M : xM) : ByteArray := M.2.1
abbrev xnL (M : xM) : Nat := M.2.2.1
abbrev xret (M : xM) : Option FieldType := M.2.2.2.1
abbrev xrm (M : xM) : Room := M.2.2.2.2
/-- the room of a method below which n calls stand open -/
abbrev xR (n : Nat) : Room := { frames := n, cells := 0, slots := 0, locals := 36 * n }
def xv (ad : Nat → Nat) (v : Value) : Value := match v with
  | .ref k => .ref (ad k)
  | v => v
def xfv (ad : Nat → Nat) (σ : xH) (k i : Nat) (f : xF) : Value := match f with
  | .inl false => .int (σ.1 k i)
  | .inl true => .long (σ.2 k i)
  | .inr r => .ref (ad r)
def xce (ad : Nat → Nat) (cy : Nat → ClassId) (σ : xH) (k : Nat) (e : xC) : va_E := match e with
  | .inl (0, n, _, _) => .inl (cy 0, n, .inl (σ.1 k))
  | .inl (1, n, _, _) => .inl (cy 1, n, .inr (.inl (σ.2 k)))
  | .inl (2, n, _, _) => .inl (cy 2, n, .inl (σ.1 k))
  | .inl (_, n, b, t) => .inl (cy 2, n, .inr (.inr (.inr (.inr (fun j => some (ad (b + t * j)))))))
  | .inr (ci, fs) => .inr (ci, fs.mapIdx (fun i f => xfv ad σ k i f))
def xw (Ω : xW) (σ : xH) : va_W := (xsh Ω).mapIdx (fun k e => (xad Ω k, xce (xad Ω) (xcy Ω) σ k e))
abbrev xtys (Ω : xW) : List (ClassId × FieldType) := [(xcy Ω 0, .int), (xcy Ω 1, .long), (xcy Ω 2, xt2 Ω)]
theorem xw_get {Ω : xW} {σ : xH} {k : Nat} {e : xC} (h : (xsh Ω)[k]? = some e) : (xw Ω σ)[k]? = some (xad Ω k, xce (xad Ω) (xcy Ω) σ k e) := by
  unfold xw
  rw [List.getElem?_mapIdx, h]
  rfl
theorem xce_congr {ad : Nat → Nat} {cy : Nat → ClassId} {σ τ : xH} {k : Nat} (e : xC) (h1 : σ.1 k = τ.1 k) (h2 : σ.2 k = τ.2 k) : xce ad cy σ k e = xce ad cy τ k e := by
  have hf : ∀ i f, xfv ad σ k i f = xfv ad τ k i f := by
    intro i f
    rcases f with b | r
    · cases b
      · simp only [xfv, h1]
      · simp only [xfv, h2]
    · rfl
  unfold xce
  split
  · rw [h1]
  · rw [h2]
  · rw [h1]
  · rfl
  · simp only [hf]
theorem xw_set {Ω : xW} {σ τ : xH} {k : Nat} {e : xC} (h : (xsh Ω)[k]? = some e) (h1 : ∀ j, j ≠ k → σ.1 j = τ.1 j) (h2 : ∀ j, j ≠ k → σ.2 j = τ.2 j) : (xw Ω σ).set k (xad Ω k, xce (xad Ω) (xcy Ω) τ k e) = xw Ω τ := by
  apply List.ext_getElem?
  intro j
  unfold xw
  rw [List.getElem?_set]
  by_cases hj : k = j
  · subst hj
    have hlt : k < (xsh Ω).length := (List.getElem?_eq_some_iff.mp h).1
    have he : (xsh Ω)[k] = e := (List.getElem?_eq_some_iff.mp h).2
    simp [List.getElem?_mapIdx, h, hlt, he]
  · rw [if_neg hj, List.getElem?_mapIdx, List.getElem?_mapIdx]
    cases hq : (xsh Ω)[j]? with
    | none => rfl
    | some q => simp only [Option.map_some, xce_congr q (h1 j (Ne.symm hj)) (h2 j (Ne.symm hj))]
/-- a row of ints, of longs anew -/
def xui (σ : xH) (k : Nat) (f : Nat → Int32) : xH := (fun a => if a = k then f else σ.1 a, σ.2)
def xul (σ : xH) (k : Nat) (f : Nat → Int64) : xH := (σ.1, fun a => if a = k then f else σ.2 a)
/-- one place anew -/
abbrev xpi (σ : xH) (k i : Nat) (v : Int32) : xH := xui σ k (upd (σ.1 k) i v)
abbrev xpl (σ : xH) (k i : Nat) (v : Int64) : xH := xul σ k (vp_updL (σ.2 k) i v)
theorem xui_ne (σ : xH) (k : Nat) (f : Nat → Int32) : ∀ j, j ≠ k → σ.1 j = (xui σ k f).1 j := fun j h => by simp [xui, h]
theorem xul_ne (σ : xH) (k : Nat) (f : Nat → Int64) : ∀ j, j ≠ k → σ.2 j = (xul σ k f).2 j := fun j h => by simp [xul, h]
/-! locals: a list by slots, none where nothing is known -/
def xLoc (ad : Nat → Nat) : Nat → List (Option Value) → List (Nat × Value)
  | _, [] => []
  | i, none :: t => xLoc ad (i + 1) t
  | i, some v :: t => (i, xv ad v) :: xLoc ad (i + 1) t
def xlg (v : Option Value) : Bool := match v with
  | some (.long _) => true
  | some (.double _) => true
  | _ => false
def xs1 (v : Value) : Nat → List (Option Value) → List (Option Value)
  | _, [] => []
  | 0, _ :: t => some v :: t
  | 1, a :: t => (if xlg a then none else a) :: xs1 v 0 t
  | i + 2, a :: t => a :: xs1 v (i + 1) t
def xs2 (v : Value) : Nat → List (Option Value) → List (Option Value)
  | _, [] => []
  | 0, _ :: [] => []
  | 0, _ :: _ :: t => some v :: none :: t
  | 1, a :: t => (if xlg a then none else a) :: xs2 v 0 t
  | i + 2, a :: t => a :: xs2 v (i + 1) t
theorem xLoc_at {ad : Nat → Nat} : ∀ (ls : List (Option Value)) (b i : Nat) (v : Value), ls[i]? = some (some v) → (b + i, xv ad v) ∈ xLoc ad b ls := by
  intro ls
  induction ls with
  | nil => intro b i v h; simp at h
  | cons a t ih =>
    intro b i v h
    cases i with
    | zero =>
      simp at h
      subst h
      simp [xLoc]
    | succ i =>
      have h2 : t[i]? = some (some v) := by simpa using h
      have := ih (b + 1) i v h2
      rw [show b + (i + 1) = b + 1 + i by omega]
      cases a with
      | none => exact this
      | some a => exact List.mem_cons_of_mem _ this
theorem xLoc_ge {ad : Nat → Nat} : ∀ (ls : List (Option Value)) (b : Nat) (q : Nat × Value), q ∈ xLoc ad b ls → b ≤ q.1 := by
  intro ls
  induction ls with
  | nil => intro b q h; simp [xLoc] at h
  | cons a t ih =>
    intro b q h
    cases a with
    | none => have := ih (b + 1) q h; omega
    | some a =>
      rcases List.mem_cons.mp h with h | h
      · subst h; exact Nat.le_refl _
      · have := ih (b + 1) q h; omega
theorem xlg_cat {ad : Nat → Nat} {v : Value} (h : ¬ xlg (some v) = true) : ¬ (xv ad v).category = 2 := by
  cases v <;> simp_all [xlg, xv, Value.category]
theorem xs1_in {ad : Nat → Nat} (v : Value) : ∀ (ls : List (Option Value)) (i b : Nat) (q : Nat × Value), q ∈ xLoc ad b (xs1 v i ls) → q = (b + i, xv ad v) ∨ (q ∈ xLoc ad b ls ∧ q.1 ≠ b + i ∧ ¬ (q.1 + 1 = b + i ∧ q.2.category = 2)) := by
  intro ls
  induction ls with
  | nil => intro i b q h; simp [xs1, xLoc] at h
  | cons a t ih =>
    intro i b q h
    match i, h with
    | 0, h =>
      have h0 : q ∈ (b, xv ad v) :: xLoc ad (b + 1) t := h
      clear h
      rcases List.mem_cons.mp h0 with g | g
      · exact Or.inl g
      · have hg := xLoc_ge _ _ _ g
        refine Or.inr ⟨?_, by omega, fun z => by omega⟩
        cases a with
        | none => exact g
        | some a => exact List.mem_cons_of_mem _ g
    | 1, h =>
      have h : q ∈ xLoc ad b ((if xlg a then none else a) :: xs1 v 0 t) := h
      have rest : q ∈ xLoc ad (b + 1) (xs1 v 0 t) → q = (b + 1, xv ad v) ∨ (q ∈ xLoc ad b (a :: t) ∧ q.1 ≠ b + 1 ∧ ¬ (q.1 + 1 = b + 1 ∧ q.2.category = 2)) := by
        intro h
        rcases ih 0 (b + 1) q h with e | ⟨e1, e2, e3⟩
        · exact Or.inl e
        · have hg := xLoc_ge _ _ _ e1
          refine Or.inr ⟨?_, by omega, fun z => by omega⟩
          cases a with
          | none => exact e1
          | some a => exact List.mem_cons_of_mem _ e1
      by_cases hl : xlg a = true
      · rw [if_pos hl] at h
        exact rest h
      · rw [if_neg hl] at h
        cases a with
        | none => exact rest h
        | some a =>
          rcases List.mem_cons.mp h with e | e
          · subst e
            refine Or.inr ⟨List.mem_cons_self, by show b ≠ b + 1; omega, fun z => xlg_cat hl z.2⟩
          · exact rest e
    | i + 2, h =>
      have h : q ∈ xLoc ad b (a :: xs1 v (i + 1) t) := h
      have rest : q ∈ xLoc ad (b + 1) (xs1 v (i + 1) t) → q = (b + (i + 2), xv ad v) ∨ (q ∈ xLoc ad b (a :: t) ∧ q.1 ≠ b + (i + 2) ∧ ¬ (q.1 + 1 = b + (i + 2) ∧ q.2.category = 2)) := by
        intro h
        rcases ih (i + 1) (b + 1) q h with e | ⟨e1, e2, e3⟩
        · exact Or.inl (by rw [e]; congr 1; omega)
        · refine Or.inr ⟨?_, by omega, fun z => e3 ⟨by omega, z.2⟩⟩
          cases a with
          | none => exact e1
          | some a => exact List.mem_cons_of_mem _ e1
      cases a with
      | none => exact rest h
      | some a =>
        rcases List.mem_cons.mp h with e | e
        · subst e
          exact Or.inr ⟨List.mem_cons_self, by show b ≠ b + (i + 2); omega, fun z => by have : b + 1 = b + (i + 2) := z.1; omega⟩
        · exact rest e
theorem xs2_in {ad : Nat → Nat} (v : Value) : ∀ (ls : List (Option Value)) (i b : Nat) (q : Nat × Value), q ∈ xLoc ad b (xs2 v i ls) → q = (b + i, xv ad v) ∨ (q ∈ xLoc ad b ls ∧ q.1 ≠ b + i ∧ q.1 ≠ b + i + 1 ∧ ¬ (q.1 + 1 = b + i ∧ q.2.category = 2)) := by
  intro ls
  induction ls with
  | nil => intro i b q h; simp [xs2, xLoc] at h
  | cons a t ih =>
    intro i b q h
    match i, h with
    | 0, h =>
      match t, h with
      | [], h => simp [xs2, xLoc] at h
      | a2 :: t, h =>
        have h0 : q ∈ (b, xv ad v) :: xLoc ad (b + 1 + 1) t := h
        clear h
        rcases List.mem_cons.mp h0 with g | g
        · exact Or.inl g
        · have hg := xLoc_ge _ _ _ g
          refine Or.inr ⟨?_, by omega, by omega, fun z => by omega⟩
          cases a with
          | none =>
            cases a2 with
            | none => exact g
            | some a2 => exact List.mem_cons_of_mem _ g
          | some a =>
            refine List.mem_cons_of_mem _ ?_
            cases a2 with
            | none => exact g
            | some a2 => exact List.mem_cons_of_mem _ g
    | 1, h =>
      have h : q ∈ xLoc ad b ((if xlg a then none else a) :: xs2 v 0 t) := by rw [xs2] at h; exact h
      have rest : q ∈ xLoc ad (b + 1) (xs2 v 0 t) → q = (b + 1, xv ad v) ∨ (q ∈ xLoc ad b (a :: t) ∧ q.1 ≠ b + 1 ∧ q.1 ≠ b + 1 + 1 ∧ ¬ (q.1 + 1 = b + 1 ∧ q.2.category = 2)) := by
        intro h
        rcases ih 0 (b + 1) q h with e | ⟨e1, e2, e3, e4⟩
        · exact Or.inl e
        · have hg := xLoc_ge _ _ _ e1
          refine Or.inr ⟨?_, by omega, by omega, fun z => by omega⟩
          cases a with
          | none => exact e1
          | some a => exact List.mem_cons_of_mem _ e1
      by_cases hl : xlg a = true
      · rw [if_pos hl] at h
        exact rest h
      · rw [if_neg hl] at h
        cases a with
        | none => exact rest h
        | some a =>
          rcases List.mem_cons.mp h with e | e
          · subst e
            refine Or.inr ⟨List.mem_cons_self, by show b ≠ b + 1; omega, by show b ≠ b + 1 + 1; omega, fun z => xlg_cat hl z.2⟩
          · exact rest e
    | i + 2, h =>
      have h : q ∈ xLoc ad b (a :: xs2 v (i + 1) t) := by rw [xs2] at h; exact h
      have rest : q ∈ xLoc ad (b + 1) (xs2 v (i + 1) t) → q = (b + (i + 2), xv ad v) ∨ (q ∈ xLoc ad b (a :: t) ∧ q.1 ≠ b + (i + 2) ∧ q.1 ≠ b + (i + 2) + 1 ∧ ¬ (q.1 + 1 = b + (i + 2) ∧ q.2.category = 2)) := by
        intro h
        rcases ih (i + 1) (b + 1) q h with e | ⟨e1, e2, e3, e4⟩
        · exact Or.inl (by rw [e]; congr 1; omega)
        · refine Or.inr ⟨?_, by omega, by omega, fun z => e4 ⟨by omega, z.2⟩⟩
          cases a with
          | none => exact e1
          | some a => exact List.mem_cons_of_mem _ e1
      cases a with
      | none => exact rest h
      | some a =>
        rcases List.mem_cons.mp h with e | e
        · subst e
          exact Or.inr ⟨List.mem_cons_self, by show b ≠ b + (i + 2); omega, by show b ≠ b + (i + 2) + 1; omega, fun z => by have : b + 1 = b + (i + 2) := z.1; omega⟩
        · exact rest e
theorem xhas1 {ad : Nat → Nat} {ls' : Array Slot} {nL i : Nat} {v : Value} {ls : List (Option Value)} (h : lv_has ls' nL ((i, xv ad v) :: (xLoc ad 0 ls).filter (fun q => !(q.1 == i) && !(q.1 + 1 == i && q.2.category == 2)))) : lv_has ls' nL (xLoc ad 0 (xs1 v i ls)) := by
  refine ⟨h.1, h.2.1, fun q hq => h.2.2 q ?_⟩
  rcases xs1_in v ls i 0 q hq with e | ⟨e1, e2, e3⟩
  · rw [e, Nat.zero_add]
    exact List.mem_cons_self
  · refine List.mem_cons_of_mem _ (List.mem_filter.mpr ⟨e1, ?_⟩)
    rw [Nat.zero_add] at e2 e3
    simp only [Bool.and_eq_true, Bool.not_eq_true', beq_eq_false_iff_ne, ne_eq, Bool.and_eq_false_iff]
    refine ⟨e2, ?_⟩
    by_cases hz : q.1 + 1 = i
    · exact Or.inr (fun z => e3 ⟨hz, z⟩)
    · exact Or.inl hz
theorem xhas2 {ad : Nat → Nat} {ls' : Array Slot} {nL i : Nat} {v : Value} {ls : List (Option Value)} (h : lv_has ls' nL ((i, xv ad v) :: (xLoc ad 0 ls).filter (fun q => !(q.1 == i) && (!(q.1 == i + 1) && !(q.1 + 1 == i && q.2.category == 2))))) : lv_has ls' nL (xLoc ad 0 (xs2 v i ls)) := by
  refine ⟨h.1, h.2.1, fun q hq => h.2.2 q ?_⟩
  rcases xs2_in v ls i 0 q hq with e | ⟨e1, e2, e3, e4⟩
  · rw [e, Nat.zero_add]
    exact List.mem_cons_self
  · refine List.mem_cons_of_mem _ (List.mem_filter.mpr ⟨e1, ?_⟩)
    rw [Nat.zero_add] at e2 e3 e4
    simp only [Bool.and_eq_true, Bool.not_eq_true', beq_eq_false_iff_ne, ne_eq, Bool.and_eq_false_iff]
    refine ⟨e2, e3, ?_⟩
    by_cases hz : q.1 + 1 = i
    · exact Or.inr (fun z => e4 ⟨hz, z⟩)
    · exact Or.inl hz
theorem xat {ad : Nat → Nat} {ls' : Array Slot} {nL i : Nat} {v : Value} {ls : List (Option Value)} (h : lv_has ls' nL (xLoc ad 0 ls)) (hi : ls[i]? = some (some v)) : ls'[i]? = some (.val (xv ad v)) := by
  have := h.2.2 _ (xLoc_at (ad := ad) ls 0 i v hi)
  simpa using this
/-! the locals with which a method begins -/
def xarg : List Value → List (Option Value)
  | [] => []
  | v :: t => if v.category = 2 then some v :: none :: xarg t else some v :: xarg t
abbrev xent (as : List Value) (n : Nat) : List (Option Value) := xarg as ++ List.replicate (n - (xarg as).length) none
theorem xv_cat (ad : Nat → Nat) (v : Value) : (xv ad v).category = v.category := by cases v <;> rfl
theorem xLoc_none {ad : Nat → Nat} : ∀ (n b : Nat), xLoc ad b (List.replicate n none) = [] := by
  intro n
  induction n with
  | zero => intro b; rfl
  | succ n ih => intro b; exact ih (b + 1)
theorem xent_in {ad : Nat → Nat} (n : Nat) : ∀ (as : List Value) (b : Nat) (q : Nat × Value), q ∈ xLoc ad b (xarg as ++ List.replicate n none) → q ∈ lv_args b (as.map (xv ad)) := by
  intro as
  induction as with
  | nil =>
    intro b q h
    rw [xarg, List.nil_append, xLoc_none] at h
    exact absurd h List.not_mem_nil
  | cons v t ih =>
    intro b q h
    rw [List.map_cons, lv_args, xv_cat]
    rw [xarg] at h
    by_cases hc : v.category = 2
    · rw [if_pos hc] at h ⊢
      rcases List.mem_cons.mp h with h | h
      · rw [h]; exact List.mem_cons_self
      · exact List.mem_cons_of_mem _ (ih (b + 1 + 1) q h)
    · rw [if_neg hc] at h ⊢
      rcases List.mem_cons.mp h with h | h
      · rw [h]; exact List.mem_cons_self
      · exact List.mem_cons_of_mem _ (ih (b + 1) q h)
end
section
/-! WHAT STANDS OUTSIDE THE WORLD: the texts, two statics, the one link between nest mates -/
def xstr : List (Nat × String) := [(88, "driver"), (90, "bus"), (92, "lorry"), (94, "local"), (96, "ambulance"), (98, "racer"), (74, "wish"), (79, "in"), (100, "clear"), (102, "bump"), (104, "narrow"), (106, "sign"), (108, "paint"), (49, "high")]
def xlen : List Nat := [6, 3, 5, 5, 9, 5, 4, 2, 5, 4, 6, 4, 5, 4]
def xbyt : List (List Int32) := [[100, 114, 105, 118, 101, 114], [98, 117, 115], [108, 111, 114, 114, 121], [108, 111, 99, 97, 108], [97, 109, 98, 117, 108, 97, 110, 99, 101], [114, 97, 99, 101, 114], [119, 105, 115, 104], [105, 110], [99, 108, 101, 97, 114], [98, 117, 109, 112], [110, 97, 114, 114, 111, 119], [115, 105, 103, 110], [112, 97, 105, 110, 116], [104, 105, 103, 104]]
def xZq (Ω : xW) (A : Nat → Prop) (U : State) (H : Heap) : Prop := va_Z RJ3 "SIOOBE_FORMATTER" "Ljava/util/function/BiFunction;" .null A U H ∨ va_Z RJ3 "SIOOBE_FORMATTER" "Ljava/util/function/BiFunction;" (.ref (xad Ω 3000)) A U H
theorem xZq.moved {Ω : xW} {A : Nat → Prop} {u U : State} {H : Heap} (hvm : u.vm.Alike U.vm) (h : xZq Ω A u H) : xZq Ω A U H := h.elim (fun h => Or.inl (h.moved hvm)) (fun h => Or.inr (h.moved hvm))
theorem xZq.kept {Ω : xW} {A : Nat → Prop} {U : State} {H H1 : Heap} (h : xZq Ω A U H) (hq : ∀ a : Nat, a < H.size → ¬ A a → H1[a]? = H[a]?) : xZq Ω A U H1 := h.elim (fun h => Or.inl (h.kept hq)) (fun h => Or.inr (h.kept hq))
theorem xZq.narrow {Ω : xW} {A B : Nat → Prop} {U : State} {H : Heap} (h : xZq Ω A U H) (hAB : ∀ q, B q → A q) : xZq Ω B U H := h.elim (fun h => Or.inl (h.narrow hAB)) (fun h => Or.inr (h.narrow hAB))
def xE (Ω : xW) (A : Nat → Prop) (U : State) (H : Heap) : Prop :=
  va_Nw (.methodLinkNest RX3 43 yX4_placeOf RX4) U ∧ vk_S 14 xlen xbyt (fun i => xad Ω (1000 + i)) (fun i => xad Ω (2000 + i)) A U H ∧ (∀ i q, xstr[i]? = some q → vk_R RX2 q.1 q.2 (xad Ω (1000 + i)) U) ∧ va_Z RJ0 "COMPACT_STRINGS" "Z" (.int 1) A U H ∧ xZq Ω A U H
theorem xE_to {Ω : xW} {A B : Nat → Prop} {s U : State} {H H1 : Heap} (h : xE Ω A s H) (hW : s.WarmedH U.vm) (hq : ∀ a : Nat, a < H.size → ¬ A a → H1[a]? = H[a]?) (hAB : ∀ q, B q → A q) : xE Ω B U H1 :=
  ⟨va_Nw.warmM hW h.1, ((h.2.1.kept hq).moved hW.alike).narrow hAB, fun i q hi => (h.2.2.1 i q hi).warm hW, ((h.2.2.2.1.kept hq).moved hW.alike).narrow hAB, ((h.2.2.2.2.kept hq).moved hW.alike).narrow hAB⟩
theorem xE_same {Ω : xW} {A : Nat → Prop} {s U : State} {H : Heap} (h : xE Ω A s H) (hv : U.vm = s.vm) : xE Ω A U H :=
  ⟨va_Nw.same rfl hv.symm h.1, h.2.1.moved (hv ▸ Vm.Alike.refl _), fun i q hi => (h.2.2.1 i q hi).same hv, h.2.2.2.1.moved (hv ▸ Vm.Alike.refl _), h.2.2.2.2.moved (hv ▸ Vm.Alike.refl _)⟩
/-- a method's end: its answer and the numbers -/
def xQc (Ω : xW) (A : Nat → Prop) (Q : Option Value → xH → Prop) : Array Value → State → Outcome → State → Prop := fun _ st oc t =>
  (∃ (r : Option Value) (σ : xH), oc = .returned (r.map (xv (xad Ω))) ∧ Q r σ ∧ va_P (xD Ω) vwCl (xw Ω σ) t.heap ∧ va_K (xD Ω) vwCl (xtys Ω) t ∧ va_D A (xw Ω σ)) ∧ va_F A st t
/-- what stands fast while a method runs -/
def xB (Ω : xW) (M : xM) (p : Program) (s : State) (m : MethodId) (args : Array Value) (meth : Method) (c : Code) (A : Nat → Prop) : Prop :=
  p.tables.exec = Jvm.exec ∧ c.code = xcc M ∧ meth.sig.returnType = xret M ∧ c.maxLocals = xnL M ∧ s.vm.findClass (xy M).cls = some m.cls ∧ (∀ w ∈ gt, w.before args s = true) ∧ meth.locks = false ∧ va_K (xD Ω) vwCl (xtys Ω) s ∧ (∀ q, s.heap.size ≤ q → A q) ∧ xE Ω A s s.heap
/-- THE RUN of a method from a place on, with locals ls, stack st, numbers σ, ends with Q -/
def Ex (l : Launch) (Ω : xW) (M : xM) (pc : Nat) (ls : List (Option Value)) (st : List Value) (σ : xH) (Q : Option Value → xH → Prop) : Prop :=
  ∀ (p : Program) (e : Env) (s : State) (m : MethodId) (args : Array Value) (below : List Frame) (meth : Method) (c : Code) (H : Heap) (locs : List Loc) (A : Nat → Prop) (ls' : Array Slot),
    xB Ω M p s m args meth c A → va_P (xD Ω) vwCl (xw Ω σ) H → va_D A (xw Ω σ) → va_S A s.heap H locs → lv_has ls' (xnL M) (xLoc (xad Ω) 0 ls) →
    W p l e (xrm M) s m args below meth c H locs 0 0 (MQ below (xQc Ω A Q) args s 0 0 A) (F0 m pc ls' (st.map (xv (xad Ω))))
/-- a method's whole run -/
def Ev (l : Launch) (Ω : xW) (M : xM) (as : List Value) (σ : xH) (Q : Option Value → xH → Prop) : Prop := Ex l Ω M 0 (xent as (xnL M)) [] σ Q
theorem x_enter {l : Launch} {Ω : xW} {M : xM} {as : List Value} {σ : xH} {Q : Option Value → xH → Prop} {ls : List (Option Value)} (h : xent as (xnL M) = ls) (k : Ex l Ω M 0 ls [] σ Q) : Ev l Ω M as σ Q := by subst h; exact k
theorem x_eq {l : Launch} {Ω : xW} {M : xM} {pc pc' : Nat} {ls ls' : List (Option Value)} {st st' : List Value} {σ σ' : xH} {Q : Option Value → xH → Prop} (h1 : pc = pc') (h2 : ls = ls') (h3 : st = st') (h4 : σ = σ') (k : Ex l Ω M pc' ls' st' σ' Q) : Ex l Ω M pc ls st σ Q := by subst h1 h2 h3 h4; exact k
theorem x_mono {l : Launch} {Ω : xW} {M : xM} {pc : Nat} {ls : List (Option Value)} {st : List Value} {σ : xH} {Q Q' : Option Value → xH → Prop} (h : Ex l Ω M pc ls st σ Q) (hq : ∀ r τ, Q r τ → Q' r τ) : Ex l Ω M pc ls st σ Q' := by
  intro p e s m args below meth c H locs A ls' B hP hD hS hl T hT X
  obtain ⟨t, a, oc, b1, b2, ⟨⟨r, τ, c1, c2, c3⟩, c4⟩, b4⟩ := h p e s m args below meth c H locs A ls' B hP hD hS hl T hT X
  exact ⟨t, a, oc, b1, b2, ⟨⟨r, τ, c1, hq r τ c2, c3⟩, c4⟩, b4⟩
theorem v_mono {l : Launch} {Ω : xW} {M : xM} {as : List Value} {σ : xH} {Q Q' : Option Value → xH → Prop} (h : Ev l Ω M as σ Q) (hq : ∀ r τ, Q r τ → Q' r τ) : Ev l Ω M as σ Q' := x_mono h hq
theorem xcats (ad : Nat → Nat) (st : List Value) : ((st.map (xv ad)).map fun v => v.category).sum = (st.map fun v => v.category).sum := by
  congr 1
  rw [List.map_map]
  exact List.map_congr_left (fun v _ => xv_cat ad v)
section XR
variable {l : Launch} {Ω : xW} {M : xM} {pc : Nat} {ls : List (Option Value)} {st : List Value} {σ : xH} {Q : Option Value → xH → Prop}
theorem x_iconst {n : Int} {v : Int32} (hd : decode (xcc M) pc = .ok (.iconst n, 1)) (hv : Int32.ofInt n = v) (k : Ex l Ω M (pc + 1) ls (.int v :: st) σ Q) : Ex l Ω M pc ls (st) σ Q := by
  intro p e s m args below meth c H locs A ls' B hP hD hS hl
  obtain ⟨hx, hb, hr, hml, hown, hts, hlocks, hK, hA, hE⟩ := id B
  exact lv_iconst hx hb hd hv (k p e s m args below meth c H locs A ls' B hP hD hS hl)
theorem x_bipush {n : Int} {v : Int32} (hd : decode (xcc M) pc = .ok (.bipush n, 2)) (hv : (Int8.ofInt n).toInt32 = v) (k : Ex l Ω M (pc + 2) ls (.int v :: st) σ Q) : Ex l Ω M pc ls (st) σ Q := by
  intro p e s m args below meth c H locs A ls' B hP hD hS hl
  obtain ⟨hx, hb, hr, hml, hown, hts, hlocks, hK, hA, hE⟩ := id B
  exact lv_bipush hx hb hd hv (k p e s m args below meth c H locs A ls' B hP hD hS hl)
theorem x_sipush {n : Int} {v : Int32} (hd : decode (xcc M) pc = .ok (.sipush n, 3)) (hv : (Int16.ofInt n).toInt32 = v) (k : Ex l Ω M (pc + 3) ls (.int v :: st) σ Q) : Ex l Ω M pc ls (st) σ Q := by
  intro p e s m args below meth c H locs A ls' B hP hD hS hl
  obtain ⟨hx, hb, hr, hml, hown, hts, hlocks, hK, hA, hE⟩ := id B
  exact lv_sipush hx hb hd hv (k p e s m args below meth c H locs A ls' B hP hD hS hl)
theorem x_lconst {n : Fin 2} {v : Int64} (hd : decode (xcc M) pc = .ok (.lconst n, 1)) (hv : Int64.ofNat (n : Nat) = v) (k : Ex l Ω M (pc + 1) ls (.long v :: st) σ Q) : Ex l Ω M pc ls (st) σ Q := by
  intro p e s m args below meth c H locs A ls' B hP hD hS hl
  obtain ⟨hx, hb, hr, hml, hown, hts, hlocks, hK, hA, hE⟩ := id B
  exact lv_lconst hx hb hd hv (k p e s m args below meth c H locs A ls' B hP hD hS hl)
theorem x_ldc {i : Nat} {v : Int32} (hd : decode (xcc M) pc = .ok (.ldc i, 2)) (hv : Cond.constant (xy M).cls i v ∈ gt) (k : Ex l Ω M (pc + 2) ls (.int v :: st) σ Q) : Ex l Ω M pc ls (st) σ Q := by
  intro p e s m args below meth c H locs A ls' B hP hD hS hl
  obtain ⟨hx, hb, hr, hml, hown, hts, hlocks, hK, hA, hE⟩ := id B
  exact lv_ldc hx hb hown (hts _ hv) hd (k p e s m args below meth c H locs A ls' B hP hD hS hl)
theorem x_ldc2 {i : Nat} {v : Int64} (hd : decode (xcc M) pc = .ok (.ldc2_w i, 3)) (hv : Cond.constantLong (xy M).cls i v ∈ gt) (k : Ex l Ω M (pc + 3) ls (.long v :: st) σ Q) : Ex l Ω M pc ls (st) σ Q := by
  intro p e s m args below meth c H locs A ls' B hP hD hS hl
  obtain ⟨hx, hb, hr, hml, hown, hts, hlocks, hK, hA, hE⟩ := id B
  exact lv_ldc2 hx hb hown (hts _ hv) hd (k p e s m args below meth c H locs A ls' B hP hD hS hl)
theorem x_ldcs {i : Nat} {q : Nat × String} (hc : (xy M).cls = RX2) (hi : xstr[i]? = some q) (hd : decode (xcc M) pc = .ok (.ldc q.1, 2)) (k : Ex l Ω M (pc + 2) ls (.ref (1000 + i) :: st) σ Q) : Ex l Ω M pc ls (st) σ Q := by
  intro p e s m args below meth c H locs A ls' B hP hD hS hl
  obtain ⟨hx, hb, hr, hml, hown, hts, hlocks, hK, hA, hE⟩ := id B
  exact va_ldcS hx hb (hc ▸ hown) (hE.2.2.1 i q hi) hd (k p e s m args below meth c H locs A ls' B hP hD hS hl)
theorem x_iload_n {j : Fin 4} {i : Nat} {x : Int32} (hd : decode (xcc M) pc = .ok (.iload_n j, 1)) (hi : (j : Nat) = i) (hv : ls[i]? = some (some (.int x))) (k : Ex l Ω M (pc + 1) ls (.int x :: st) σ Q) : Ex l Ω M pc ls (st) σ Q := by
  intro p e s m args below meth c H locs A ls' B hP hD hS hl
  obtain ⟨hx, hb, hr, hml, hown, hts, hlocks, hK, hA, hE⟩ := id B
  exact lv_iload_n hx hb hd hi (xat hl hv) (k p e s m args below meth c H locs A ls' B hP hD hS hl)
theorem x_iload {i : Nat} {x : Int32} (hd : decode (xcc M) pc = .ok (.iload i, 2)) (hv : ls[i]? = some (some (.int x))) (k : Ex l Ω M (pc + 2) ls (.int x :: st) σ Q) : Ex l Ω M pc ls (st) σ Q := by
  intro p e s m args below meth c H locs A ls' B hP hD hS hl
  obtain ⟨hx, hb, hr, hml, hown, hts, hlocks, hK, hA, hE⟩ := id B
  exact lv_iload hx hb hd (xat hl hv) (k p e s m args below meth c H locs A ls' B hP hD hS hl)
theorem x_lload_n {j : Fin 4} {i : Nat} {x : Int64} (hd : decode (xcc M) pc = .ok (.lload_n j, 1)) (hi : (j : Nat) = i) (hv : ls[i]? = some (some (.long x))) (k : Ex l Ω M (pc + 1) ls (.long x :: st) σ Q) : Ex l Ω M pc ls (st) σ Q := by
  intro p e s m args below meth c H locs A ls' B hP hD hS hl
  obtain ⟨hx, hb, hr, hml, hown, hts, hlocks, hK, hA, hE⟩ := id B
  exact lv_lload_n hx hb hd hi (xat hl hv) (k p e s m args below meth c H locs A ls' B hP hD hS hl)
theorem x_lload {i : Nat} {x : Int64} (hd : decode (xcc M) pc = .ok (.lload i, 2)) (hv : ls[i]? = some (some (.long x))) (k : Ex l Ω M (pc + 2) ls (.long x :: st) σ Q) : Ex l Ω M pc ls (st) σ Q := by
  intro p e s m args below meth c H locs A ls' B hP hD hS hl
  obtain ⟨hx, hb, hr, hml, hown, hts, hlocks, hK, hA, hE⟩ := id B
  exact lv_lload hx hb hd (xat hl hv) (k p e s m args below meth c H locs A ls' B hP hD hS hl)
theorem x_aload_n {j : Fin 4} {i : Nat} {x : Nat} (hd : decode (xcc M) pc = .ok (.aload_n j, 1)) (hi : (j : Nat) = i) (hv : ls[i]? = some (some (.ref x))) (k : Ex l Ω M (pc + 1) ls (.ref x :: st) σ Q) : Ex l Ω M pc ls (st) σ Q := by
  intro p e s m args below meth c H locs A ls' B hP hD hS hl
  obtain ⟨hx, hb, hr, hml, hown, hts, hlocks, hK, hA, hE⟩ := id B
  exact lv_aload_n hx hb hd hi (xat hl hv) (k p e s m args below meth c H locs A ls' B hP hD hS hl)
theorem x_aload {i : Nat} {x : Nat} (hd : decode (xcc M) pc = .ok (.aload i, 2)) (hv : ls[i]? = some (some (.ref x))) (k : Ex l Ω M (pc + 2) ls (.ref x :: st) σ Q) : Ex l Ω M pc ls (st) σ Q := by
  intro p e s m args below meth c H locs A ls' B hP hD hS hl
  obtain ⟨hx, hb, hr, hml, hown, hts, hlocks, hK, hA, hE⟩ := id B
  exact lv_aload hx hb hd (xat hl hv) (k p e s m args below meth c H locs A ls' B hP hD hS hl)
theorem x_istore_n {j : Fin 4} {i : Nat} {x : Int32} {ls2 : List (Option Value)} (hd : decode (xcc M) pc = .ok (.istore_n j, 1)) (hi : (j : Nat) = i) (hn : i < xnL M) (hs : xs1 (.int x) i ls = ls2) (k : Ex l Ω M (pc + 1) ls2 st σ Q) : Ex l Ω M pc ls (.int x :: st) σ Q := by
  intro p e s m args below meth c H locs A ls' B hP hD hS hl
  obtain ⟨hx, hb, hr, hml, hown, hts, hlocks, hK, hA, hE⟩ := id B
  exact lv_istore_n hx hb hd hi hl hn rfl (fun ls2 h2 => k p e s m args below meth c H locs A ls2 B hP hD hS (hs ▸ xhas1 (v := .int x) h2))
theorem x_istore {i : Nat} {x : Int32} {ls2 : List (Option Value)} (hd : decode (xcc M) pc = .ok (.istore i, 2)) (hn : i < xnL M) (hs : xs1 (.int x) i ls = ls2) (k : Ex l Ω M (pc + 2) ls2 st σ Q) : Ex l Ω M pc ls (.int x :: st) σ Q := by
  intro p e s m args below meth c H locs A ls' B hP hD hS hl
  obtain ⟨hx, hb, hr, hml, hown, hts, hlocks, hK, hA, hE⟩ := id B
  exact lv_istore hx hb hd hl hn rfl (fun ls2 h2 => k p e s m args below meth c H locs A ls2 B hP hD hS (hs ▸ xhas1 (v := .int x) h2))
theorem x_lstore_n {j : Fin 4} {i : Nat} {x : Int64} {ls2 : List (Option Value)} (hd : decode (xcc M) pc = .ok (.lstore_n j, 1)) (hi : (j : Nat) = i) (hn : i + 1 < xnL M) (hs : xs2 (.long x) i ls = ls2) (k : Ex l Ω M (pc + 1) ls2 st σ Q) : Ex l Ω M pc ls (.long x :: st) σ Q := by
  intro p e s m args below meth c H locs A ls' B hP hD hS hl
  obtain ⟨hx, hb, hr, hml, hown, hts, hlocks, hK, hA, hE⟩ := id B
  exact lv_lstore_n hx hb hd hi hl hn rfl (fun ls2 h2 => k p e s m args below meth c H locs A ls2 B hP hD hS (hs ▸ xhas2 (v := .long x) h2))
theorem x_lstore {i : Nat} {x : Int64} {ls2 : List (Option Value)} (hd : decode (xcc M) pc = .ok (.lstore i, 2)) (hn : i + 1 < xnL M) (hs : xs2 (.long x) i ls = ls2) (k : Ex l Ω M (pc + 2) ls2 st σ Q) : Ex l Ω M pc ls (.long x :: st) σ Q := by
  intro p e s m args below meth c H locs A ls' B hP hD hS hl
  obtain ⟨hx, hb, hr, hml, hown, hts, hlocks, hK, hA, hE⟩ := id B
  exact lv_lstore hx hb hd hl hn rfl (fun ls2 h2 => k p e s m args below meth c H locs A ls2 B hP hD hS (hs ▸ xhas2 (v := .long x) h2))
theorem x_astore_n {j : Fin 4} {i : Nat} {x : Nat} {ls2 : List (Option Value)} (hd : decode (xcc M) pc = .ok (.astore_n j, 1)) (hi : (j : Nat) = i) (hn : i < xnL M) (hs : xs1 (.ref x) i ls = ls2) (k : Ex l Ω M (pc + 1) ls2 st σ Q) : Ex l Ω M pc ls (.ref x :: st) σ Q := by
  intro p e s m args below meth c H locs A ls' B hP hD hS hl
  obtain ⟨hx, hb, hr, hml, hown, hts, hlocks, hK, hA, hE⟩ := id B
  exact lv_astore_n hx hb hd hi hl hn rfl (fun ls2 h2 => k p e s m args below meth c H locs A ls2 B hP hD hS (hs ▸ xhas1 (v := .ref x) h2))
theorem x_astore {i : Nat} {x : Nat} {ls2 : List (Option Value)} (hd : decode (xcc M) pc = .ok (.astore i, 2)) (hn : i < xnL M) (hs : xs1 (.ref x) i ls = ls2) (k : Ex l Ω M (pc + 2) ls2 st σ Q) : Ex l Ω M pc ls (.ref x :: st) σ Q := by
  intro p e s m args below meth c H locs A ls' B hP hD hS hl
  obtain ⟨hx, hb, hr, hml, hown, hts, hlocks, hK, hA, hE⟩ := id B
  exact lv_astore hx hb hd hl hn rfl (fun ls2 h2 => k p e s m args below meth c H locs A ls2 B hP hD hS (hs ▸ xhas1 (v := .ref x) h2))
theorem x_iinc {i : Nat} {n : Int} {x v : Int32} {ls2 : List (Option Value)} (hd : decode (xcc M) pc = .ok (.iinc i n, 3)) (hv : ls[i]? = some (some (.int x))) (he : x + Int32.ofInt n = v) (hn : i < xnL M) (hs : xs1 (.int v) i ls = ls2) (k : Ex l Ω M (pc + 3) ls2 st σ Q) : Ex l Ω M pc ls st σ Q := by
  intro p e s m args below meth c H locs A ls' B hP hD hS hl
  obtain ⟨hx, hb, hr, hml, hown, hts, hlocks, hK, hA, hE⟩ := id B
  obtain ⟨j, hj⟩ := List.getElem?_of_mem (xLoc_at (ad := xad Ω) ls 0 i (.int x) hv)
  rw [Nat.zero_add] at hj
  exact lv_iinc (k := j) hx hb hd hl hj he hn rfl (fun ls2 h2 => k p e s m args below meth c H locs A ls2 B hP hD hS (hs ▸ xhas1 (v := .int v) h2))
theorem x_iadd {x y : Int32} (hd : decode (xcc M) pc = .ok (.iadd, 1)) (k : Ex l Ω M (pc + 1) ls (.int (x + y) :: st) σ Q) : Ex l Ω M pc ls (.int y :: .int x :: st) σ Q := by
  intro p e s m args below meth c H locs A ls' B hP hD hS hl
  obtain ⟨hx, hb, hr, hml, hown, hts, hlocks, hK, hA, hE⟩ := id B
  exact lv_iadd hx hb hd (k p e s m args below meth c H locs A ls' B hP hD hS hl)
theorem x_isub {x y : Int32} (hd : decode (xcc M) pc = .ok (.isub, 1)) (k : Ex l Ω M (pc + 1) ls (.int (x - y) :: st) σ Q) : Ex l Ω M pc ls (.int y :: .int x :: st) σ Q := by
  intro p e s m args below meth c H locs A ls' B hP hD hS hl
  obtain ⟨hx, hb, hr, hml, hown, hts, hlocks, hK, hA, hE⟩ := id B
  exact lv_isub hx hb hd (k p e s m args below meth c H locs A ls' B hP hD hS hl)
theorem x_imul {x y : Int32} (hd : decode (xcc M) pc = .ok (.imul, 1)) (k : Ex l Ω M (pc + 1) ls (.int (x * y) :: st) σ Q) : Ex l Ω M pc ls (.int y :: .int x :: st) σ Q := by
  intro p e s m args below meth c H locs A ls' B hP hD hS hl
  obtain ⟨hx, hb, hr, hml, hown, hts, hlocks, hK, hA, hE⟩ := id B
  exact lv_imul hx hb hd (k p e s m args below meth c H locs A ls' B hP hD hS hl)
theorem x_iand {x y : Int32} (hd : decode (xcc M) pc = .ok (.iand, 1)) (k : Ex l Ω M (pc + 1) ls (.int (x &&& y) :: st) σ Q) : Ex l Ω M pc ls (.int y :: .int x :: st) σ Q := by
  intro p e s m args below meth c H locs A ls' B hP hD hS hl
  obtain ⟨hx, hb, hr, hml, hown, hts, hlocks, hK, hA, hE⟩ := id B
  exact lv_iand hx hb hd (k p e s m args below meth c H locs A ls' B hP hD hS hl)
theorem x_ior {x y : Int32} (hd : decode (xcc M) pc = .ok (.ior, 1)) (k : Ex l Ω M (pc + 1) ls (.int (x ||| y) :: st) σ Q) : Ex l Ω M pc ls (.int y :: .int x :: st) σ Q := by
  intro p e s m args below meth c H locs A ls' B hP hD hS hl
  obtain ⟨hx, hb, hr, hml, hown, hts, hlocks, hK, hA, hE⟩ := id B
  exact lv_ior hx hb hd (k p e s m args below meth c H locs A ls' B hP hD hS hl)
theorem x_ishl {x y : Int32} (hd : decode (xcc M) pc = .ok (.ishl, 1)) (k : Ex l Ω M (pc + 1) ls (.int (x <<< (y &&& 31)) :: st) σ Q) : Ex l Ω M pc ls (.int y :: .int x :: st) σ Q := by
  intro p e s m args below meth c H locs A ls' B hP hD hS hl
  obtain ⟨hx, hb, hr, hml, hown, hts, hlocks, hK, hA, hE⟩ := id B
  exact lv_ishl hx hb hd (k p e s m args below meth c H locs A ls' B hP hD hS hl)
theorem x_ishr {x y : Int32} (hd : decode (xcc M) pc = .ok (.ishr, 1)) (k : Ex l Ω M (pc + 1) ls (.int (x >>> (y &&& 31)) :: st) σ Q) : Ex l Ω M pc ls (.int y :: .int x :: st) σ Q := by
  intro p e s m args below meth c H locs A ls' B hP hD hS hl
  obtain ⟨hx, hb, hr, hml, hown, hts, hlocks, hK, hA, hE⟩ := id B
  exact lv_ishr hx hb hd (k p e s m args below meth c H locs A ls' B hP hD hS hl)
theorem x_iushr {x y : Int32} (hd : decode (xcc M) pc = .ok (.iushr, 1)) (k : Ex l Ω M (pc + 1) ls (.int ((x.toUInt32 >>> (y.toUInt32 &&& Int32.toUInt32 31)).toInt32) :: st) σ Q) : Ex l Ω M pc ls (.int y :: .int x :: st) σ Q := by
  intro p e s m args below meth c H locs A ls' B hP hD hS hl
  obtain ⟨hx, hb, hr, hml, hown, hts, hlocks, hK, hA, hE⟩ := id B
  exact lv_iushr hx hb hd rfl (k p e s m args below meth c H locs A ls' B hP hD hS hl)
theorem x_idiv {x y : Int32} (hd : decode (xcc M) pc = .ok (.idiv, 1)) (hne : ¬ y = 0) (k : Ex l Ω M (pc + 1) ls (.int (x / y) :: st) σ Q) : Ex l Ω M pc ls (.int y :: .int x :: st) σ Q := by
  intro p e s m args below meth c H locs A ls' B hP hD hS hl
  obtain ⟨hx, hb, hr, hml, hown, hts, hlocks, hK, hA, hE⟩ := id B
  exact lv_idiv hx hb hd hne (k p e s m args below meth c H locs A ls' B hP hD hS hl)
theorem x_ladd {x y : Int64} (hd : decode (xcc M) pc = .ok (.ladd, 1)) (k : Ex l Ω M (pc + 1) ls (.long (x + y) :: st) σ Q) : Ex l Ω M pc ls (.long y :: .long x :: st) σ Q := by
  intro p e s m args below meth c H locs A ls' B hP hD hS hl
  obtain ⟨hx, hb, hr, hml, hown, hts, hlocks, hK, hA, hE⟩ := id B
  exact lv_ladd hx hb hd (k p e s m args below meth c H locs A ls' B hP hD hS hl)
theorem x_lsub {x y : Int64} (hd : decode (xcc M) pc = .ok (.lsub, 1)) (k : Ex l Ω M (pc + 1) ls (.long (x - y) :: st) σ Q) : Ex l Ω M pc ls (.long y :: .long x :: st) σ Q := by
  intro p e s m args below meth c H locs A ls' B hP hD hS hl
  obtain ⟨hx, hb, hr, hml, hown, hts, hlocks, hK, hA, hE⟩ := id B
  exact lv_lsub hx hb hd (k p e s m args below meth c H locs A ls' B hP hD hS hl)
theorem x_lmul {x y : Int64} (hd : decode (xcc M) pc = .ok (.lmul, 1)) (k : Ex l Ω M (pc + 1) ls (.long (x * y) :: st) σ Q) : Ex l Ω M pc ls (.long y :: .long x :: st) σ Q := by
  intro p e s m args below meth c H locs A ls' B hP hD hS hl
  obtain ⟨hx, hb, hr, hml, hown, hts, hlocks, hK, hA, hE⟩ := id B
  exact lv_lmul hx hb hd (k p e s m args below meth c H locs A ls' B hP hD hS hl)
theorem x_land {x y : Int64} (hd : decode (xcc M) pc = .ok (.land, 1)) (k : Ex l Ω M (pc + 1) ls (.long (x &&& y) :: st) σ Q) : Ex l Ω M pc ls (.long y :: .long x :: st) σ Q := by
  intro p e s m args below meth c H locs A ls' B hP hD hS hl
  obtain ⟨hx, hb, hr, hml, hown, hts, hlocks, hK, hA, hE⟩ := id B
  exact lv_land hx hb hd (k p e s m args below meth c H locs A ls' B hP hD hS hl)
theorem x_lor {x y : Int64} (hd : decode (xcc M) pc = .ok (.lor, 1)) (k : Ex l Ω M (pc + 1) ls (.long (x ||| y) :: st) σ Q) : Ex l Ω M pc ls (.long y :: .long x :: st) σ Q := by
  intro p e s m args below meth c H locs A ls' B hP hD hS hl
  obtain ⟨hx, hb, hr, hml, hown, hts, hlocks, hK, hA, hE⟩ := id B
  exact lv_lor hx hb hd (k p e s m args below meth c H locs A ls' B hP hD hS hl)
theorem x_lcmp {x y : Int64} (hd : decode (xcc M) pc = .ok (.lcmp, 1)) (k : Ex l Ω M (pc + 1) ls (.int (lg_cmp x y) :: st) σ Q) : Ex l Ω M pc ls (.long y :: .long x :: st) σ Q := by
  intro p e s m args below meth c H locs A ls' B hP hD hS hl
  obtain ⟨hx, hb, hr, hml, hown, hts, hlocks, hK, hA, hE⟩ := id B
  exact W.lcmp hx hb hd (k p e s m args below meth c H locs A ls' B hP hD hS hl)
theorem x_i2l {x : Int32} (hd : decode (xcc M) pc = .ok (.i2l, 1)) (k : Ex l Ω M (pc + 1) ls (.long x.toInt64 :: st) σ Q) : Ex l Ω M pc ls (.int x :: st) σ Q := by
  intro p e s m args below meth c H locs A ls' B hP hD hS hl
  obtain ⟨hx, hb, hr, hml, hown, hts, hlocks, hK, hA, hE⟩ := id B
  exact lv_i2l hx hb hd rfl (k p e s m args below meth c H locs A ls' B hP hD hS hl)
theorem x_l2i {x : Int64} (hd : decode (xcc M) pc = .ok (.l2i, 1)) (k : Ex l Ω M (pc + 1) ls (.int x.toInt32 :: st) σ Q) : Ex l Ω M pc ls (.long x :: st) σ Q := by
  intro p e s m args below meth c H locs A ls' B hP hD hS hl
  obtain ⟨hx, hb, hr, hml, hown, hts, hlocks, hK, hA, hE⟩ := id B
  exact lv_l2i hx hb hd rfl (k p e s m args below meth c H locs A ls' B hP hD hS hl)
theorem x_i2b {x : Int32} (hd : decode (xcc M) pc = .ok (.i2b, 1)) (k : Ex l Ω M (pc + 1) ls (.int x.toInt8.toInt32 :: st) σ Q) : Ex l Ω M pc ls (.int x :: st) σ Q := by
  intro p e s m args below meth c H locs A ls' B hP hD hS hl
  obtain ⟨hx, hb, hr, hml, hown, hts, hlocks, hK, hA, hE⟩ := id B
  exact lv_i2b hx hb hd rfl (k p e s m args below meth c H locs A ls' B hP hD hS hl)
theorem x_i2s {x : Int32} (hd : decode (xcc M) pc = .ok (.i2s, 1)) (k : Ex l Ω M (pc + 1) ls (.int x.toInt16.toInt32 :: st) σ Q) : Ex l Ω M pc ls (.int x :: st) σ Q := by
  intro p e s m args below meth c H locs A ls' B hP hD hS hl
  obtain ⟨hx, hb, hr, hml, hown, hts, hlocks, hK, hA, hE⟩ := id B
  exact lv_i2s hx hb hd rfl (k p e s m args below meth c H locs A ls' B hP hD hS hl)
theorem x_dup {v : Value} (hd : decode (xcc M) pc = .ok (.dup, 1)) (hc : v.category = 1) (k : Ex l Ω M (pc + 1) ls (v :: v :: st) σ Q) : Ex l Ω M pc ls (v :: st) σ Q := by
  intro p e s m args below meth c H locs A ls' B hP hD hS hl
  obtain ⟨hx, hb, hr, hml, hown, hts, hlocks, hK, hA, hE⟩ := id B
  exact lv_dup hx hb hd ((xv_cat _ _).trans hc) (k p e s m args below meth c H locs A ls' B hP hD hS hl)
theorem x_dup2 {v u : Value} (hd : decode (xcc M) pc = .ok (.dup2, 1)) (hc : v.category = 1) (hc2 : u.category = 1) (k : Ex l Ω M (pc + 1) ls (v :: u :: v :: u :: st) σ Q) : Ex l Ω M pc ls (v :: u :: st) σ Q := by
  intro p e s m args below meth c H locs A ls' B hP hD hS hl
  obtain ⟨hx, hb, hr, hml, hown, hts, hlocks, hK, hA, hE⟩ := id B
  exact lv_dup2_11 hx hb hd ((xv_cat _ _).trans hc) ((xv_cat _ _).trans hc2) (k p e s m args below meth c H locs A ls' B hP hD hS hl)
theorem x_pop {v : Value} (hd : decode (xcc M) pc = .ok (.pop, 1)) (hc : v.category = 1) (k : Ex l Ω M (pc + 1) ls st σ Q) : Ex l Ω M pc ls (v :: st) σ Q := by
  intro p e s m args below meth c H locs A ls' B hP hD hS hl
  obtain ⟨hx, hb, hr, hml, hown, hts, hlocks, hK, hA, hE⟩ := id B
  exact lv_pop hx hb hd ((xv_cat _ _).trans hc) (k p e s m args below meth c H locs A ls' B hP hD hS hl)
theorem x_ifeq {x : Int32} {off : Int} {tgt : Nat} (hd : decode (xcc M) pc = .ok (.ifCond .eq off, 3)) (ht : (pc : Int) + off = (tgt : Int)) (kt : x = 0 → Ex l Ω M tgt ls st σ Q) (kf : ¬ x = 0 → Ex l Ω M (pc + 3) ls st σ Q) : Ex l Ω M pc ls (.int x :: st) σ Q := by
  intro p e s m args below meth c H locs A ls' B hP hD hS hl
  obtain ⟨hx, hb, hr, hml, hown, hts, hlocks, hK, hA, hE⟩ := id B
  exact lv_if_eq hx hb hd ht (fun h => kt h p e s m args below meth c H locs A ls' B hP hD hS hl) (fun h => kf h p e s m args below meth c H locs A ls' B hP hD hS hl)
theorem x_ifne {x : Int32} {off : Int} {tgt : Nat} (hd : decode (xcc M) pc = .ok (.ifCond .ne off, 3)) (ht : (pc : Int) + off = (tgt : Int)) (kt : ¬ x = 0 → Ex l Ω M tgt ls st σ Q) (kf : x = 0 → Ex l Ω M (pc + 3) ls st σ Q) : Ex l Ω M pc ls (.int x :: st) σ Q := by
  intro p e s m args below meth c H locs A ls' B hP hD hS hl
  obtain ⟨hx, hb, hr, hml, hown, hts, hlocks, hK, hA, hE⟩ := id B
  exact lv_if_ne hx hb hd ht (fun h => kt h p e s m args below meth c H locs A ls' B hP hD hS hl) (fun h => kf h p e s m args below meth c H locs A ls' B hP hD hS hl)
theorem x_iflt {x : Int32} {off : Int} {tgt : Nat} (hd : decode (xcc M) pc = .ok (.ifCond .lt off, 3)) (ht : (pc : Int) + off = (tgt : Int)) (kt : x < 0 → Ex l Ω M tgt ls st σ Q) (kf : ¬ x < 0 → Ex l Ω M (pc + 3) ls st σ Q) : Ex l Ω M pc ls (.int x :: st) σ Q := by
  intro p e s m args below meth c H locs A ls' B hP hD hS hl
  obtain ⟨hx, hb, hr, hml, hown, hts, hlocks, hK, hA, hE⟩ := id B
  exact lv_if_lt hx hb hd ht (fun h => kt h p e s m args below meth c H locs A ls' B hP hD hS hl) (fun h => kf h p e s m args below meth c H locs A ls' B hP hD hS hl)
theorem x_ifge {x : Int32} {off : Int} {tgt : Nat} (hd : decode (xcc M) pc = .ok (.ifCond .ge off, 3)) (ht : (pc : Int) + off = (tgt : Int)) (kt : 0 ≤ x → Ex l Ω M tgt ls st σ Q) (kf : ¬ 0 ≤ x → Ex l Ω M (pc + 3) ls st σ Q) : Ex l Ω M pc ls (.int x :: st) σ Q := by
  intro p e s m args below meth c H locs A ls' B hP hD hS hl
  obtain ⟨hx, hb, hr, hml, hown, hts, hlocks, hK, hA, hE⟩ := id B
  exact lv_if_ge hx hb hd ht (fun h => kt h p e s m args below meth c H locs A ls' B hP hD hS hl) (fun h => kf h p e s m args below meth c H locs A ls' B hP hD hS hl)
theorem x_ifgt {x : Int32} {off : Int} {tgt : Nat} (hd : decode (xcc M) pc = .ok (.ifCond .gt off, 3)) (ht : (pc : Int) + off = (tgt : Int)) (kt : 0 < x → Ex l Ω M tgt ls st σ Q) (kf : ¬ 0 < x → Ex l Ω M (pc + 3) ls st σ Q) : Ex l Ω M pc ls (.int x :: st) σ Q := by
  intro p e s m args below meth c H locs A ls' B hP hD hS hl
  obtain ⟨hx, hb, hr, hml, hown, hts, hlocks, hK, hA, hE⟩ := id B
  exact lv_if_gt hx hb hd ht (fun h => kt h p e s m args below meth c H locs A ls' B hP hD hS hl) (fun h => kf h p e s m args below meth c H locs A ls' B hP hD hS hl)
theorem x_ifle {x : Int32} {off : Int} {tgt : Nat} (hd : decode (xcc M) pc = .ok (.ifCond .le off, 3)) (ht : (pc : Int) + off = (tgt : Int)) (kt : x ≤ 0 → Ex l Ω M tgt ls st σ Q) (kf : ¬ x ≤ 0 → Ex l Ω M (pc + 3) ls st σ Q) : Ex l Ω M pc ls (.int x :: st) σ Q := by
  intro p e s m args below meth c H locs A ls' B hP hD hS hl
  obtain ⟨hx, hb, hr, hml, hown, hts, hlocks, hK, hA, hE⟩ := id B
  exact lv_if_le hx hb hd ht (fun h => kt h p e s m args below meth c H locs A ls' B hP hD hS hl) (fun h => kf h p e s m args below meth c H locs A ls' B hP hD hS hl)
theorem x_iceq {x y : Int32} {off : Int} {tgt : Nat} (hd : decode (xcc M) pc = .ok (.if_icmp .eq off, 3)) (ht : (pc : Int) + off = (tgt : Int)) (kt : x = y → Ex l Ω M tgt ls st σ Q) (kf : ¬ x = y → Ex l Ω M (pc + 3) ls st σ Q) : Ex l Ω M pc ls (.int y :: .int x :: st) σ Q := by
  intro p e s m args below meth c H locs A ls' B hP hD hS hl
  obtain ⟨hx, hb, hr, hml, hown, hts, hlocks, hK, hA, hE⟩ := id B
  exact lv_icmp_eq hx hb hd ht (fun h => kt h p e s m args below meth c H locs A ls' B hP hD hS hl) (fun h => kf h p e s m args below meth c H locs A ls' B hP hD hS hl)
theorem x_icne {x y : Int32} {off : Int} {tgt : Nat} (hd : decode (xcc M) pc = .ok (.if_icmp .ne off, 3)) (ht : (pc : Int) + off = (tgt : Int)) (kt : ¬ x = y → Ex l Ω M tgt ls st σ Q) (kf : x = y → Ex l Ω M (pc + 3) ls st σ Q) : Ex l Ω M pc ls (.int y :: .int x :: st) σ Q := by
  intro p e s m args below meth c H locs A ls' B hP hD hS hl
  obtain ⟨hx, hb, hr, hml, hown, hts, hlocks, hK, hA, hE⟩ := id B
  exact lv_icmp_ne hx hb hd ht (fun h => kt h p e s m args below meth c H locs A ls' B hP hD hS hl) (fun h => kf h p e s m args below meth c H locs A ls' B hP hD hS hl)
theorem x_iclt {x y : Int32} {off : Int} {tgt : Nat} (hd : decode (xcc M) pc = .ok (.if_icmp .lt off, 3)) (ht : (pc : Int) + off = (tgt : Int)) (kt : x < y → Ex l Ω M tgt ls st σ Q) (kf : ¬ x < y → Ex l Ω M (pc + 3) ls st σ Q) : Ex l Ω M pc ls (.int y :: .int x :: st) σ Q := by
  intro p e s m args below meth c H locs A ls' B hP hD hS hl
  obtain ⟨hx, hb, hr, hml, hown, hts, hlocks, hK, hA, hE⟩ := id B
  exact lv_icmp_lt hx hb hd ht (fun h => kt h p e s m args below meth c H locs A ls' B hP hD hS hl) (fun h => kf h p e s m args below meth c H locs A ls' B hP hD hS hl)
theorem x_icge {x y : Int32} {off : Int} {tgt : Nat} (hd : decode (xcc M) pc = .ok (.if_icmp .ge off, 3)) (ht : (pc : Int) + off = (tgt : Int)) (kt : y ≤ x → Ex l Ω M tgt ls st σ Q) (kf : ¬ y ≤ x → Ex l Ω M (pc + 3) ls st σ Q) : Ex l Ω M pc ls (.int y :: .int x :: st) σ Q := by
  intro p e s m args below meth c H locs A ls' B hP hD hS hl
  obtain ⟨hx, hb, hr, hml, hown, hts, hlocks, hK, hA, hE⟩ := id B
  exact lv_icmp_ge hx hb hd ht (fun h => kt h p e s m args below meth c H locs A ls' B hP hD hS hl) (fun h => kf h p e s m args below meth c H locs A ls' B hP hD hS hl)
theorem x_icgt {x y : Int32} {off : Int} {tgt : Nat} (hd : decode (xcc M) pc = .ok (.if_icmp .gt off, 3)) (ht : (pc : Int) + off = (tgt : Int)) (kt : y < x → Ex l Ω M tgt ls st σ Q) (kf : ¬ y < x → Ex l Ω M (pc + 3) ls st σ Q) : Ex l Ω M pc ls (.int y :: .int x :: st) σ Q := by
  intro p e s m args below meth c H locs A ls' B hP hD hS hl
  obtain ⟨hx, hb, hr, hml, hown, hts, hlocks, hK, hA, hE⟩ := id B
  exact lv_icmp_gt hx hb hd ht (fun h => kt h p e s m args below meth c H locs A ls' B hP hD hS hl) (fun h => kf h p e s m args below meth c H locs A ls' B hP hD hS hl)
theorem x_icle {x y : Int32} {off : Int} {tgt : Nat} (hd : decode (xcc M) pc = .ok (.if_icmp .le off, 3)) (ht : (pc : Int) + off = (tgt : Int)) (kt : x ≤ y → Ex l Ω M tgt ls st σ Q) (kf : ¬ x ≤ y → Ex l Ω M (pc + 3) ls st σ Q) : Ex l Ω M pc ls (.int y :: .int x :: st) σ Q := by
  intro p e s m args below meth c H locs A ls' B hP hD hS hl
  obtain ⟨hx, hb, hr, hml, hown, hts, hlocks, hK, hA, hE⟩ := id B
  exact lv_icmp_le hx hb hd ht (fun h => kt h p e s m args below meth c H locs A ls' B hP hD hS hl) (fun h => kf h p e s m args below meth c H locs A ls' B hP hD hS hl)
theorem x_goto {off : Int} {tgt : Nat} (hd : decode (xcc M) pc = .ok (.goto off, 3)) (ht : (pc : Int) + off = (tgt : Int)) (k : Ex l Ω M tgt ls st σ Q) : Ex l Ω M pc ls (st) σ Q := by
  intro p e s m args below meth c H locs A ls' B hP hD hS hl
  obtain ⟨hx, hb, hr, hml, hown, hts, hlocks, hK, hA, hE⟩ := id B
  exact lv_goto hx hb hd ht (k p e s m args below meth c H locs A ls' B hP hD hS hl)
theorem x_tsw3 {x : Int32} {dflt lo hi : Int} {offs : Array Int} {len : Nat} (v0 v1 v2 : Int32) (t0 t1 t2 td : Nat) (hd : decode (xcc M) pc = .ok (.tableswitch dflt lo hi offs, len)) (hh : hi = lo + 2) (hv : v0.toInt = lo + 0 ∧ offs[0]? = some ((t0 : Int) - pc) ∧ v1.toInt = lo + 1 ∧ offs[1]? = some ((t1 : Int) - pc) ∧ v2.toInt = lo + 2 ∧ offs[2]? = some ((t2 : Int) - pc) ∧ (pc : Int) + dflt = (td : Int)) (k0 : x = v0 → Ex l Ω M t0 ls st σ Q) (k1 : x = v1 → Ex l Ω M t1 ls st σ Q) (k2 : x = v2 → Ex l Ω M t2 ls st σ Q) (kd : x ≠ v0 → x ≠ v1 → x ≠ v2 → Ex l Ω M td ls st σ Q) : Ex l Ω M pc ls (.int x :: st) σ Q := by
  intro p e s m args below meth c H locs A ls' B hP hD hS hl
  obtain ⟨hx, hb, hr, hml, hown, hts, hlocks, hK, hA, hE⟩ := id B
  obtain ⟨a0, b0, a1, b1, a2, b2, htd⟩ := hv
  by_cases h0 : x = v0
  · exact lv_tableIn (off := (t0 : Int) - pc) (tgt := t0) hx hb hd (by rw [h0, a0]; omega) (by rw [h0, a0, hh]; omega) (by rw [h0, a0, show (lo + 0 - lo).toNat = 0 by omega]; exact b0) (by omega) (k0 h0 p e s m args below meth c H locs A ls' B hP hD hS hl)
  by_cases h1 : x = v1
  · exact lv_tableIn (off := (t1 : Int) - pc) (tgt := t1) hx hb hd (by rw [h1, a1]; omega) (by rw [h1, a1, hh]; omega) (by rw [h1, a1, show (lo + 1 - lo).toNat = 1 by omega]; exact b1) (by omega) (k1 h1 p e s m args below meth c H locs A ls' B hP hD hS hl)
  by_cases h2 : x = v2
  · exact lv_tableIn (off := (t2 : Int) - pc) (tgt := t2) hx hb hd (by rw [h2, a2]; omega) (by rw [h2, a2, hh]; omega) (by rw [h2, a2, show (lo + 2 - lo).toNat = 2 by omega]; exact b2) (by omega) (k2 h2 p e s m args below meth c H locs A ls' B hP hD hS hl)
  refine lv_tableOut (tgt := td) hx hb hd ?_ htd (kd h0 h1 h2 p e s m args below meth c H locs A ls' B hP hD hS hl)
  have g0 : ¬ x.toInt = lo + 0 := fun z => h0 (Int32.toInt_inj.mp (z.trans a0.symm))
  have g1 : ¬ x.toInt = lo + 1 := fun z => h1 (Int32.toInt_inj.mp (z.trans a1.symm))
  have g2 : ¬ x.toInt = lo + 2 := fun z => h2 (Int32.toInt_inj.mp (z.trans a2.symm))
  rw [hh]
  omega
theorem x_tsw4 {x : Int32} {dflt lo hi : Int} {offs : Array Int} {len : Nat} (v0 v1 v2 v3 : Int32) (t0 t1 t2 t3 td : Nat) (hd : decode (xcc M) pc = .ok (.tableswitch dflt lo hi offs, len)) (hh : hi = lo + 3) (hv : v0.toInt = lo + 0 ∧ offs[0]? = some ((t0 : Int) - pc) ∧ v1.toInt = lo + 1 ∧ offs[1]? = some ((t1 : Int) - pc) ∧ v2.toInt = lo + 2 ∧ offs[2]? = some ((t2 : Int) - pc) ∧ v3.toInt = lo + 3 ∧ offs[3]? = some ((t3 : Int) - pc) ∧ (pc : Int) + dflt = (td : Int)) (k0 : x = v0 → Ex l Ω M t0 ls st σ Q) (k1 : x = v1 → Ex l Ω M t1 ls st σ Q) (k2 : x = v2 → Ex l Ω M t2 ls st σ Q) (k3 : x = v3 → Ex l Ω M t3 ls st σ Q) (kd : x ≠ v0 → x ≠ v1 → x ≠ v2 → x ≠ v3 → Ex l Ω M td ls st σ Q) : Ex l Ω M pc ls (.int x :: st) σ Q := by
  intro p e s m args below meth c H locs A ls' B hP hD hS hl
  obtain ⟨hx, hb, hr, hml, hown, hts, hlocks, hK, hA, hE⟩ := id B
  obtain ⟨a0, b0, a1, b1, a2, b2, a3, b3, htd⟩ := hv
  by_cases h0 : x = v0
  · exact lv_tableIn (off := (t0 : Int) - pc) (tgt := t0) hx hb hd (by rw [h0, a0]; omega) (by rw [h0, a0, hh]; omega) (by rw [h0, a0, show (lo + 0 - lo).toNat = 0 by omega]; exact b0) (by omega) (k0 h0 p e s m args below meth c H locs A ls' B hP hD hS hl)
  by_cases h1 : x = v1
  · exact lv_tableIn (off := (t1 : Int) - pc) (tgt := t1) hx hb hd (by rw [h1, a1]; omega) (by rw [h1, a1, hh]; omega) (by rw [h1, a1, show (lo + 1 - lo).toNat = 1 by omega]; exact b1) (by omega) (k1 h1 p e s m args below meth c H locs A ls' B hP hD hS hl)
  by_cases h2 : x = v2
  · exact lv_tableIn (off := (t2 : Int) - pc) (tgt := t2) hx hb hd (by rw [h2, a2]; omega) (by rw [h2, a2, hh]; omega) (by rw [h2, a2, show (lo + 2 - lo).toNat = 2 by omega]; exact b2) (by omega) (k2 h2 p e s m args below meth c H locs A ls' B hP hD hS hl)
  by_cases h3 : x = v3
  · exact lv_tableIn (off := (t3 : Int) - pc) (tgt := t3) hx hb hd (by rw [h3, a3]; omega) (by rw [h3, a3, hh]; omega) (by rw [h3, a3, show (lo + 3 - lo).toNat = 3 by omega]; exact b3) (by omega) (k3 h3 p e s m args below meth c H locs A ls' B hP hD hS hl)
  refine lv_tableOut (tgt := td) hx hb hd ?_ htd (kd h0 h1 h2 h3 p e s m args below meth c H locs A ls' B hP hD hS hl)
  have g0 : ¬ x.toInt = lo + 0 := fun z => h0 (Int32.toInt_inj.mp (z.trans a0.symm))
  have g1 : ¬ x.toInt = lo + 1 := fun z => h1 (Int32.toInt_inj.mp (z.trans a1.symm))
  have g2 : ¬ x.toInt = lo + 2 := fun z => h2 (Int32.toInt_inj.mp (z.trans a2.symm))
  have g3 : ¬ x.toInt = lo + 3 := fun z => h3 (Int32.toInt_inj.mp (z.trans a3.symm))
  rw [hh]
  omega
theorem x_tsw5 {x : Int32} {dflt lo hi : Int} {offs : Array Int} {len : Nat} (v0 v1 v2 v3 v4 : Int32) (t0 t1 t2 t3 t4 td : Nat) (hd : decode (xcc M) pc = .ok (.tableswitch dflt lo hi offs, len)) (hh : hi = lo + 4) (hv : v0.toInt = lo + 0 ∧ offs[0]? = some ((t0 : Int) - pc) ∧ v1.toInt = lo + 1 ∧ offs[1]? = some ((t1 : Int) - pc) ∧ v2.toInt = lo + 2 ∧ offs[2]? = some ((t2 : Int) - pc) ∧ v3.toInt = lo + 3 ∧ offs[3]? = some ((t3 : Int) - pc) ∧ v4.toInt = lo + 4 ∧ offs[4]? = some ((t4 : Int) - pc) ∧ (pc : Int) + dflt = (td : Int)) (k0 : x = v0 → Ex l Ω M t0 ls st σ Q) (k1 : x = v1 → Ex l Ω M t1 ls st σ Q) (k2 : x = v2 → Ex l Ω M t2 ls st σ Q) (k3 : x = v3 → Ex l Ω M t3 ls st σ Q) (k4 : x = v4 → Ex l Ω M t4 ls st σ Q) (kd : x ≠ v0 → x ≠ v1 → x ≠ v2 → x ≠ v3 → x ≠ v4 → Ex l Ω M td ls st σ Q) : Ex l Ω M pc ls (.int x :: st) σ Q := by
  intro p e s m args below meth c H locs A ls' B hP hD hS hl
  obtain ⟨hx, hb, hr, hml, hown, hts, hlocks, hK, hA, hE⟩ := id B
  obtain ⟨a0, b0, a1, b1, a2, b2, a3, b3, a4, b4, htd⟩ := hv
  by_cases h0 : x = v0
  · exact lv_tableIn (off := (t0 : Int) - pc) (tgt := t0) hx hb hd (by rw [h0, a0]; omega) (by rw [h0, a0, hh]; omega) (by rw [h0, a0, show (lo + 0 - lo).toNat = 0 by omega]; exact b0) (by omega) (k0 h0 p e s m args below meth c H locs A ls' B hP hD hS hl)
  by_cases h1 : x = v1
  · exact lv_tableIn (off := (t1 : Int) - pc) (tgt := t1) hx hb hd (by rw [h1, a1]; omega) (by rw [h1, a1, hh]; omega) (by rw [h1, a1, show (lo + 1 - lo).toNat = 1 by omega]; exact b1) (by omega) (k1 h1 p e s m args below meth c H locs A ls' B hP hD hS hl)
  by_cases h2 : x = v2
  · exact lv_tableIn (off := (t2 : Int) - pc) (tgt := t2) hx hb hd (by rw [h2, a2]; omega) (by rw [h2, a2, hh]; omega) (by rw [h2, a2, show (lo + 2 - lo).toNat = 2 by omega]; exact b2) (by omega) (k2 h2 p e s m args below meth c H locs A ls' B hP hD hS hl)
  by_cases h3 : x = v3
  · exact lv_tableIn (off := (t3 : Int) - pc) (tgt := t3) hx hb hd (by rw [h3, a3]; omega) (by rw [h3, a3, hh]; omega) (by rw [h3, a3, show (lo + 3 - lo).toNat = 3 by omega]; exact b3) (by omega) (k3 h3 p e s m args below meth c H locs A ls' B hP hD hS hl)
  by_cases h4 : x = v4
  · exact lv_tableIn (off := (t4 : Int) - pc) (tgt := t4) hx hb hd (by rw [h4, a4]; omega) (by rw [h4, a4, hh]; omega) (by rw [h4, a4, show (lo + 4 - lo).toNat = 4 by omega]; exact b4) (by omega) (k4 h4 p e s m args below meth c H locs A ls' B hP hD hS hl)
  refine lv_tableOut (tgt := td) hx hb hd ?_ htd (kd h0 h1 h2 h3 h4 p e s m args below meth c H locs A ls' B hP hD hS hl)
  have g0 : ¬ x.toInt = lo + 0 := fun z => h0 (Int32.toInt_inj.mp (z.trans a0.symm))
  have g1 : ¬ x.toInt = lo + 1 := fun z => h1 (Int32.toInt_inj.mp (z.trans a1.symm))
  have g2 : ¬ x.toInt = lo + 2 := fun z => h2 (Int32.toInt_inj.mp (z.trans a2.symm))
  have g3 : ¬ x.toInt = lo + 3 := fun z => h3 (Int32.toInt_inj.mp (z.trans a3.symm))
  have g4 : ¬ x.toInt = lo + 4 := fun z => h4 (Int32.toInt_inj.mp (z.trans a4.symm))
  rw [hh]
  omega
theorem x_tsw6 {x : Int32} {dflt lo hi : Int} {offs : Array Int} {len : Nat} (v0 v1 v2 v3 v4 v5 : Int32) (t0 t1 t2 t3 t4 t5 td : Nat) (hd : decode (xcc M) pc = .ok (.tableswitch dflt lo hi offs, len)) (hh : hi = lo + 5) (hv : v0.toInt = lo + 0 ∧ offs[0]? = some ((t0 : Int) - pc) ∧ v1.toInt = lo + 1 ∧ offs[1]? = some ((t1 : Int) - pc) ∧ v2.toInt = lo + 2 ∧ offs[2]? = some ((t2 : Int) - pc) ∧ v3.toInt = lo + 3 ∧ offs[3]? = some ((t3 : Int) - pc) ∧ v4.toInt = lo + 4 ∧ offs[4]? = some ((t4 : Int) - pc) ∧ v5.toInt = lo + 5 ∧ offs[5]? = some ((t5 : Int) - pc) ∧ (pc : Int) + dflt = (td : Int)) (k0 : x = v0 → Ex l Ω M t0 ls st σ Q) (k1 : x = v1 → Ex l Ω M t1 ls st σ Q) (k2 : x = v2 → Ex l Ω M t2 ls st σ Q) (k3 : x = v3 → Ex l Ω M t3 ls st σ Q) (k4 : x = v4 → Ex l Ω M t4 ls st σ Q) (k5 : x = v5 → Ex l Ω M t5 ls st σ Q) (kd : x ≠ v0 → x ≠ v1 → x ≠ v2 → x ≠ v3 → x ≠ v4 → x ≠ v5 → Ex l Ω M td ls st σ Q) : Ex l Ω M pc ls (.int x :: st) σ Q := by
  intro p e s m args below meth c H locs A ls' B hP hD hS hl
  obtain ⟨hx, hb, hr, hml, hown, hts, hlocks, hK, hA, hE⟩ := id B
  obtain ⟨a0, b0, a1, b1, a2, b2, a3, b3, a4, b4, a5, b5, htd⟩ := hv
  by_cases h0 : x = v0
  · exact lv_tableIn (off := (t0 : Int) - pc) (tgt := t0) hx hb hd (by rw [h0, a0]; omega) (by rw [h0, a0, hh]; omega) (by rw [h0, a0, show (lo + 0 - lo).toNat = 0 by omega]; exact b0) (by omega) (k0 h0 p e s m args below meth c H locs A ls' B hP hD hS hl)
  by_cases h1 : x = v1
  · exact lv_tableIn (off := (t1 : Int) - pc) (tgt := t1) hx hb hd (by rw [h1, a1]; omega) (by rw [h1, a1, hh]; omega) (by rw [h1, a1, show (lo + 1 - lo).toNat = 1 by omega]; exact b1) (by omega) (k1 h1 p e s m args below meth c H locs A ls' B hP hD hS hl)
  by_cases h2 : x = v2
  · exact lv_tableIn (off := (t2 : Int) - pc) (tgt := t2) hx hb hd (by rw [h2, a2]; omega) (by rw [h2, a2, hh]; omega) (by rw [h2, a2, show (lo + 2 - lo).toNat = 2 by omega]; exact b2) (by omega) (k2 h2 p e s m args below meth c H locs A ls' B hP hD hS hl)
  by_cases h3 : x = v3
  · exact lv_tableIn (off := (t3 : Int) - pc) (tgt := t3) hx hb hd (by rw [h3, a3]; omega) (by rw [h3, a3, hh]; omega) (by rw [h3, a3, show (lo + 3 - lo).toNat = 3 by omega]; exact b3) (by omega) (k3 h3 p e s m args below meth c H locs A ls' B hP hD hS hl)
  by_cases h4 : x = v4
  · exact lv_tableIn (off := (t4 : Int) - pc) (tgt := t4) hx hb hd (by rw [h4, a4]; omega) (by rw [h4, a4, hh]; omega) (by rw [h4, a4, show (lo + 4 - lo).toNat = 4 by omega]; exact b4) (by omega) (k4 h4 p e s m args below meth c H locs A ls' B hP hD hS hl)
  by_cases h5 : x = v5
  · exact lv_tableIn (off := (t5 : Int) - pc) (tgt := t5) hx hb hd (by rw [h5, a5]; omega) (by rw [h5, a5, hh]; omega) (by rw [h5, a5, show (lo + 5 - lo).toNat = 5 by omega]; exact b5) (by omega) (k5 h5 p e s m args below meth c H locs A ls' B hP hD hS hl)
  refine lv_tableOut (tgt := td) hx hb hd ?_ htd (kd h0 h1 h2 h3 h4 h5 p e s m args below meth c H locs A ls' B hP hD hS hl)
  have g0 : ¬ x.toInt = lo + 0 := fun z => h0 (Int32.toInt_inj.mp (z.trans a0.symm))
  have g1 : ¬ x.toInt = lo + 1 := fun z => h1 (Int32.toInt_inj.mp (z.trans a1.symm))
  have g2 : ¬ x.toInt = lo + 2 := fun z => h2 (Int32.toInt_inj.mp (z.trans a2.symm))
  have g3 : ¬ x.toInt = lo + 3 := fun z => h3 (Int32.toInt_inj.mp (z.trans a3.symm))
  have g4 : ¬ x.toInt = lo + 4 := fun z => h4 (Int32.toInt_inj.mp (z.trans a4.symm))
  have g5 : ¬ x.toInt = lo + 5 := fun z => h5 (Int32.toInt_inj.mp (z.trans a5.symm))
  rw [hh]
  omega
theorem x_geti {q ci i idx N : Nat} {fs : List xF} {C : String} {T : u_T} (hd : decode (xcc M) pc = .ok (.getfield idx, 3)) (hs : (xsh Ω)[q]? = some (.inr (ci, fs))) (hf : fs[i]? = some (.inl false)) (hc : vwCl[ci]? = some (C, T, N)) (hi : i < N) (hlk : Cond.fieldLink (xy M).cls idx (T i).1 (T i).2.1 (T i).2.2.1 ∈ gt) (hin : ∀ w ∈ u_ws C T N, w ∈ gt) (k : Ex l Ω M (pc + 3) ls (.int (σ.1 q i) :: st) σ Q) : Ex l Ω M pc ls (.ref q :: st) σ Q := by
  intro p e_ s m args below meth c H locs A ls' B hP hD hS hl
  obtain ⟨hx, hb, hr, hml, hown, hts, hlocks, hK, hA, hE⟩ := id B
  exact va_get (D := xD Ω) (ci := ci) (v := .int (σ.1 q i)) (C := C) (T := T) (N := N) hx hb hts hin hown hK hP q (xw_get hs) hc i hi (hts _ hlk) (fun _ h9 => h9) (by rw [List.getElem?_mapIdx, hf]; rfl) hd (k p e_ s m args below meth c H locs A ls' B hP hD hS hl)
theorem x_getl {q ci i idx N : Nat} {fs : List xF} {C : String} {T : u_T} (hd : decode (xcc M) pc = .ok (.getfield idx, 3)) (hs : (xsh Ω)[q]? = some (.inr (ci, fs))) (hf : fs[i]? = some (.inl true)) (hc : vwCl[ci]? = some (C, T, N)) (hi : i < N) (hlk : Cond.fieldLink (xy M).cls idx (T i).1 (T i).2.1 (T i).2.2.1 ∈ gt) (hin : ∀ w ∈ u_ws C T N, w ∈ gt) (k : Ex l Ω M (pc + 3) ls (.long (σ.2 q i) :: st) σ Q) : Ex l Ω M pc ls (.ref q :: st) σ Q := by
  intro p e_ s m args below meth c H locs A ls' B hP hD hS hl
  obtain ⟨hx, hb, hr, hml, hown, hts, hlocks, hK, hA, hE⟩ := id B
  exact va_get (D := xD Ω) (ci := ci) (v := .long (σ.2 q i)) (C := C) (T := T) (N := N) hx hb hts hin hown hK hP q (xw_get hs) hc i hi (hts _ hlk) (fun _ h9 => h9) (by rw [List.getElem?_mapIdx, hf]; rfl) hd (k p e_ s m args below meth c H locs A ls' B hP hD hS hl)
theorem x_getr {q ci i r idx N : Nat} {fs : List xF} {C : String} {T : u_T} (hd : decode (xcc M) pc = .ok (.getfield idx, 3)) (hs : (xsh Ω)[q]? = some (.inr (ci, fs))) (hf : fs[i]? = some (.inr r)) (hc : vwCl[ci]? = some (C, T, N)) (hi : i < N) (hlk : Cond.fieldLink (xy M).cls idx (T i).1 (T i).2.1 (T i).2.2.1 ∈ gt) (hin : ∀ w ∈ u_ws C T N, w ∈ gt) (k : Ex l Ω M (pc + 3) ls (.ref r :: st) σ Q) : Ex l Ω M pc ls (.ref q :: st) σ Q := by
  intro p e_ s m args below meth c H locs A ls' B hP hD hS hl
  obtain ⟨hx, hb, hr, hml, hown, hts, hlocks, hK, hA, hE⟩ := id B
  exact va_get (D := xD Ω) (ci := ci) (v := .ref (xad Ω r)) (C := C) (T := T) (N := N) hx hb hts hin hown hK hP q (xw_get hs) hc i hi (hts _ hlk) (fun _ h9 => h9) (by rw [List.getElem?_mapIdx, hf]; rfl) hd (k p e_ s m args below meth c H locs A ls' B hP hD hS hl)
theorem xput_i {q ci i : Nat} {fs : List xF} (ad : Nat → Nat) (v : Int32) (hf : fs[i]? = some (.inl false)) : (fs.mapIdx (fun j f => xfv ad σ q j f)).set i (.int v) = fs.mapIdx (fun j f => xfv ad (xpi σ q i v) q j f) := by
  apply List.ext_getElem?
  intro j
  rw [List.getElem?_set]
  by_cases hj : i = j
  · subst hj
    have hlt : i < fs.length := (List.getElem?_eq_some_iff.mp hf).1
    have he : fs[i] = .inl false := (List.getElem?_eq_some_iff.mp hf).2
    simp [List.getElem?_mapIdx, hlt, he, xfv, xui, upd]
  · rw [if_neg hj, List.getElem?_mapIdx, List.getElem?_mapIdx]
    cases hq : fs[j]? with
    | none => rfl
    | some f =>
      rcases f with b | r
      · cases b
        · simp [xfv, xui, upd, Ne.symm hj]
        · simp [xfv, xui]
      · rfl
theorem xput_l {q ci i : Nat} {fs : List xF} (ad : Nat → Nat) (v : Int64) (hf : fs[i]? = some (.inl true)) : (fs.mapIdx (fun j f => xfv ad σ q j f)).set i (.long v) = fs.mapIdx (fun j f => xfv ad (xpl σ q i v) q j f) := by
  apply List.ext_getElem?
  intro j
  rw [List.getElem?_set]
  by_cases hj : i = j
  · subst hj
    have hlt : i < fs.length := (List.getElem?_eq_some_iff.mp hf).1
    have he : fs[i] = .inl true := (List.getElem?_eq_some_iff.mp hf).2
    simp [List.getElem?_mapIdx, hlt, he, xfv, xul, vp_updL]
  · rw [if_neg hj, List.getElem?_mapIdx, List.getElem?_mapIdx]
    cases hq : fs[j]? with
    | none => rfl
    | some f =>
      rcases f with b | r
      · cases b
        · simp [xfv, xul]
        · simp [xfv, xul, vp_updL, Ne.symm hj]
      · rfl
theorem x_puti {q ci i idx N : Nat} {fs : List xF} {C : String} {T : u_T} {ty0 : Nat → FieldType} {ty : FieldType} {v : Int32} (hd : decode (xcc M) pc = .ok (.putfield idx, 3)) (hs : (xsh Ω)[q]? = some (.inr (ci, fs))) (hf : fs[i]? = some (.inl false)) (hc : vwCl[ci]? = some (C, T, N)) (hi : i < N) (hlk : Cond.fieldLink (xy M).cls idx (T i).1 (T i).2.1 (T i).2.2.1 ∈ gt) (hin : ∀ w ∈ u_ws C T N, w ∈ gt) (hty : ∀ k, k < N → parseFieldDescriptor (T k).2.2.1 = some (ty0 k)) (hnm : ∀ a, a < N → ∀ b, b < N → a ≠ b → (T a).2.1 ≠ (T b).2.1) (hfin : (T i).2.2.2 = false) (ht : ty0 i = ty) (hn : narrow ty (.int v) = .int v) (hfit : fits ty (.int v) = true) (k : Ex l Ω M (pc + 3) ls st (xpi σ q i v) Q) : Ex l Ω M pc ls (.int v :: .ref q :: st) σ Q := by
  intro p e_ s m args below meth c H locs A ls' B hP hD hS hl
  obtain ⟨hx, hb, hr, hml, hown, hts, hlocks, hK, hA, hE⟩ := id B
  have hlt : i < fs.length := (List.getElem?_eq_some_iff.mp hf).1
  refine va_put (D := xD Ω) (ci := ci) (v := .int v) (ty := ty) (C := C) (T := T) (N := N) hx hb hts hin ty0 hty hnm hown hK hP hD hS q (xw_get hs) hc i hi (hts _ hlk) (fun _ h9 => h9) hfin (ht ▸ hty i hi) hn hfit (by simpa using hlt) hd (fun H1 locs1 hP1 hD1 hS1 => ?_)
  have e : (xw Ω σ).set q (xad Ω q, .inr (ci, (fs.mapIdx (fun j f => xfv (xad Ω) σ q j f)).set i (.int v))) = xw Ω (xpi σ q i v) := by
    rw [xput_i (ci := ci) (xad Ω) v hf]
    exact xw_set (e := .inr (ci, fs)) hs (xui_ne _ _ _) (fun _ _ => rfl)
  rw [e] at hP1 hD1
  exact k p e_ s m args below meth c H1 locs1 A ls' B hP1 hD1 hS1 hl
theorem x_putl {q ci i idx N : Nat} {fs : List xF} {C : String} {T : u_T} {ty0 : Nat → FieldType} {v : Int64} (hd : decode (xcc M) pc = .ok (.putfield idx, 3)) (hs : (xsh Ω)[q]? = some (.inr (ci, fs))) (hf : fs[i]? = some (.inl true)) (hc : vwCl[ci]? = some (C, T, N)) (hi : i < N) (hlk : Cond.fieldLink (xy M).cls idx (T i).1 (T i).2.1 (T i).2.2.1 ∈ gt) (hin : ∀ w ∈ u_ws C T N, w ∈ gt) (hty : ∀ k, k < N → parseFieldDescriptor (T k).2.2.1 = some (ty0 k)) (hnm : ∀ a, a < N → ∀ b, b < N → a ≠ b → (T a).2.1 ≠ (T b).2.1) (hfin : (T i).2.2.2 = false) (ht : ty0 i = .long) (k : Ex l Ω M (pc + 3) ls st (xpl σ q i v) Q) : Ex l Ω M pc ls (.long v :: .ref q :: st) σ Q := by
  intro p e_ s m args below meth c H locs A ls' B hP hD hS hl
  obtain ⟨hx, hb, hr, hml, hown, hts, hlocks, hK, hA, hE⟩ := id B
  have hlt : i < fs.length := (List.getElem?_eq_some_iff.mp hf).1
  refine va_put (D := xD Ω) (ci := ci) (v := .long v) (ty := .long) (C := C) (T := T) (N := N) hx hb hts hin ty0 hty hnm hown hK hP hD hS q (xw_get hs) hc i hi (hts _ hlk) (fun _ h9 => h9) hfin (ht ▸ hty i hi) rfl rfl (by simpa using hlt) hd (fun H1 locs1 hP1 hD1 hS1 => ?_)
  have e : (xw Ω σ).set q (xad Ω q, .inr (ci, (fs.mapIdx (fun j f => xfv (xad Ω) σ q j f)).set i (.long v))) = xw Ω (xpl σ q i v) := by
    rw [xput_l (ci := ci) (xad Ω) v hf]
    exact xw_set (e := .inr (ci, fs)) hs (fun _ _ => rfl) (xul_ne _ _ _)
  rw [e] at hP1 hD1
  exact k p e_ s m args below meth c H1 locs1 A ls' B hP1 hD1 hS1 hl
theorem x_iald {q n b t : Nat} {i : Int32} (hd : decode (xcc M) pc = .ok (.iaload, 1)) (hs : (xsh Ω)[q]? = some (.inl (0, n, b, t))) (hin : vp_in i n) (k : Ex l Ω M (pc + 1) ls (.int (σ.1 q i.toNatClampNeg) :: st) σ Q) : Ex l Ω M pc ls (.int i :: .ref q :: st) σ Q := by
  intro p e_ s m args below meth c H locs A ls' B hP hD hS hl
  obtain ⟨hx, hb, hr, hml, hown, hts, hlocks, hK, hA, hE⟩ := id B
  exact va_iald hx hb hK hP q 0 (xw_get hs) rfl hin hd (k p e_ s m args below meth c H locs A ls' B hP hD hS hl)
theorem x_lald {q n b t : Nat} {i : Int32} (hd : decode (xcc M) pc = .ok (.laload, 1)) (hs : (xsh Ω)[q]? = some (.inl (1, n, b, t))) (hin : vp_in i n) (k : Ex l Ω M (pc + 1) ls (.long (σ.2 q i.toNatClampNeg) :: st) σ Q) : Ex l Ω M pc ls (.int i :: .ref q :: st) σ Q := by
  intro p e_ s m args below meth c H locs A ls' B hP hD hS hl
  obtain ⟨hx, hb, hr, hml, hown, hts, hlocks, hK, hA, hE⟩ := id B
  exact va_lald hx hb hK hP q 1 (xw_get hs) rfl hin hd (k p e_ s m args below meth c H locs A ls' B hP hD hS hl)
theorem x_cald {q n b t : Nat} {i : Int32} (h2 : xt2 Ω = .char) (hd : decode (xcc M) pc = .ok (.caload, 1)) (hs : (xsh Ω)[q]? = some (.inl (2, n, b, t))) (hin : vp_in i n) (k : Ex l Ω M (pc + 1) ls (.int (σ.1 q i.toNatClampNeg) :: st) σ Q) : Ex l Ω M pc ls (.int i :: .ref q :: st) σ Q := by
  intro p e_ s m args below meth c H locs A ls' B hP hD hS hl
  obtain ⟨hx, hb, hr, hml, hown, hts, hlocks, hK, hA, hE⟩ := id B
  exact va_cald hx hb hK hP q 2 (xw_get hs) (by rw [← h2]; rfl) hin hd (k p e_ s m args below meth c H locs A ls' B hP hD hS hl)
theorem x_aald {q n b t : Nat} {i : Int32} {C : String} (h2 : xt2 Ω = .object C) (hd : decode (xcc M) pc = .ok (.aaload, 1)) (hs : (xsh Ω)[q]? = some (.inl (3, n, b, t))) (hin : vp_in i n) (k : Ex l Ω M (pc + 1) ls (.ref (b + t * i.toNatClampNeg) :: st) σ Q) : Ex l Ω M pc ls (.int i :: .ref q :: st) σ Q := by
  intro p e_ s m args below meth c H locs A ls' B hP hD hS hl
  obtain ⟨hx, hb, hr, hml, hown, hts, hlocks, hK, hA, hE⟩ := id B
  exact va_aldq (C := C) hx hb hK hP q 2 (xw_get hs) (by rw [← h2]; rfl) hin hd (k p e_ s m args below meth c H locs A ls' B hP hD hS hl)
theorem x_iast {q n b t : Nat} {i v : Int32} (hd : decode (xcc M) pc = .ok (.iastore, 1)) (hs : (xsh Ω)[q]? = some (.inl (0, n, b, t))) (hin : vp_in i n) (k : Ex l Ω M (pc + 1) ls st (xpi σ q i.toNatClampNeg v) Q) : Ex l Ω M pc ls (.int v :: .int i :: .ref q :: st) σ Q := by
  intro p e_ s m args below meth c H locs A ls' B hP hD hS hl
  obtain ⟨hx, hb, hr, hml, hown, hts, hlocks, hK, hA, hE⟩ := id B
  refine va_iast hx hb hK hP hD hS q 0 (xw_get hs) rfl hin hd (fun H1 locs1 hP1 hD1 hS1 => ?_)
  have e : (xw Ω σ).set q (xad Ω q, .inl (xcy Ω 0, n, .inl (upd (σ.1 q) i.toNatClampNeg v))) = xw Ω (xpi σ q i.toNatClampNeg v) := by
    have h1 := xw_set (σ := σ) (τ := xpi σ q i.toNatClampNeg v) hs (xui_ne _ _ _) (fun _ _ => rfl)
    simpa [xce, xui] using h1
  rw [e] at hP1 hD1
  exact k p e_ s m args below meth c H1 locs1 A ls' B hP1 hD1 hS1 hl
theorem x_last {q n b t : Nat} {i : Int32} {v : Int64} (hd : decode (xcc M) pc = .ok (.lastore, 1)) (hs : (xsh Ω)[q]? = some (.inl (1, n, b, t))) (hin : vp_in i n) (k : Ex l Ω M (pc + 1) ls st (xpl σ q i.toNatClampNeg v) Q) : Ex l Ω M pc ls (.long v :: .int i :: .ref q :: st) σ Q := by
  intro p e_ s m args below meth c H locs A ls' B hP hD hS hl
  obtain ⟨hx, hb, hr, hml, hown, hts, hlocks, hK, hA, hE⟩ := id B
  refine va_last hx hb hK hP hD hS q 1 (xw_get hs) rfl hin hd (fun H1 locs1 hP1 hD1 hS1 => ?_)
  have e : (xw Ω σ).set q (xad Ω q, .inl (xcy Ω 1, n, .inr (.inl (vp_updL (σ.2 q) i.toNatClampNeg v)))) = xw Ω (xpl σ q i.toNatClampNeg v) := by
    have h1 := xw_set (σ := σ) (τ := xpl σ q i.toNatClampNeg v) hs (fun _ _ => rfl) (xul_ne _ _ _)
    simpa [xce, xul] using h1
  rw [e] at hP1 hD1
  exact k p e_ s m args below meth c H1 locs1 A ls' B hP1 hD1 hS1 hl
theorem x_clen {q n b t : Nat} {v : Int32} (hd : decode (xcc M) pc = .ok (.arraylength, 1)) (hs : (xsh Ω)[q]? = some (.inl (2, n, b, t))) (hv : Int32.ofNat n = v) (k : Ex l Ω M (pc + 1) ls (.int v :: st) σ Q) : Ex l Ω M pc ls (.ref q :: st) σ Q := by
  intro p e_ s m args below meth c H locs A ls' B hP hD hS hl
  obtain ⟨hx, hb, hr, hml, hown, hts, hlocks, hK, hA, hE⟩ := id B
  exact va_alen hx hb hK hP q 2 (xw_get hs) (ty := xt2 Ω) rfl hv hd (k p e_ s m args below meth c H locs A ls' B hP hD hS hl)
theorem x_min {idx : Nat} {x y : Int32} (hd : decode (xcc M) pc = .ok (.invokestatic idx, 3)) (h1 : Cond.methodLink (xy M).cls idx Lib.Math.min.name ∈ gt) (h2 : Cond.static Lib.Math.min.name ∈ gt) (h3 : Cond.initialized "java/lang/Math" ∈ gt) (h4 : Cond.code Lib.Math.min.name Lib.Math.min.code 2 (some .int) ∈ gt) (hf : 1 ≤ (xrm M).frames) (hlo : (st.map fun v => v.category).sum + 13 ≤ (xrm M).locals) (k : Ex l Ω M (pc + 3) ls (.int (if y < x then y else x) :: st) σ Q) : Ex l Ω M pc ls (.int y :: .int x :: st) σ Q := by
  intro p e_ s m args below meth c H locs A ls' B hP hD hS hl
  obtain ⟨hx, hb, hr, hml, hown, hts, hlocks, hK, hA, hE⟩ := id B
  exact va_mmin hx hb (hml.trans hl.1.symm) hown (hts _ h1) (hts _ h2) (hts _ h3) (hts _ h4) hf (by rw [xcats]; exact hlo) (Nat.zero_le _) (Nat.zero_le _) hd (k p e_ s m args below meth c H locs A ls' B hP hD hS hl)
theorem x_max {idx : Nat} {x y : Int32} (hd : decode (xcc M) pc = .ok (.invokestatic idx, 3)) (h1 : Cond.methodLink (xy M).cls idx Lib.Math.max.name ∈ gt) (h2 : Cond.static Lib.Math.max.name ∈ gt) (h3 : Cond.initialized "java/lang/Math" ∈ gt) (h4 : Cond.code Lib.Math.max.name Lib.Math.max.code 2 (some .int) ∈ gt) (hf : 1 ≤ (xrm M).frames) (hlo : (st.map fun v => v.category).sum + 13 ≤ (xrm M).locals) (k : Ex l Ω M (pc + 3) ls (.int (if x < y then y else x) :: st) σ Q) : Ex l Ω M pc ls (.int y :: .int x :: st) σ Q := by
  intro p e_ s m args below meth c H locs A ls' B hP hD hS hl
  obtain ⟨hx, hb, hr, hml, hown, hts, hlocks, hK, hA, hE⟩ := id B
  exact va_mmax hx hb (hml.trans hl.1.symm) hown (hts _ h1) (hts _ h2) (hts _ h3) (hts _ h4) hf (by rw [xcats]; exact hlo) (Nat.zero_le _) (Nat.zero_le _) hd (k p e_ s m args below meth c H locs A ls' B hP hD hS hl)
/-! ends -/
theorem xend {oc : Option Value} {A : Nat → Prop} {s t : State} {H : Heap} {locs : List Loc} (hP : va_P (xD Ω) vwCl (xw Ω σ) H) (hK : va_K (xD Ω) vwCl (xtys Ω) s) (hD : va_D A (xw Ω σ)) (hS : va_S A s.heap H locs) (hq : Q oc σ) (args : Array Value) (ht : t.heap = H) (hW : s.WarmedH t.vm) : xQc Ω A Q args s (.returned (oc.map (xv (xad Ω)))) t :=
  ⟨⟨oc, σ, rfl, hq, by rw [ht]; exact hP, va_K.moved hW.alike hK, hD⟩, hS.F ht⟩
theorem x_iret {v : Int32} (hd : decode (xcc M) pc = .ok (.ireturn, 1)) (hr : xret M = some .int) (hq : Q (some (.int v)) σ) : Ex l Ω M pc ls [.int v] σ Q := by
  intro p e s m args below meth c H locs A ls' B hP hD hS hl
  obtain ⟨hx, hb, hr0, hml, hown, hts, hlocks, hK, hA, hE⟩ := id B
  exact W.iret (v := v) hx hb (hr0.trans hr) (fun t ht hW => xend (oc := some (.int v)) hP hK hD hS hq args ht hW) hS.2.2 hd hlocks
theorem x_zret {v : Int32} (hd : decode (xcc M) pc = .ok (.ireturn, 1)) (hr : xret M = some .boolean) (hn : v = 0 ∨ v = 1) (hq : Q (some (.int v)) σ) : Ex l Ω M pc ls [.int v] σ Q := by
  intro p e s m args below meth c H locs A ls' B hP hD hS hl
  obtain ⟨hx, hb, hr0, hml, hown, hts, hlocks, hK, hA, hE⟩ := id B
  exact W.zret (v := v) (ty := .boolean) hx hb (hr0.trans hr) (by rcases hn with rfl | rfl <;> decide) (fun t ht hW => xend (oc := some (.int v)) hP hK hD hS hq args ht hW) hS.2.2 hd hlocks
theorem x_lret {v : Int64} (hd : decode (xcc M) pc = .ok (.lreturn, 1)) (hr : xret M = some .long) (hq : Q (some (.long v)) σ) : Ex l Ω M pc ls [.long v] σ Q := by
  intro p e s m args below meth c H locs A ls' B hP hD hS hl
  obtain ⟨hx, hb, hr0, hml, hown, hts, hlocks, hK, hA, hE⟩ := id B
  exact W.lret (v := v) hx hb (hr0.trans hr) (fun t ht hW => xend (oc := some (.long v)) hP hK hD hS hq args ht hW) hS.2.2 hd hlocks
theorem x_vret (hd : decode (xcc M) pc = .ok (.return_, 1)) (hr : xret M = none) (hq : Q none σ) : Ex l Ω M pc ls [] σ Q := by
  intro p e s m args below meth c H locs A ls' B hP hD hS hl
  obtain ⟨hx, hb, hr0, hml, hown, hts, hlocks, hK, hA, hE⟩ := id B
  exact W.vret hx hb (hr0.trans hr) (fun t ht hW => xend (oc := none) hP hK hD hS hq args ht hW) hS.2.2 hd hlocks
end XR
end
section
/-- the cells of a world, and those that are made later -/
def xA (Ω : xW) (sz : Nat) : Nat → Prop := fun q => (∃ k, k < (xsh Ω).length ∧ q = xad Ω k) ∨ sz ≤ q
theorem xw_addr {Ω : xW} {σ : xH} {k : Nat} {q : Nat × va_E} (h : (xw Ω σ)[k]? = some q) : k < (xsh Ω).length ∧ q.1 = xad Ω k := by
  unfold xw at h
  rw [List.getElem?_mapIdx] at h
  cases hk : (xsh Ω)[k]? with
  | none => rw [hk] at h; cases h
  | some e =>
    rw [hk] at h
    have := Option.some.inj h
    exact ⟨(List.getElem?_eq_some_iff.mp hk).1, by rw [← this]⟩
theorem xD_any {Ω : xW} {σ : xH} {A : Nat → Prop} {sz : Nat} (h : va_D A (xw Ω σ)) : va_D (xA Ω sz) (xw Ω σ) :=
  ⟨h.1, fun k q hk => Or.inl ⟨k, (xw_addr hk).1, (xw_addr hk).2⟩⟩
theorem xA_sub {Ω : xW} {σ : xH} {A : Nat → Prop} {sz sz2 : Nat} (h : va_D A (xw Ω σ)) (hA : ∀ q, sz ≤ q → A q) (hle : sz ≤ sz2) : ∀ q, xA Ω sz2 q → A q := by
  intro q hq
  rcases hq with ⟨k, hk, rfl⟩ | hq
  · have : (xw Ω σ)[k]? = some (xad Ω k, xce (xad Ω) (xcy Ω) σ k ((xsh Ω)[k])) := xw_get (List.getElem?_eq_getElem hk)
    exact h.2 k _ this
  · exact hA q (Nat.le_trans hle hq)
/-- the tables' words of a method -/
def xok (N : xM) (n : Nat) : Prop := Cond.initialized (xy N).cls ∈ gt ∧ Cond.code (xy N) (xcc N) (xnL N) (xret N) ∈ gt ∧ plainName (xy N).cls = true ∧ ((xy N).cls ≠ "java/lang/invoke/MethodHandle" ∧ (xy N).cls ≠ "java/lang/invoke/VarHandle" ∧ (parseMethodDescriptor (xy N).desc).map (fun d => d.parameters.length) = some n) ∧ (xrm N).cells = 0 ∧ (xrm N).slots = 0
def xokV (N : xM) (n : Nat) : Prop := xok N n ∧ Cond.instanceMethod (xy N) ∈ gt ∧ Cond.selects (xy N).cls (xy N) (xy N) ∈ gt
def xokS (N : xM) (n : Nat) : Prop := xok N n ∧ Cond.static (xy N) ∈ gt
abbrev xws (N : xM) : List Cond := Cond.code (xy N) (xcc N) (xnL N) (xret N) :: gt
theorem xws_good {N : xM} {n : Nat} (h : xok N n) : GoodIn gt (xws N) := fun w hw => by
  rcases List.mem_cons.mp hw with e | e
  · rw [e]; exact gt_gt _ h.2.1
  · exact gt_gt w e
def xPc (Ω : xW) (σ : xH) (sz : Nat) (as : List Value) : Array Value → State → Prop := va_Pc (as.map (xv (xad Ω))) (fun U => U.heap.size = sz ∧ va_P (xD Ω) vwCl (xw Ω σ) U.heap ∧ va_K (xD Ω) vwCl (xtys Ω) U ∧ va_D (fun _ => True) (xw Ω σ) ∧ xE Ω (xA Ω sz) U U.heap)
theorem x_met {l : Launch} {Ω : xW} {N : xM} {n : Nat} {as : List Value} {σ : xH} {Q : Option Value → xH → Prop} (h : Ev l Ω N as σ Q) (hN : xok N n) (hlen : (lg_sl (as.map (xv (xad Ω)))).length ≤ xnL N) (sz : Nat) : Met l (xy N) (xws N) (xrm N) (xPc Ω σ sz as) (xQc Ω (xA Ω sz) Q) 0 0 (xA Ω sz) := by
  refine Met.ofW (cc := xcc N) (maxL := xnL N) (ret := xret N) hN.2.2.1 rfl ?_
  intro p e s m args below meth c s₁ B hml hv
  obtain ⟨rfl, hsz, hP, hK, hD0, hE⟩ := hv
  have hts := atoms_spec (ws := xws N) B.pre
  subst hsz
  have hl := lv_entry (as.map (xv (xad Ω))) (n := xnL N) hlen
  rw [lg_entry_eq]
  exact h p e s m _ below meth c s.heap [] (xA Ω s.heap.size) _ ⟨B.exec, B.bytes, B.returns, hml, findClass_of_methodNamed B.named, fun w hw => hts w (List.mem_cons_of_mem _ hw), B.notSynchronized, hK, fun q hq => Or.inr hq, hE⟩ hP (xD_any hD0) va_S.rf ⟨hl.1, hl.2.1, fun q hq => hl.2.2 q (xent_in _ as 0 q hq)⟩
theorem xPc_blind {Ω : xW} {σ : xH} {sz : Nat} {as : List Value} : FrameBlind (xPc Ω σ sz as) := fun a U g mk q => by
  obtain ⟨q0, q1, q2, q3, q4, q5⟩ := q
  exact ⟨q0, q1, q2, va_K.moved (u := U) (U := U.calling g mk a) (Vm.Alike.refl U.vm) q3, q4, xE_same (U := U.calling g mk a) q5 rfl⟩
theorem xPc_at {Ω : xW} {σ : xH} {as : List Value} {A : Nat → Prop} {s U : State} {H : Heap} {locs : List Loc} (hP : va_P (xD Ω) vwCl (xw Ω σ) H) (hD : va_D A (xw Ω σ)) (hS : va_S A s.heap H locs) (hK : va_K (xD Ω) vwCl (xtys Ω) s) (hA : ∀ q, s.heap.size ≤ q → A q) (hE : xE Ω A s s.heap) (hU : U.heap = H) (hW : s.WarmedH U.vm) : xPc Ω σ H.size as (as.map (xv (xad Ω))).toArray U :=
  ⟨rfl, by rw [hU], by rw [hU]; exact hP, va_K.moved hW.alike hK, hD.weaken (fun _ _ _ _ => trivial), by rw [hU]; exact xE_to hE hW hS.2.1 (xA_sub hD hA hS.1)⟩
theorem x_back {p : Program} {l : Launch} {e : Env} {R : Room} {s : State} {m : MethodId} {args : Array Value} {below : List Frame} {meth : Method} {c : Code} {H H0 : Heap} {locs : List Loc} {Qf : State → Prop} {Ω : xW} {A0 A1 : Nat → Prop} {Q2 : Option Value → xH → Prop} {a : Array Value} {free : Addr → Prop} {pc : Nat} {ls' : Array Slot} {st0 rest : List Value}
    (hr : va_Run p l e R s m args below meth c H locs 0 0 0 0 (F0 m pc ls' st0) rest (xQc Ω A1 Q2 a) free) (hS : va_S A0 H0 H locs) (hA : ∀ q, A1 q → A0 q) (hf : ∀ q, free q → A0 q)
    (kk : ∀ (r : Option Value) (τ : xH) (H1 : Heap) (locs1 : List Loc), Q2 r τ → va_P (xD Ω) vwCl (xw Ω τ) H1 → va_D A1 (xw Ω τ) → va_S A0 H0 H1 locs1 → W p l e R s m args below meth c H1 locs1 0 0 Qf (F0 m (pc + 3) ls' ((r.map (xv (xad Ω))).toList ++ rest))) : W p l e R s m args below meth c H locs 0 0 Qf (F0 m pc ls' st0) := by
  intro T hT X
  obtain ⟨v, st₀, t, T', L, h0, X', hL, e1, e2, ⟨⟨r, τ, hv, hp, hb, hk1, hd1⟩, hz, hk⟩, st⟩ := hr T hT X
  cases hv
  rw [h0] at hz hk
  obtain ⟨t2, a1, b1⟩ := kk r τ T'.heap (locs ++ L) hp (by rw [e1]; exact hb) hd1
    ⟨Nat.le_trans hS.1 (by rw [e1]; exact hz), fun q h1 h2 => by rw [e1, hk q (Nat.lt_of_lt_of_le h1 hS.1) (fun z => h2 (hA q z))]; exact hS.2.1 q h1 h2, fun q hq => by
      rcases List.mem_append.mp hq with h | h
      · exact hS.2.2 q h
      · exact hf _ (hL q h)⟩ T' rfl X'
  exact ⟨t2, st t2 a1, b1⟩
theorem xstk (ad : Nat → Nat) (r : Option Value) (st : List Value) : (r.map (xv ad)).toList ++ st.map (xv ad) = (r.toList ++ st).map (xv ad) := by cases r <;> rfl
theorem xargs (ad : Nat → Nat) (As : List Value) (st : List Value) : (As.reverse ++ st).map (xv ad) = (As.map (xv ad)).reverse ++ st.map (xv ad) := by simp
/-- the rooms of a call -/
def xfit (M N : xM) : Prop := (xrm N).frames + 1 ≤ (xrm M).frames ∧ 8 + (xnL N + 11) + (xrm N).locals ≤ (xrm M).locals
theorem xarg_len (ad : Nat → Nat) : ∀ (as : List Value), (lg_sl (as.map (xv ad))).length = (xarg as).length := by
  intro as
  induction as with
  | nil => rfl
  | cons v t ih =>
    have e : lg_sl ((v :: t).map (xv ad)) = (if v.category = 2 then [Slot.val (xv ad v), .second] else [.val (xv ad v)]) ++ lg_sl (t.map (xv ad)) := by
      simp [lg_sl, xv_cat]
    rw [e, xarg, List.length_append, ih]
    by_cases hc : v.category = 2
    · rw [if_pos hc, if_pos hc]; simp; omega
    · rw [if_neg hc, if_neg hc]; simp; omega
theorem xlen_ok (ad : Nat → Nat) (as : List Value) (n : Nat) (h : (xarg as).length ≤ n) : (lg_sl (as.map (xv ad))).length ≤ n := by rw [xarg_len]; exact h
section XC
variable {l : Launch} {Ω : xW} {M N : xM} {pc idx : Nat} {ls : List (Option Value)} {st : List Value} {σ : xH} {Q Q2 : Option Value → xH → Prop}
theorem x_callV0 {b n : Nat} {As : List Value} (hd : decode (xcc M) pc = .ok (.invokevirtual idx, 3)) (hN : xokV N n) (hlk : Cond.methodLink (xy M).cls idx (xy N) ∈ gt)
    (hrc : ∀ (A : Nat → Prop) (s : State) (H : Heap) (locs : List Loc), va_K (xD Ω) vwCl (xtys Ω) s → va_P (xD Ω) vwCl (xw Ω σ) H → xE Ω A s s.heap → va_S A s.heap H locs → ∃ cell : Cell, H[xad Ω b]? = some cell ∧ cell.vm.isStatics = false ∧ s.vm.findClass (xy N).cls = some cell.cls)
    (hn : As.length = n) (hlen : (lg_sl ((Value.ref b :: As).map (xv (xad Ω)))).length ≤ xnL N) (hfit : xfit M N) (hst : (st.map fun v => v.category).sum ≤ 8) (hv : Ev l Ω N (.ref b :: As) σ Q2)
    (k : ∀ r τ, Q2 r τ → Ex l Ω M (pc + 3) ls (r.toList ++ st) τ Q) : Ex l Ω M pc ls (As.reverse ++ .ref b :: st) σ Q := by
  intro p e s m args below meth c H locs A ls' B hP hD hS hl
  obtain ⟨hx, hb, hr, hml, hown, hts, hlk2, hK, hA, hE⟩ := id B
  have hM := x_met hv hN.1 hlen H.size
  have hsub := xA_sub (sz2 := H.size) hD hA hS.1
  rw [xargs]
  refine x_back (A1 := xA Ω H.size) (va_runV (As := As.map (xv (xad Ω))) (rest := st.map (xv (xad Ω))) (b := xad Ω b) (C := (xy N).cls) (Ts := gt) ⟨hx, hb, hml, hown, hts⟩ hM
    ⟨callB_of n hts (xws_good hN.1) rfl hN.1.2.2.2.2.1 hN.1.2.2.2.2.2 (hts _ hN.1.1) (hts _ hlk) hN.1.2.2.2.1 hfit, hts _ hN.2.1, hts _ hN.2.2⟩
    ⟨xPc_blind, hrc A s H locs hK hP hE hS, fun U hU hW => xPc_at hP hD hS hK hA hE hU hW⟩ rfl (by rw [List.length_map]; exact hn) hl.1 rfl (lv_room (by rw [xcats]; exact hst)) hd ⟨Nat.zero_le _, Nat.zero_le _⟩) hS hsub hsub (fun r τ H1 locs1 hq hP1 hD1 hS1 => ?_)
  rw [xstk]
  exact k r τ hq p e s m args below meth c H1 locs1 A ls' B hP1 (hD1.weaken (fun _ q _ h => hsub q.1 h)) hS1 hl
theorem x_recv {b ci n : Nat} {fs : List xF} {C : String} {T : u_T} (hs : (xsh Ω)[b]? = some (.inr (ci, fs))) (hc : vwCl[ci]? = some (C, T, n)) (A : Nat → Prop) (s : State) (H : Heap) (locs : List Loc) (hK : va_K (xD Ω) vwCl (xtys Ω) s) (hP : va_P (xD Ω) vwCl (xw Ω σ) H) (_ : xE Ω A s s.heap) (_ : va_S A s.heap H locs) : ∃ cell : Cell, H[xad Ω b]? = some cell ∧ cell.vm.isStatics = false ∧ s.vm.findClass C = some cell.cls :=
  va_recv (ci := ci) (q := (C, T, n)) (q0 := b) (fs := fs.mapIdx (fun i f => xfv (xad Ω) σ b i f)) hK hP hc (xw_get hs)
theorem x_recvS {i : Nat} (hi : i < xlen.length) (A : Nat → Prop) (s : State) (H : Heap) (locs : List Loc) (_ : va_K (xD Ω) vwCl (xtys Ω) s) (_ : va_P (xD Ω) vwCl (xw Ω σ) H) (hE : xE Ω A s s.heap) (hS : va_S A s.heap H locs) : ∃ cell : Cell, H[xad Ω (1000 + i)]? = some cell ∧ cell.vm.isStatics = false ∧ s.vm.findClass RJ0 = some cell.cls :=
  vk_recv (i := i) hE.2.1 hi hS
theorem x_callS0 {n : Nat} {As : List Value} (hd : decode (xcc M) pc = .ok (.invokestatic idx, 3)) (hN : xokS N n) (hlk : Cond.methodLink (xy M).cls idx (xy N) ∈ gt)
    (hn : As.length = n) (hlen : (lg_sl (As.map (xv (xad Ω)))).length ≤ xnL N) (hfit : xfit M N) (hst : (st.map fun v => v.category).sum ≤ 8) (hv : Ev l Ω N As σ Q2)
    (k : ∀ r τ, Q2 r τ → Ex l Ω M (pc + 3) ls (r.toList ++ st) τ Q) : Ex l Ω M pc ls (As.reverse ++ st) σ Q := by
  intro p e s m args below meth c H locs A ls' B hP hD hS hl
  obtain ⟨hx, hb, hr, hml, hown, hts, hlk2, hK, hA, hE⟩ := id B
  have hM := x_met hv hN.1 hlen H.size
  have hsub := xA_sub (sz2 := H.size) hD hA hS.1
  rw [xargs]
  refine x_back (A1 := xA Ω H.size) (va_runS (As := As.map (xv (xad Ω))) (rest := st.map (xv (xad Ω))) (Ts := gt) ⟨hx, hb, hml, hown, hts⟩ hM
    ⟨callB_of n hts (xws_good hN.1) rfl hN.1.2.2.2.2.1 hN.1.2.2.2.2.2 (hts _ hN.1.1) (hts _ hlk) hN.1.2.2.2.1 hfit, hts _ hN.2⟩
    ⟨xPc_blind, fun U hU hW => xPc_at hP hD hS hK hA hE hU hW⟩ rfl (by rw [List.length_map]; exact hn) hl.1 rfl (lv_room (by rw [xcats]; exact hst)) hd ⟨Nat.zero_le _, Nat.zero_le _⟩) hS hsub hsub (fun r τ H1 locs1 hq hP1 hD1 hS1 => ?_)
  rw [xstk]
  exact k r τ hq p e s m args below meth c H1 locs1 A ls' B hP1 (hD1.weaken (fun _ q _ h => hsub q.1 h)) hS1 hl
/-- the one call of a nest mate's private method: Town calls placeOf -/
theorem x_callP {v u : Value} (hM : (xy M).cls = RX3) (hy : xy N = yX4_placeOf) (hi : idx = 43) (hd : decode (xcc M) pc = .ok (.invokestatic idx, 3)) (hN : xokS N 2)
    (hlen : (lg_sl (([v, u] : List Value).map (xv (xad Ω)))).length ≤ xnL N) (hfit : xfit M N) (hst : (st.map fun v => v.category).sum ≤ 8) (hv : Ev l Ω N [v, u] σ Q2)
    (k : ∀ r τ, Q2 r τ → Ex l Ω M (pc + 3) ls (r.toList ++ st) τ Q) : Ex l Ω M pc ls (u :: v :: st) σ Q := by
  intro p e s m args below meth c H locs A ls' B hP hD hS hl
  obtain ⟨hx, hb, hr, hml, hown, hts, hlk2, hK, hA, hE⟩ := id B
  have hMt := x_met hv hN.1 hlen H.size
  have hsub := xA_sub (sz2 := H.size) hD hA hS.1
  have hnw : va_Nw (.methodLinkNest (xy M).cls idx (xy N) RX4) s := by rw [hM, hi, hy]; exact hE.1
  refine x_back (A1 := xA Ω H.size) (va_runSN (As := ([v, u] : List Value).map (xv (xad Ω))) (rest := st.map (xv (xad Ω))) (Ts := gt) ⟨hx, hb, hml, hown, hts⟩ hMt
    ⟨va_cnB 2 hts (xws_good hN.1) rfl hN.1.2.2.2.2.1 hN.1.2.2.2.2.2 hnw (hts _ hN.1.1) hN.1.2.2.2.1 hfit, hts _ hN.2, trivial⟩
    ⟨xPc_blind, fun U hU hW => xPc_at hP hD hS hK hA hE hU hW⟩ rfl rfl hl.1 rfl (lv_room (by rw [xcats]; exact hst)) hd ⟨Nat.zero_le _, Nat.zero_le _⟩) hS hsub hsub (fun r τ H1 locs1 hq hP1 hD1 hS1 => ?_)
  rw [xstk]
  exact k r τ hq p e s m args below meth c H1 locs1 A ls' B hP1 (hD1.weaken (fun _ q _ h => hsub q.1 h)) hS1 hl
theorem x_v0 {b ci n0 : Nat} {fs : List xF} {T : u_T} (hd : decode (xcc M) pc = .ok (.invokevirtual idx, 3)) (hN : xokV N 0) (hlk : Cond.methodLink (xy M).cls idx (xy N) ∈ gt) (hs : (xsh Ω)[b]? = some (.inr (ci, fs))) (hc : vwCl[ci]? = some ((xy N).cls, T, n0)) (hlen : (xarg (.ref b :: [])).length ≤ xnL N) (hfit : xfit M N) (hst : (st.map fun v => v.category).sum ≤ 8) (hv : Ev l Ω N (.ref b :: []) σ Q2) (k : ∀ r τ, Q2 r τ → Ex l Ω M (pc + 3) ls (r.toList ++ st) τ Q) : Ex l Ω M pc ls (.ref b :: st) σ Q :=
  x_callV0 (As := []) hd hN hlk (x_recv hs hc) rfl (xlen_ok _ _ _ hlen) hfit hst hv k
theorem x_v1 {b ci n0 : Nat} {fs : List xF} {T : u_T} {a0 : Value} (hd : decode (xcc M) pc = .ok (.invokevirtual idx, 3)) (hN : xokV N 1) (hlk : Cond.methodLink (xy M).cls idx (xy N) ∈ gt) (hs : (xsh Ω)[b]? = some (.inr (ci, fs))) (hc : vwCl[ci]? = some ((xy N).cls, T, n0)) (hlen : (xarg (.ref b :: [a0])).length ≤ xnL N) (hfit : xfit M N) (hst : (st.map fun v => v.category).sum ≤ 8) (hv : Ev l Ω N (.ref b :: [a0]) σ Q2) (k : ∀ r τ, Q2 r τ → Ex l Ω M (pc + 3) ls (r.toList ++ st) τ Q) : Ex l Ω M pc ls (a0 :: .ref b :: st) σ Q :=
  x_callV0 (As := [a0]) hd hN hlk (x_recv hs hc) rfl (xlen_ok _ _ _ hlen) hfit hst hv k
theorem x_v2 {b ci n0 : Nat} {fs : List xF} {T : u_T} {a0 a1 : Value} (hd : decode (xcc M) pc = .ok (.invokevirtual idx, 3)) (hN : xokV N 2) (hlk : Cond.methodLink (xy M).cls idx (xy N) ∈ gt) (hs : (xsh Ω)[b]? = some (.inr (ci, fs))) (hc : vwCl[ci]? = some ((xy N).cls, T, n0)) (hlen : (xarg (.ref b :: [a0, a1])).length ≤ xnL N) (hfit : xfit M N) (hst : (st.map fun v => v.category).sum ≤ 8) (hv : Ev l Ω N (.ref b :: [a0, a1]) σ Q2) (k : ∀ r τ, Q2 r τ → Ex l Ω M (pc + 3) ls (r.toList ++ st) τ Q) : Ex l Ω M pc ls (a1 :: a0 :: .ref b :: st) σ Q :=
  x_callV0 (As := [a0, a1]) hd hN hlk (x_recv hs hc) rfl (xlen_ok _ _ _ hlen) hfit hst hv k
theorem x_v3 {b ci n0 : Nat} {fs : List xF} {T : u_T} {a0 a1 a2 : Value} (hd : decode (xcc M) pc = .ok (.invokevirtual idx, 3)) (hN : xokV N 3) (hlk : Cond.methodLink (xy M).cls idx (xy N) ∈ gt) (hs : (xsh Ω)[b]? = some (.inr (ci, fs))) (hc : vwCl[ci]? = some ((xy N).cls, T, n0)) (hlen : (xarg (.ref b :: [a0, a1, a2])).length ≤ xnL N) (hfit : xfit M N) (hst : (st.map fun v => v.category).sum ≤ 8) (hv : Ev l Ω N (.ref b :: [a0, a1, a2]) σ Q2) (k : ∀ r τ, Q2 r τ → Ex l Ω M (pc + 3) ls (r.toList ++ st) τ Q) : Ex l Ω M pc ls (a2 :: a1 :: a0 :: .ref b :: st) σ Q :=
  x_callV0 (As := [a0, a1, a2]) hd hN hlk (x_recv hs hc) rfl (xlen_ok _ _ _ hlen) hfit hst hv k
theorem x_v4 {b ci n0 : Nat} {fs : List xF} {T : u_T} {a0 a1 a2 a3 : Value} (hd : decode (xcc M) pc = .ok (.invokevirtual idx, 3)) (hN : xokV N 4) (hlk : Cond.methodLink (xy M).cls idx (xy N) ∈ gt) (hs : (xsh Ω)[b]? = some (.inr (ci, fs))) (hc : vwCl[ci]? = some ((xy N).cls, T, n0)) (hlen : (xarg (.ref b :: [a0, a1, a2, a3])).length ≤ xnL N) (hfit : xfit M N) (hst : (st.map fun v => v.category).sum ≤ 8) (hv : Ev l Ω N (.ref b :: [a0, a1, a2, a3]) σ Q2) (k : ∀ r τ, Q2 r τ → Ex l Ω M (pc + 3) ls (r.toList ++ st) τ Q) : Ex l Ω M pc ls (a3 :: a2 :: a1 :: a0 :: .ref b :: st) σ Q :=
  x_callV0 (As := [a0, a1, a2, a3]) hd hN hlk (x_recv hs hc) rfl (xlen_ok _ _ _ hlen) hfit hst hv k
theorem x_v5 {b ci n0 : Nat} {fs : List xF} {T : u_T} {a0 a1 a2 a3 a4 : Value} (hd : decode (xcc M) pc = .ok (.invokevirtual idx, 3)) (hN : xokV N 5) (hlk : Cond.methodLink (xy M).cls idx (xy N) ∈ gt) (hs : (xsh Ω)[b]? = some (.inr (ci, fs))) (hc : vwCl[ci]? = some ((xy N).cls, T, n0)) (hlen : (xarg (.ref b :: [a0, a1, a2, a3, a4])).length ≤ xnL N) (hfit : xfit M N) (hst : (st.map fun v => v.category).sum ≤ 8) (hv : Ev l Ω N (.ref b :: [a0, a1, a2, a3, a4]) σ Q2) (k : ∀ r τ, Q2 r τ → Ex l Ω M (pc + 3) ls (r.toList ++ st) τ Q) : Ex l Ω M pc ls (a4 :: a3 :: a2 :: a1 :: a0 :: .ref b :: st) σ Q :=
  x_callV0 (As := [a0, a1, a2, a3, a4]) hd hN hlk (x_recv hs hc) rfl (xlen_ok _ _ _ hlen) hfit hst hv k
theorem x_v6 {b ci n0 : Nat} {fs : List xF} {T : u_T} {a0 a1 a2 a3 a4 a5 : Value} (hd : decode (xcc M) pc = .ok (.invokevirtual idx, 3)) (hN : xokV N 6) (hlk : Cond.methodLink (xy M).cls idx (xy N) ∈ gt) (hs : (xsh Ω)[b]? = some (.inr (ci, fs))) (hc : vwCl[ci]? = some ((xy N).cls, T, n0)) (hlen : (xarg (.ref b :: [a0, a1, a2, a3, a4, a5])).length ≤ xnL N) (hfit : xfit M N) (hst : (st.map fun v => v.category).sum ≤ 8) (hv : Ev l Ω N (.ref b :: [a0, a1, a2, a3, a4, a5]) σ Q2) (k : ∀ r τ, Q2 r τ → Ex l Ω M (pc + 3) ls (r.toList ++ st) τ Q) : Ex l Ω M pc ls (a5 :: a4 :: a3 :: a2 :: a1 :: a0 :: .ref b :: st) σ Q :=
  x_callV0 (As := [a0, a1, a2, a3, a4, a5]) hd hN hlk (x_recv hs hc) rfl (xlen_ok _ _ _ hlen) hfit hst hv k
theorem x_s1 {a0 : Value} (hd : decode (xcc M) pc = .ok (.invokestatic idx, 3)) (hN : xokS N 1) (hlk : Cond.methodLink (xy M).cls idx (xy N) ∈ gt) (hlen : (xarg [a0]).length ≤ xnL N) (hfit : xfit M N) (hst : (st.map fun v => v.category).sum ≤ 8) (hv : Ev l Ω N [a0] σ Q2) (k : ∀ r τ, Q2 r τ → Ex l Ω M (pc + 3) ls (r.toList ++ st) τ Q) : Ex l Ω M pc ls (a0 :: st) σ Q :=
  x_callS0 (As := [a0]) hd hN hlk rfl (xlen_ok _ _ _ hlen) hfit hst hv k
theorem x_s2 {a0 a1 : Value} (hd : decode (xcc M) pc = .ok (.invokestatic idx, 3)) (hN : xokS N 2) (hlk : Cond.methodLink (xy M).cls idx (xy N) ∈ gt) (hlen : (xarg [a0, a1]).length ≤ xnL N) (hfit : xfit M N) (hst : (st.map fun v => v.category).sum ≤ 8) (hv : Ev l Ω N [a0, a1] σ Q2) (k : ∀ r τ, Q2 r τ → Ex l Ω M (pc + 3) ls (r.toList ++ st) τ Q) : Ex l Ω M pc ls (a1 :: a0 :: st) σ Q :=
  x_callS0 (As := [a0, a1]) hd hN hlk rfl (xlen_ok _ _ _ hlen) hfit hst hv k
theorem x_s3 {a0 a1 a2 : Value} (hd : decode (xcc M) pc = .ok (.invokestatic idx, 3)) (hN : xokS N 3) (hlk : Cond.methodLink (xy M).cls idx (xy N) ∈ gt) (hlen : (xarg [a0, a1, a2]).length ≤ xnL N) (hfit : xfit M N) (hst : (st.map fun v => v.category).sum ≤ 8) (hv : Ev l Ω N [a0, a1, a2] σ Q2) (k : ∀ r τ, Q2 r τ → Ex l Ω M (pc + 3) ls (r.toList ++ st) τ Q) : Ex l Ω M pc ls (a2 :: a1 :: a0 :: st) σ Q :=
  x_callS0 (As := [a0, a1, a2]) hd hN hlk rfl (xlen_ok _ _ _ hlen) hfit hst hv k
theorem x_s4 {a0 a1 a2 a3 : Value} (hd : decode (xcc M) pc = .ok (.invokestatic idx, 3)) (hN : xokS N 4) (hlk : Cond.methodLink (xy M).cls idx (xy N) ∈ gt) (hlen : (xarg [a0, a1, a2, a3]).length ≤ xnL N) (hfit : xfit M N) (hst : (st.map fun v => v.category).sum ≤ 8) (hv : Ev l Ω N [a0, a1, a2, a3] σ Q2) (k : ∀ r τ, Q2 r τ → Ex l Ω M (pc + 3) ls (r.toList ++ st) τ Q) : Ex l Ω M pc ls (a3 :: a2 :: a1 :: a0 :: st) σ Q :=
  x_callS0 (As := [a0, a1, a2, a3]) hd hN hlk rfl (xlen_ok _ _ _ hlen) hfit hst hv k
theorem x_s5 {a0 a1 a2 a3 a4 : Value} (hd : decode (xcc M) pc = .ok (.invokestatic idx, 3)) (hN : xokS N 5) (hlk : Cond.methodLink (xy M).cls idx (xy N) ∈ gt) (hlen : (xarg [a0, a1, a2, a3, a4]).length ≤ xnL N) (hfit : xfit M N) (hst : (st.map fun v => v.category).sum ≤ 8) (hv : Ev l Ω N [a0, a1, a2, a3, a4] σ Q2) (k : ∀ r τ, Q2 r τ → Ex l Ω M (pc + 3) ls (r.toList ++ st) τ Q) : Ex l Ω M pc ls (a4 :: a3 :: a2 :: a1 :: a0 :: st) σ Q :=
  x_callS0 (As := [a0, a1, a2, a3, a4]) hd hN hlk rfl (xlen_ok _ _ _ hlen) hfit hst hv k
theorem x_s6 {a0 a1 a2 a3 a4 a5 : Value} (hd : decode (xcc M) pc = .ok (.invokestatic idx, 3)) (hN : xokS N 6) (hlk : Cond.methodLink (xy M).cls idx (xy N) ∈ gt) (hlen : (xarg [a0, a1, a2, a3, a4, a5]).length ≤ xnL N) (hfit : xfit M N) (hst : (st.map fun v => v.category).sum ≤ 8) (hv : Ev l Ω N [a0, a1, a2, a3, a4, a5] σ Q2) (k : ∀ r τ, Q2 r τ → Ex l Ω M (pc + 3) ls (r.toList ++ st) τ Q) : Ex l Ω M pc ls (a5 :: a4 :: a3 :: a2 :: a1 :: a0 :: st) σ Q :=
  x_callS0 (As := [a0, a1, a2, a3, a4, a5]) hd hN hlk rfl (xlen_ok _ _ _ hlen) hfit hst hv k
theorem x_acpi {q0 q1 n0 n1 b0 t0 b1 t1 : Nat} {sp dp n : Int32} (hd : decode (xcc M) pc = .ok (.invokestatic idx, 3)) (h1 : Cond.methodLink (xy M).cls idx arraycopyName ∈ gt) (h2 : Cond.native arraycopyName ∈ gt) (h3 : Cond.static arraycopyName ∈ gt) (h4 : Cond.initialized "java/lang/System" ∈ gt) (hs0 : (xsh Ω)[q0]? = some (.inl (0, n0, b0, t0))) (hs1 : (xsh Ω)[q1]? = some (.inl (0, n1, b1, t1))) (g1 : ¬ sp < 0) (g2 : ¬ dp < 0) (g3 : ¬ n < 0) (g4 : sp.toNatClampNeg + n.toNatClampNeg ≤ n0) (g5 : dp.toNatClampNeg + n.toNatClampNeg ≤ n1) (hfr : 1 ≤ (xrm M).frames) (hlo : (st.map fun v => v.category).sum + (nativeFrameWords "java/lang/System" "arraycopy" 5 + 11) ≤ (xrm M).locals)
    (k : Ex l Ω M (pc + 3) ls st (xui σ q1 (va_cpy (σ.1 q0) (σ.1 q1) sp.toNatClampNeg dp.toNatClampNeg n.toNatClampNeg)) Q) : Ex l Ω M pc ls (.int n :: .int dp :: .ref q1 :: .int sp :: .ref q0 :: st) σ Q := by
  intro p e s m args below meth c H locs A ls' B hP hD hS hl
  obtain ⟨hx, hb, hr, hml, hown, hts, hlk2, hK, hA, hE⟩ := id B
  refine va_copyi (ty := .int) hx hb (hml.trans hl.1.symm) hown (hts _ h1) (hts _ h2) (hts _ h3) (hts _ h4) hK hP hD hS q0 q1 0 0 (xw_get hs0) (xw_get hs1) rfl rfl rfl g1 g2 g3 g4 g5 (fun _ _ => rfl) hfr (by rw [xcats]; exact hlo) hd (fun H1 locs1 hP1 hD1 hS1 => ?_)
  have e1 : (xw Ω σ).set q1 (xad Ω q1, .inl (xcy Ω 0, n1, .inl (va_cpy (σ.1 q0) (σ.1 q1) sp.toNatClampNeg dp.toNatClampNeg n.toNatClampNeg))) = xw Ω (xui σ q1 (va_cpy (σ.1 q0) (σ.1 q1) sp.toNatClampNeg dp.toNatClampNeg n.toNatClampNeg)) := by
    have h1 := xw_set (σ := σ) (τ := xui σ q1 (va_cpy (σ.1 q0) (σ.1 q1) sp.toNatClampNeg dp.toNatClampNeg n.toNatClampNeg)) hs1 (xui_ne _ _ _) (fun _ _ => rfl)
    simpa [xce, xui] using h1
  rw [e1] at hP1 hD1
  exact k p e s m args below meth c H1 locs1 A ls' B hP1 hD1 hS1 hl
theorem x_acpl {q0 q1 n0 n1 b0 t0 b1 t1 : Nat} {sp dp n : Int32} (hd : decode (xcc M) pc = .ok (.invokestatic idx, 3)) (h1 : Cond.methodLink (xy M).cls idx arraycopyName ∈ gt) (h2 : Cond.native arraycopyName ∈ gt) (h3 : Cond.static arraycopyName ∈ gt) (h4 : Cond.initialized "java/lang/System" ∈ gt) (hs0 : (xsh Ω)[q0]? = some (.inl (1, n0, b0, t0))) (hs1 : (xsh Ω)[q1]? = some (.inl (1, n1, b1, t1))) (g1 : ¬ sp < 0) (g2 : ¬ dp < 0) (g3 : ¬ n < 0) (g4 : sp.toNatClampNeg + n.toNatClampNeg ≤ n0) (g5 : dp.toNatClampNeg + n.toNatClampNeg ≤ n1) (hfr : 1 ≤ (xrm M).frames) (hlo : (st.map fun v => v.category).sum + (nativeFrameWords "java/lang/System" "arraycopy" 5 + 11) ≤ (xrm M).locals)
    (k : Ex l Ω M (pc + 3) ls st (xul σ q1 (va_cpy (σ.2 q0) (σ.2 q1) sp.toNatClampNeg dp.toNatClampNeg n.toNatClampNeg)) Q) : Ex l Ω M pc ls (.int n :: .int dp :: .ref q1 :: .int sp :: .ref q0 :: st) σ Q := by
  intro p e s m args below meth c H locs A ls' B hP hD hS hl
  obtain ⟨hx, hb, hr, hml, hown, hts, hlk2, hK, hA, hE⟩ := id B
  refine va_copyl (ty := .long) hx hb (hml.trans hl.1.symm) hown (hts _ h1) (hts _ h2) (hts _ h3) (hts _ h4) hK hP hD hS q0 q1 1 1 (xw_get hs0) (xw_get hs1) rfl rfl rfl g1 g2 g3 g4 g5 (fun _ _ => rfl) hfr (by rw [xcats]; exact hlo) hd (fun H1 locs1 hP1 hD1 hS1 => ?_)
  have e1 : (xw Ω σ).set q1 (xad Ω q1, .inl (xcy Ω 1, n1, .inr (.inl (va_cpy (σ.2 q0) (σ.2 q1) sp.toNatClampNeg dp.toNatClampNeg n.toNatClampNeg)))) = xw Ω (xul σ q1 (va_cpy (σ.2 q0) (σ.2 q1) sp.toNatClampNeg dp.toNatClampNeg n.toNatClampNeg)) := by
    have h1 := xw_set (σ := σ) (τ := xul σ q1 (va_cpy (σ.2 q0) (σ.2 q1) sp.toNatClampNeg dp.toNatClampNeg n.toNatClampNeg)) hs1 (fun _ _ => rfl) (xul_ne _ _ _)
    simpa [xce, xul] using h1
  rw [e1] at hP1 hD1
  exact k p e s m args below meth c H1 locs1 A ls' B hP1 hD1 hS1 hl
end XC
end
section
def xb (P : Prop) [Decidable P] : Int32 := if P then 1 else 0
theorem xb_t {P : Prop} [Decidable P] (h : P) : xb P = 1 := if_pos h
theorem xb_f {P : Prop} [Decidable P] (h : ¬ P) : xb P = 0 := if_neg h
theorem xb_01 (P : Prop) [Decidable P] : xb P = 0 ∨ xb P = 1 := by
  by_cases h : P
  · exact Or.inr (xb_t h)
  · exact Or.inl (xb_f h)
/-- a run whose answer is an int, a long, nothing -/
def xQi (K : Int32 → xH → Prop) : Option Value → xH → Prop := fun r τ => ∃ x, r = some (.int x) ∧ K x τ
def xQl (K : Int64 → xH → Prop) : Option Value → xH → Prop := fun r τ => ∃ x, r = some (.long x) ∧ K x τ
def xQv (K : xH → Prop) : Option Value → xH → Prop := fun r τ => r = none ∧ K τ
abbrev Evi (l : Launch) (Ω : xW) (M : xM) (as : List Value) (σ : xH) (K : Int32 → xH → Prop) : Prop := Ev l Ω M as σ (xQi K)
abbrev Evl (l : Launch) (Ω : xW) (M : xM) (as : List Value) (σ : xH) (K : Int64 → xH → Prop) : Prop := Ev l Ω M as σ (xQl K)
abbrev Evv (l : Launch) (Ω : xW) (M : xM) (as : List Value) (σ : xH) (K : xH → Prop) : Prop := Ev l Ω M as σ (xQv K)
theorem vi_mono {l : Launch} {Ω : xW} {M : xM} {as : List Value} {σ : xH} {K K' : Int32 → xH → Prop} (h : Evi l Ω M as σ K) (hq : ∀ x τ, K x τ → K' x τ) : Evi l Ω M as σ K' := v_mono h (fun _ τ ⟨x, e, k⟩ => ⟨x, e, hq x τ k⟩)
theorem vv_mono {l : Launch} {Ω : xW} {M : xM} {as : List Value} {σ : xH} {K K' : xH → Prop} (h : Evv l Ω M as σ K) (hq : ∀ τ, K τ → K' τ) : Evv l Ω M as σ K' := v_mono h (fun _ τ ⟨e, k⟩ => ⟨e, hq τ k⟩)
section XN
variable {l : Launch} {Ω : xW} {M N : xM} {pc idx : Nat} {ls : List (Option Value)} {st : List Value} {σ : xH} {Q Q2 : Option Value → xH → Prop}
theorem x_ireti {v : Int32} {K : Int32 → xH → Prop} (hd : decode (xcc M) pc = .ok (.ireturn, 1)) (hr : xret M = some .int) (hq : K v σ) : Ex l Ω M pc ls [.int v] σ (xQi K) := x_iret hd hr ⟨v, rfl, hq⟩
theorem x_iretz {v : Int32} {K : Int32 → xH → Prop} (hd : decode (xcc M) pc = .ok (.ireturn, 1)) (hr : xret M = some .boolean) (hn : v = 0 ∨ v = 1) (hq : K v σ) : Ex l Ω M pc ls [.int v] σ (xQi K) := x_zret hd hr hn ⟨v, rfl, hq⟩
theorem x_retl {v : Int64} {K : Int64 → xH → Prop} (hd : decode (xcc M) pc = .ok (.lreturn, 1)) (hr : xret M = some .long) (hq : K v σ) : Ex l Ω M pc ls [.long v] σ (xQl K) := x_lret hd hr ⟨v, rfl, hq⟩
theorem x_retv {K : xH → Prop} (hd : decode (xcc M) pc = .ok (.return_, 1)) (hr : xret M = none) (hq : K σ) : Ex l Ω M pc ls [] σ (xQv K) := x_vret hd hr ⟨rfl, hq⟩
theorem x_iconstN {n : Nat} (hd : decode (xcc M) pc = .ok (.iconst n, 1)) (k : Ex l Ω M (pc + 1) ls (.int (nI n) :: st) σ Q) : Ex l Ω M pc ls st σ Q := x_iconst hd (Int32.ofInt_eq_ofNat) k
theorem x_iaddN {a b : Nat} (hd : decode (xcc M) pc = .ok (.iadd, 1)) (k : Ex l Ω M (pc + 1) ls (.int (nI (a + b)) :: st) σ Q) : Ex l Ω M pc ls (.int (nI b) :: .int (nI a) :: st) σ Q := x_iadd hd (by rw [nI_add]; exact k)
theorem x_imulN {a b : Nat} (hd : decode (xcc M) pc = .ok (.imul, 1)) (k : Ex l Ω M (pc + 1) ls (.int (nI (a * b)) :: st) σ Q) : Ex l Ω M pc ls (.int (nI b) :: .int (nI a) :: st) σ Q := x_imul hd (by rw [pk_mul]; exact k)
theorem x_isubN {a b : Nat} (h : b ≤ a) (hd : decode (xcc M) pc = .ok (.isub, 1)) (k : Ex l Ω M (pc + 1) ls (.int (nI (a - b)) :: st) σ Q) : Ex l Ω M pc ls (.int (nI b) :: .int (nI a) :: st) σ Q := x_isub hd (by rw [pk_sub h]; exact k)
theorem x_idivN {a b : Nat} (ha : a < 2 ^ 31) (h0 : 0 < b) (hb : b < 2 ^ 31) (hd : decode (xcc M) pc = .ok (.idiv, 1)) (k : Ex l Ω M (pc + 1) ls (.int (nI (a / b)) :: st) σ Q) : Ex l Ω M pc ls (.int (nI b) :: .int (nI a) :: st) σ Q := x_idiv hd (nI_ne0 h0 hb) (by rw [pk_div ha h0 hb]; exact k)
theorem x_iincN {i a : Nat} {ls2 : List (Option Value)} (hd : decode (xcc M) pc = .ok (.iinc i 1, 3)) (hv : ls[i]? = some (some (.int (nI a)))) (hn : i < xnL M) (hs : xs1 (.int (nI (a + 1))) i ls = ls2) (k : Ex l Ω M (pc + 3) ls2 st σ Q) : Ex l Ω M pc ls st σ Q := x_iinc hd hv (by rw [nI_succ]; rfl) hn hs k
theorem x_ialdN {q n b t j : Nat} (hd : decode (xcc M) pc = .ok (.iaload, 1)) (hs : (xsh Ω)[q]? = some (.inl (0, n, b, t))) (hj : j < n) (hn : n < 2 ^ 31) (k : Ex l Ω M (pc + 1) ls (.int (σ.1 q j) :: st) σ Q) : Ex l Ω M pc ls (.int (nI j) :: .ref q :: st) σ Q := x_iald hd hs (vp_in_nI hj hn) (by rw [nI_clamp (Nat.lt_trans hj hn)]; exact k)
theorem x_laldN {q n b t j : Nat} (hd : decode (xcc M) pc = .ok (.laload, 1)) (hs : (xsh Ω)[q]? = some (.inl (1, n, b, t))) (hj : j < n) (hn : n < 2 ^ 31) (k : Ex l Ω M (pc + 1) ls (.long (σ.2 q j) :: st) σ Q) : Ex l Ω M pc ls (.int (nI j) :: .ref q :: st) σ Q := x_lald hd hs (vp_in_nI hj hn) (by rw [nI_clamp (Nat.lt_trans hj hn)]; exact k)
theorem x_caldN {q n b t j : Nat} (h2 : xt2 Ω = .char) (hd : decode (xcc M) pc = .ok (.caload, 1)) (hs : (xsh Ω)[q]? = some (.inl (2, n, b, t))) (hj : j < n) (hn : n < 2 ^ 31) (k : Ex l Ω M (pc + 1) ls (.int (σ.1 q j) :: st) σ Q) : Ex l Ω M pc ls (.int (nI j) :: .ref q :: st) σ Q := x_cald h2 hd hs (vp_in_nI hj hn) (by rw [nI_clamp (Nat.lt_trans hj hn)]; exact k)
theorem x_aaldN {q n b t j : Nat} {C : String} (h2 : xt2 Ω = .object C) (hd : decode (xcc M) pc = .ok (.aaload, 1)) (hs : (xsh Ω)[q]? = some (.inl (3, n, b, t))) (hj : j < n) (hn : n < 2 ^ 31) (k : Ex l Ω M (pc + 1) ls (.ref (b + t * j) :: st) σ Q) : Ex l Ω M pc ls (.int (nI j) :: .ref q :: st) σ Q := x_aald h2 hd hs (vp_in_nI hj hn) (by rw [nI_clamp (Nat.lt_trans hj hn)]; exact k)
theorem x_iastN {q n b t j : Nat} {v : Int32} (hd : decode (xcc M) pc = .ok (.iastore, 1)) (hs : (xsh Ω)[q]? = some (.inl (0, n, b, t))) (hj : j < n) (hn : n < 2 ^ 31) (k : Ex l Ω M (pc + 1) ls st (xpi σ q j v) Q) : Ex l Ω M pc ls (.int v :: .int (nI j) :: .ref q :: st) σ Q := x_iast hd hs (vp_in_nI hj hn) (by rw [nI_clamp (Nat.lt_trans hj hn)]; exact k)
theorem x_lastN {q n b t j : Nat} {v : Int64} (hd : decode (xcc M) pc = .ok (.lastore, 1)) (hs : (xsh Ω)[q]? = some (.inl (1, n, b, t))) (hj : j < n) (hn : n < 2 ^ 31) (k : Ex l Ω M (pc + 1) ls st (xpl σ q j v) Q) : Ex l Ω M pc ls (.long v :: .int (nI j) :: .ref q :: st) σ Q := x_last hd hs (vp_in_nI hj hn) (by rw [nI_clamp (Nat.lt_trans hj hn)]; exact k)
theorem x_iceqN {a b : Nat} {off : Int} {tgt : Nat} (ha : a < 2 ^ 31) (hb : b < 2 ^ 31) (hd : decode (xcc M) pc = .ok (.if_icmp .eq off, 3)) (ht : (pc : Int) + off = (tgt : Int)) (kt : a = b → Ex l Ω M tgt ls st σ Q) (kf : a ≠ b → Ex l Ω M (pc + 3) ls st σ Q) : Ex l Ω M pc ls (.int (nI b) :: .int (nI a) :: st) σ Q := x_iceq hd ht (fun h => kt ((nI_eq ha hb).mp h)) (fun h => kf (fun z => h ((nI_eq ha hb).mpr z)))
theorem x_icneN {a b : Nat} {off : Int} {tgt : Nat} (ha : a < 2 ^ 31) (hb : b < 2 ^ 31) (hd : decode (xcc M) pc = .ok (.if_icmp .ne off, 3)) (ht : (pc : Int) + off = (tgt : Int)) (kt : a ≠ b → Ex l Ω M tgt ls st σ Q) (kf : a = b → Ex l Ω M (pc + 3) ls st σ Q) : Ex l Ω M pc ls (.int (nI b) :: .int (nI a) :: st) σ Q := x_icne hd ht (fun h => kt (fun z => h ((nI_eq ha hb).mpr z))) (fun h => kf ((nI_eq ha hb).mp h))
theorem x_icltN {a b : Nat} {off : Int} {tgt : Nat} (ha : a < 2 ^ 31) (hb : b < 2 ^ 31) (hd : decode (xcc M) pc = .ok (.if_icmp .lt off, 3)) (ht : (pc : Int) + off = (tgt : Int)) (kt : a < b → Ex l Ω M tgt ls st σ Q) (kf : b ≤ a → Ex l Ω M (pc + 3) ls st σ Q) : Ex l Ω M pc ls (.int (nI b) :: .int (nI a) :: st) σ Q := x_iclt hd ht (fun h => kt ((nI_ltI ha hb).mp h)) (fun h => kf (Nat.not_lt.mp fun z => h ((nI_ltI ha hb).mpr z)))
theorem x_icgeN {a b : Nat} {off : Int} {tgt : Nat} (ha : a < 2 ^ 31) (hb : b < 2 ^ 31) (hd : decode (xcc M) pc = .ok (.if_icmp .ge off, 3)) (ht : (pc : Int) + off = (tgt : Int)) (kt : b ≤ a → Ex l Ω M tgt ls st σ Q) (kf : a < b → Ex l Ω M (pc + 3) ls st σ Q) : Ex l Ω M pc ls (.int (nI b) :: .int (nI a) :: st) σ Q := x_icge hd ht (fun h => kt ((nI_leI hb ha).mp h)) (fun h => kf (Nat.not_le.mp fun z => h ((nI_leI hb ha).mpr z)))
theorem x_icgtN {a b : Nat} {off : Int} {tgt : Nat} (ha : a < 2 ^ 31) (hb : b < 2 ^ 31) (hd : decode (xcc M) pc = .ok (.if_icmp .gt off, 3)) (ht : (pc : Int) + off = (tgt : Int)) (kt : b < a → Ex l Ω M tgt ls st σ Q) (kf : a ≤ b → Ex l Ω M (pc + 3) ls st σ Q) : Ex l Ω M pc ls (.int (nI b) :: .int (nI a) :: st) σ Q := x_icgt hd ht (fun h => kt ((nI_ltI hb ha).mp h)) (fun h => kf (Nat.not_lt.mp fun z => h ((nI_ltI hb ha).mpr z)))
theorem x_icleN {a b : Nat} {off : Int} {tgt : Nat} (ha : a < 2 ^ 31) (hb : b < 2 ^ 31) (hd : decode (xcc M) pc = .ok (.if_icmp .le off, 3)) (ht : (pc : Int) + off = (tgt : Int)) (kt : a ≤ b → Ex l Ω M tgt ls st σ Q) (kf : b < a → Ex l Ω M (pc + 3) ls st σ Q) : Ex l Ω M pc ls (.int (nI b) :: .int (nI a) :: st) σ Q := x_icle hd ht (fun h => kt ((nI_leI ha hb).mp h)) (fun h => kf (Nat.not_le.mp fun z => h ((nI_leI ha hb).mpr z)))
theorem x_ifeqP {P : Prop} [Decidable P] {off : Int} {tgt : Nat} (hd : decode (xcc M) pc = .ok (.ifCond .eq off, 3)) (ht : (pc : Int) + off = (tgt : Int)) (kt : ¬ P → Ex l Ω M tgt ls st σ Q) (kf : P → Ex l Ω M (pc + 3) ls st σ Q) : Ex l Ω M pc ls (.int (xb P) :: st) σ Q := x_ifeq hd ht (fun h => kt (fun z => by rw [xb_t z] at h; exact absurd h (by decide))) (fun h => kf (Classical.byContradiction fun z => h (xb_f z)))
theorem x_ifneP {P : Prop} [Decidable P] {off : Int} {tgt : Nat} (hd : decode (xcc M) pc = .ok (.ifCond .ne off, 3)) (ht : (pc : Int) + off = (tgt : Int)) (kt : P → Ex l Ω M tgt ls st σ Q) (kf : ¬ P → Ex l Ω M (pc + 3) ls st σ Q) : Ex l Ω M pc ls (.int (xb P) :: st) σ Q := x_ifne hd ht (fun h => kt (Classical.byContradiction fun z => h (xb_f z))) (fun h => kf (fun z => by rw [xb_t z] at h; exact absurd h (by decide)))
theorem x_v0i {b ci n0 : Nat} {fs : List xF} {T : u_T} (hd : decode (xcc M) pc = .ok (.invokevirtual idx, 3)) (hN : xokV N 0) (hlk : Cond.methodLink (xy M).cls idx (xy N) ∈ gt) (hs : (xsh Ω)[b]? = some (.inr (ci, fs))) (hc : vwCl[ci]? = some ((xy N).cls, T, n0)) (hlen : (xarg (.ref b :: [])).length ≤ xnL N) (hfit : xfit M N) (hst : (st.map fun v => v.category).sum ≤ 8) (hv : Evi l Ω N (.ref b :: []) σ (fun x τ => Ex l Ω M (pc + 3) ls (.int x :: st) τ Q)) : Ex l Ω M pc ls (.ref b :: st) σ Q := x_v0 hd hN hlk hs hc hlen hfit hst hv (fun r τ ⟨x, e, h⟩ => by subst e; exact h)
theorem x_v0v {b ci n0 : Nat} {fs : List xF} {T : u_T} (hd : decode (xcc M) pc = .ok (.invokevirtual idx, 3)) (hN : xokV N 0) (hlk : Cond.methodLink (xy M).cls idx (xy N) ∈ gt) (hs : (xsh Ω)[b]? = some (.inr (ci, fs))) (hc : vwCl[ci]? = some ((xy N).cls, T, n0)) (hlen : (xarg (.ref b :: [])).length ≤ xnL N) (hfit : xfit M N) (hst : (st.map fun v => v.category).sum ≤ 8) (hv : Evv l Ω N (.ref b :: []) σ (fun τ => Ex l Ω M (pc + 3) ls st τ Q)) : Ex l Ω M pc ls (.ref b :: st) σ Q := x_v0 hd hN hlk hs hc hlen hfit hst hv (fun r τ ⟨e, h⟩ => by subst e; exact h)
theorem x_v0l {b ci n0 : Nat} {fs : List xF} {T : u_T} (hd : decode (xcc M) pc = .ok (.invokevirtual idx, 3)) (hN : xokV N 0) (hlk : Cond.methodLink (xy M).cls idx (xy N) ∈ gt) (hs : (xsh Ω)[b]? = some (.inr (ci, fs))) (hc : vwCl[ci]? = some ((xy N).cls, T, n0)) (hlen : (xarg (.ref b :: [])).length ≤ xnL N) (hfit : xfit M N) (hst : (st.map fun v => v.category).sum ≤ 8) (hv : Evl l Ω N (.ref b :: []) σ (fun x τ => Ex l Ω M (pc + 3) ls (.long x :: st) τ Q)) : Ex l Ω M pc ls (.ref b :: st) σ Q := x_v0 hd hN hlk hs hc hlen hfit hst hv (fun r τ ⟨x, e, h⟩ => by subst e; exact h)
theorem x_v1i {b ci n0 : Nat} {fs : List xF} {T : u_T} {a0 : Value} (hd : decode (xcc M) pc = .ok (.invokevirtual idx, 3)) (hN : xokV N 1) (hlk : Cond.methodLink (xy M).cls idx (xy N) ∈ gt) (hs : (xsh Ω)[b]? = some (.inr (ci, fs))) (hc : vwCl[ci]? = some ((xy N).cls, T, n0)) (hlen : (xarg (.ref b :: [a0])).length ≤ xnL N) (hfit : xfit M N) (hst : (st.map fun v => v.category).sum ≤ 8) (hv : Evi l Ω N (.ref b :: [a0]) σ (fun x τ => Ex l Ω M (pc + 3) ls (.int x :: st) τ Q)) : Ex l Ω M pc ls (a0 :: .ref b :: st) σ Q := x_v1 hd hN hlk hs hc hlen hfit hst hv (fun r τ ⟨x, e, h⟩ => by subst e; exact h)
theorem x_v1v {b ci n0 : Nat} {fs : List xF} {T : u_T} {a0 : Value} (hd : decode (xcc M) pc = .ok (.invokevirtual idx, 3)) (hN : xokV N 1) (hlk : Cond.methodLink (xy M).cls idx (xy N) ∈ gt) (hs : (xsh Ω)[b]? = some (.inr (ci, fs))) (hc : vwCl[ci]? = some ((xy N).cls, T, n0)) (hlen : (xarg (.ref b :: [a0])).length ≤ xnL N) (hfit : xfit M N) (hst : (st.map fun v => v.category).sum ≤ 8) (hv : Evv l Ω N (.ref b :: [a0]) σ (fun τ => Ex l Ω M (pc + 3) ls st τ Q)) : Ex l Ω M pc ls (a0 :: .ref b :: st) σ Q := x_v1 hd hN hlk hs hc hlen hfit hst hv (fun r τ ⟨e, h⟩ => by subst e; exact h)
theorem x_v1l {b ci n0 : Nat} {fs : List xF} {T : u_T} {a0 : Value} (hd : decode (xcc M) pc = .ok (.invokevirtual idx, 3)) (hN : xokV N 1) (hlk : Cond.methodLink (xy M).cls idx (xy N) ∈ gt) (hs : (xsh Ω)[b]? = some (.inr (ci, fs))) (hc : vwCl[ci]? = some ((xy N).cls, T, n0)) (hlen : (xarg (.ref b :: [a0])).length ≤ xnL N) (hfit : xfit M N) (hst : (st.map fun v => v.category).sum ≤ 8) (hv : Evl l Ω N (.ref b :: [a0]) σ (fun x τ => Ex l Ω M (pc + 3) ls (.long x :: st) τ Q)) : Ex l Ω M pc ls (a0 :: .ref b :: st) σ Q := x_v1 hd hN hlk hs hc hlen hfit hst hv (fun r τ ⟨x, e, h⟩ => by subst e; exact h)
theorem x_v2i {b ci n0 : Nat} {fs : List xF} {T : u_T} {a0 a1 : Value} (hd : decode (xcc M) pc = .ok (.invokevirtual idx, 3)) (hN : xokV N 2) (hlk : Cond.methodLink (xy M).cls idx (xy N) ∈ gt) (hs : (xsh Ω)[b]? = some (.inr (ci, fs))) (hc : vwCl[ci]? = some ((xy N).cls, T, n0)) (hlen : (xarg (.ref b :: [a0, a1])).length ≤ xnL N) (hfit : xfit M N) (hst : (st.map fun v => v.category).sum ≤ 8) (hv : Evi l Ω N (.ref b :: [a0, a1]) σ (fun x τ => Ex l Ω M (pc + 3) ls (.int x :: st) τ Q)) : Ex l Ω M pc ls (a1 :: a0 :: .ref b :: st) σ Q := x_v2 hd hN hlk hs hc hlen hfit hst hv (fun r τ ⟨x, e, h⟩ => by subst e; exact h)
theorem x_v2v {b ci n0 : Nat} {fs : List xF} {T : u_T} {a0 a1 : Value} (hd : decode (xcc M) pc = .ok (.invokevirtual idx, 3)) (hN : xokV N 2) (hlk : Cond.methodLink (xy M).cls idx (xy N) ∈ gt) (hs : (xsh Ω)[b]? = some (.inr (ci, fs))) (hc : vwCl[ci]? = some ((xy N).cls, T, n0)) (hlen : (xarg (.ref b :: [a0, a1])).length ≤ xnL N) (hfit : xfit M N) (hst : (st.map fun v => v.category).sum ≤ 8) (hv : Evv l Ω N (.ref b :: [a0, a1]) σ (fun τ => Ex l Ω M (pc + 3) ls st τ Q)) : Ex l Ω M pc ls (a1 :: a0 :: .ref b :: st) σ Q := x_v2 hd hN hlk hs hc hlen hfit hst hv (fun r τ ⟨e, h⟩ => by subst e; exact h)
theorem x_v2l {b ci n0 : Nat} {fs : List xF} {T : u_T} {a0 a1 : Value} (hd : decode (xcc M) pc = .ok (.invokevirtual idx, 3)) (hN : xokV N 2) (hlk : Cond.methodLink (xy M).cls idx (xy N) ∈ gt) (hs : (xsh Ω)[b]? = some (.inr (ci, fs))) (hc : vwCl[ci]? = some ((xy N).cls, T, n0)) (hlen : (xarg (.ref b :: [a0, a1])).length ≤ xnL N) (hfit : xfit M N) (hst : (st.map fun v => v.category).sum ≤ 8) (hv : Evl l Ω N (.ref b :: [a0, a1]) σ (fun x τ => Ex l Ω M (pc + 3) ls (.long x :: st) τ Q)) : Ex l Ω M pc ls (a1 :: a0 :: .ref b :: st) σ Q := x_v2 hd hN hlk hs hc hlen hfit hst hv (fun r τ ⟨x, e, h⟩ => by subst e; exact h)
theorem x_v3i {b ci n0 : Nat} {fs : List xF} {T : u_T} {a0 a1 a2 : Value} (hd : decode (xcc M) pc = .ok (.invokevirtual idx, 3)) (hN : xokV N 3) (hlk : Cond.methodLink (xy M).cls idx (xy N) ∈ gt) (hs : (xsh Ω)[b]? = some (.inr (ci, fs))) (hc : vwCl[ci]? = some ((xy N).cls, T, n0)) (hlen : (xarg (.ref b :: [a0, a1, a2])).length ≤ xnL N) (hfit : xfit M N) (hst : (st.map fun v => v.category).sum ≤ 8) (hv : Evi l Ω N (.ref b :: [a0, a1, a2]) σ (fun x τ => Ex l Ω M (pc + 3) ls (.int x :: st) τ Q)) : Ex l Ω M pc ls (a2 :: a1 :: a0 :: .ref b :: st) σ Q := x_v3 hd hN hlk hs hc hlen hfit hst hv (fun r τ ⟨x, e, h⟩ => by subst e; exact h)
theorem x_v3v {b ci n0 : Nat} {fs : List xF} {T : u_T} {a0 a1 a2 : Value} (hd : decode (xcc M) pc = .ok (.invokevirtual idx, 3)) (hN : xokV N 3) (hlk : Cond.methodLink (xy M).cls idx (xy N) ∈ gt) (hs : (xsh Ω)[b]? = some (.inr (ci, fs))) (hc : vwCl[ci]? = some ((xy N).cls, T, n0)) (hlen : (xarg (.ref b :: [a0, a1, a2])).length ≤ xnL N) (hfit : xfit M N) (hst : (st.map fun v => v.category).sum ≤ 8) (hv : Evv l Ω N (.ref b :: [a0, a1, a2]) σ (fun τ => Ex l Ω M (pc + 3) ls st τ Q)) : Ex l Ω M pc ls (a2 :: a1 :: a0 :: .ref b :: st) σ Q := x_v3 hd hN hlk hs hc hlen hfit hst hv (fun r τ ⟨e, h⟩ => by subst e; exact h)
theorem x_v3l {b ci n0 : Nat} {fs : List xF} {T : u_T} {a0 a1 a2 : Value} (hd : decode (xcc M) pc = .ok (.invokevirtual idx, 3)) (hN : xokV N 3) (hlk : Cond.methodLink (xy M).cls idx (xy N) ∈ gt) (hs : (xsh Ω)[b]? = some (.inr (ci, fs))) (hc : vwCl[ci]? = some ((xy N).cls, T, n0)) (hlen : (xarg (.ref b :: [a0, a1, a2])).length ≤ xnL N) (hfit : xfit M N) (hst : (st.map fun v => v.category).sum ≤ 8) (hv : Evl l Ω N (.ref b :: [a0, a1, a2]) σ (fun x τ => Ex l Ω M (pc + 3) ls (.long x :: st) τ Q)) : Ex l Ω M pc ls (a2 :: a1 :: a0 :: .ref b :: st) σ Q := x_v3 hd hN hlk hs hc hlen hfit hst hv (fun r τ ⟨x, e, h⟩ => by subst e; exact h)
theorem x_v4i {b ci n0 : Nat} {fs : List xF} {T : u_T} {a0 a1 a2 a3 : Value} (hd : decode (xcc M) pc = .ok (.invokevirtual idx, 3)) (hN : xokV N 4) (hlk : Cond.methodLink (xy M).cls idx (xy N) ∈ gt) (hs : (xsh Ω)[b]? = some (.inr (ci, fs))) (hc : vwCl[ci]? = some ((xy N).cls, T, n0)) (hlen : (xarg (.ref b :: [a0, a1, a2, a3])).length ≤ xnL N) (hfit : xfit M N) (hst : (st.map fun v => v.category).sum ≤ 8) (hv : Evi l Ω N (.ref b :: [a0, a1, a2, a3]) σ (fun x τ => Ex l Ω M (pc + 3) ls (.int x :: st) τ Q)) : Ex l Ω M pc ls (a3 :: a2 :: a1 :: a0 :: .ref b :: st) σ Q := x_v4 hd hN hlk hs hc hlen hfit hst hv (fun r τ ⟨x, e, h⟩ => by subst e; exact h)
theorem x_v4v {b ci n0 : Nat} {fs : List xF} {T : u_T} {a0 a1 a2 a3 : Value} (hd : decode (xcc M) pc = .ok (.invokevirtual idx, 3)) (hN : xokV N 4) (hlk : Cond.methodLink (xy M).cls idx (xy N) ∈ gt) (hs : (xsh Ω)[b]? = some (.inr (ci, fs))) (hc : vwCl[ci]? = some ((xy N).cls, T, n0)) (hlen : (xarg (.ref b :: [a0, a1, a2, a3])).length ≤ xnL N) (hfit : xfit M N) (hst : (st.map fun v => v.category).sum ≤ 8) (hv : Evv l Ω N (.ref b :: [a0, a1, a2, a3]) σ (fun τ => Ex l Ω M (pc + 3) ls st τ Q)) : Ex l Ω M pc ls (a3 :: a2 :: a1 :: a0 :: .ref b :: st) σ Q := x_v4 hd hN hlk hs hc hlen hfit hst hv (fun r τ ⟨e, h⟩ => by subst e; exact h)
theorem x_v5i {b ci n0 : Nat} {fs : List xF} {T : u_T} {a0 a1 a2 a3 a4 : Value} (hd : decode (xcc M) pc = .ok (.invokevirtual idx, 3)) (hN : xokV N 5) (hlk : Cond.methodLink (xy M).cls idx (xy N) ∈ gt) (hs : (xsh Ω)[b]? = some (.inr (ci, fs))) (hc : vwCl[ci]? = some ((xy N).cls, T, n0)) (hlen : (xarg (.ref b :: [a0, a1, a2, a3, a4])).length ≤ xnL N) (hfit : xfit M N) (hst : (st.map fun v => v.category).sum ≤ 8) (hv : Evi l Ω N (.ref b :: [a0, a1, a2, a3, a4]) σ (fun x τ => Ex l Ω M (pc + 3) ls (.int x :: st) τ Q)) : Ex l Ω M pc ls (a4 :: a3 :: a2 :: a1 :: a0 :: .ref b :: st) σ Q := x_v5 hd hN hlk hs hc hlen hfit hst hv (fun r τ ⟨x, e, h⟩ => by subst e; exact h)
theorem x_v5v {b ci n0 : Nat} {fs : List xF} {T : u_T} {a0 a1 a2 a3 a4 : Value} (hd : decode (xcc M) pc = .ok (.invokevirtual idx, 3)) (hN : xokV N 5) (hlk : Cond.methodLink (xy M).cls idx (xy N) ∈ gt) (hs : (xsh Ω)[b]? = some (.inr (ci, fs))) (hc : vwCl[ci]? = some ((xy N).cls, T, n0)) (hlen : (xarg (.ref b :: [a0, a1, a2, a3, a4])).length ≤ xnL N) (hfit : xfit M N) (hst : (st.map fun v => v.category).sum ≤ 8) (hv : Evv l Ω N (.ref b :: [a0, a1, a2, a3, a4]) σ (fun τ => Ex l Ω M (pc + 3) ls st τ Q)) : Ex l Ω M pc ls (a4 :: a3 :: a2 :: a1 :: a0 :: .ref b :: st) σ Q := x_v5 hd hN hlk hs hc hlen hfit hst hv (fun r τ ⟨e, h⟩ => by subst e; exact h)
theorem x_v6i {b ci n0 : Nat} {fs : List xF} {T : u_T} {a0 a1 a2 a3 a4 a5 : Value} (hd : decode (xcc M) pc = .ok (.invokevirtual idx, 3)) (hN : xokV N 6) (hlk : Cond.methodLink (xy M).cls idx (xy N) ∈ gt) (hs : (xsh Ω)[b]? = some (.inr (ci, fs))) (hc : vwCl[ci]? = some ((xy N).cls, T, n0)) (hlen : (xarg (.ref b :: [a0, a1, a2, a3, a4, a5])).length ≤ xnL N) (hfit : xfit M N) (hst : (st.map fun v => v.category).sum ≤ 8) (hv : Evi l Ω N (.ref b :: [a0, a1, a2, a3, a4, a5]) σ (fun x τ => Ex l Ω M (pc + 3) ls (.int x :: st) τ Q)) : Ex l Ω M pc ls (a5 :: a4 :: a3 :: a2 :: a1 :: a0 :: .ref b :: st) σ Q := x_v6 hd hN hlk hs hc hlen hfit hst hv (fun r τ ⟨x, e, h⟩ => by subst e; exact h)
theorem x_v6v {b ci n0 : Nat} {fs : List xF} {T : u_T} {a0 a1 a2 a3 a4 a5 : Value} (hd : decode (xcc M) pc = .ok (.invokevirtual idx, 3)) (hN : xokV N 6) (hlk : Cond.methodLink (xy M).cls idx (xy N) ∈ gt) (hs : (xsh Ω)[b]? = some (.inr (ci, fs))) (hc : vwCl[ci]? = some ((xy N).cls, T, n0)) (hlen : (xarg (.ref b :: [a0, a1, a2, a3, a4, a5])).length ≤ xnL N) (hfit : xfit M N) (hst : (st.map fun v => v.category).sum ≤ 8) (hv : Evv l Ω N (.ref b :: [a0, a1, a2, a3, a4, a5]) σ (fun τ => Ex l Ω M (pc + 3) ls st τ Q)) : Ex l Ω M pc ls (a5 :: a4 :: a3 :: a2 :: a1 :: a0 :: .ref b :: st) σ Q := x_v6 hd hN hlk hs hc hlen hfit hst hv (fun r τ ⟨e, h⟩ => by subst e; exact h)
theorem x_s1i {a0 : Value} (hd : decode (xcc M) pc = .ok (.invokestatic idx, 3)) (hN : xokS N 1) (hlk : Cond.methodLink (xy M).cls idx (xy N) ∈ gt) (hlen : (xarg [a0]).length ≤ xnL N) (hfit : xfit M N) (hst : (st.map fun v => v.category).sum ≤ 8) (hv : Evi l Ω N [a0] σ (fun x τ => Ex l Ω M (pc + 3) ls (.int x :: st) τ Q)) : Ex l Ω M pc ls (a0 :: st) σ Q := x_s1 hd hN hlk hlen hfit hst hv (fun r τ ⟨x, e, h⟩ => by subst e; exact h)
theorem x_s1v {a0 : Value} (hd : decode (xcc M) pc = .ok (.invokestatic idx, 3)) (hN : xokS N 1) (hlk : Cond.methodLink (xy M).cls idx (xy N) ∈ gt) (hlen : (xarg [a0]).length ≤ xnL N) (hfit : xfit M N) (hst : (st.map fun v => v.category).sum ≤ 8) (hv : Evv l Ω N [a0] σ (fun τ => Ex l Ω M (pc + 3) ls st τ Q)) : Ex l Ω M pc ls (a0 :: st) σ Q := x_s1 hd hN hlk hlen hfit hst hv (fun r τ ⟨e, h⟩ => by subst e; exact h)
theorem x_s1l {a0 : Value} (hd : decode (xcc M) pc = .ok (.invokestatic idx, 3)) (hN : xokS N 1) (hlk : Cond.methodLink (xy M).cls idx (xy N) ∈ gt) (hlen : (xarg [a0]).length ≤ xnL N) (hfit : xfit M N) (hst : (st.map fun v => v.category).sum ≤ 8) (hv : Evl l Ω N [a0] σ (fun x τ => Ex l Ω M (pc + 3) ls (.long x :: st) τ Q)) : Ex l Ω M pc ls (a0 :: st) σ Q := x_s1 hd hN hlk hlen hfit hst hv (fun r τ ⟨x, e, h⟩ => by subst e; exact h)
theorem x_s2i {a0 a1 : Value} (hd : decode (xcc M) pc = .ok (.invokestatic idx, 3)) (hN : xokS N 2) (hlk : Cond.methodLink (xy M).cls idx (xy N) ∈ gt) (hlen : (xarg [a0, a1]).length ≤ xnL N) (hfit : xfit M N) (hst : (st.map fun v => v.category).sum ≤ 8) (hv : Evi l Ω N [a0, a1] σ (fun x τ => Ex l Ω M (pc + 3) ls (.int x :: st) τ Q)) : Ex l Ω M pc ls (a1 :: a0 :: st) σ Q := x_s2 hd hN hlk hlen hfit hst hv (fun r τ ⟨x, e, h⟩ => by subst e; exact h)
theorem x_s2v {a0 a1 : Value} (hd : decode (xcc M) pc = .ok (.invokestatic idx, 3)) (hN : xokS N 2) (hlk : Cond.methodLink (xy M).cls idx (xy N) ∈ gt) (hlen : (xarg [a0, a1]).length ≤ xnL N) (hfit : xfit M N) (hst : (st.map fun v => v.category).sum ≤ 8) (hv : Evv l Ω N [a0, a1] σ (fun τ => Ex l Ω M (pc + 3) ls st τ Q)) : Ex l Ω M pc ls (a1 :: a0 :: st) σ Q := x_s2 hd hN hlk hlen hfit hst hv (fun r τ ⟨e, h⟩ => by subst e; exact h)
theorem x_s2l {a0 a1 : Value} (hd : decode (xcc M) pc = .ok (.invokestatic idx, 3)) (hN : xokS N 2) (hlk : Cond.methodLink (xy M).cls idx (xy N) ∈ gt) (hlen : (xarg [a0, a1]).length ≤ xnL N) (hfit : xfit M N) (hst : (st.map fun v => v.category).sum ≤ 8) (hv : Evl l Ω N [a0, a1] σ (fun x τ => Ex l Ω M (pc + 3) ls (.long x :: st) τ Q)) : Ex l Ω M pc ls (a1 :: a0 :: st) σ Q := x_s2 hd hN hlk hlen hfit hst hv (fun r τ ⟨x, e, h⟩ => by subst e; exact h)
theorem x_s3i {a0 a1 a2 : Value} (hd : decode (xcc M) pc = .ok (.invokestatic idx, 3)) (hN : xokS N 3) (hlk : Cond.methodLink (xy M).cls idx (xy N) ∈ gt) (hlen : (xarg [a0, a1, a2]).length ≤ xnL N) (hfit : xfit M N) (hst : (st.map fun v => v.category).sum ≤ 8) (hv : Evi l Ω N [a0, a1, a2] σ (fun x τ => Ex l Ω M (pc + 3) ls (.int x :: st) τ Q)) : Ex l Ω M pc ls (a2 :: a1 :: a0 :: st) σ Q := x_s3 hd hN hlk hlen hfit hst hv (fun r τ ⟨x, e, h⟩ => by subst e; exact h)
theorem x_s3v {a0 a1 a2 : Value} (hd : decode (xcc M) pc = .ok (.invokestatic idx, 3)) (hN : xokS N 3) (hlk : Cond.methodLink (xy M).cls idx (xy N) ∈ gt) (hlen : (xarg [a0, a1, a2]).length ≤ xnL N) (hfit : xfit M N) (hst : (st.map fun v => v.category).sum ≤ 8) (hv : Evv l Ω N [a0, a1, a2] σ (fun τ => Ex l Ω M (pc + 3) ls st τ Q)) : Ex l Ω M pc ls (a2 :: a1 :: a0 :: st) σ Q := x_s3 hd hN hlk hlen hfit hst hv (fun r τ ⟨e, h⟩ => by subst e; exact h)
theorem x_s3l {a0 a1 a2 : Value} (hd : decode (xcc M) pc = .ok (.invokestatic idx, 3)) (hN : xokS N 3) (hlk : Cond.methodLink (xy M).cls idx (xy N) ∈ gt) (hlen : (xarg [a0, a1, a2]).length ≤ xnL N) (hfit : xfit M N) (hst : (st.map fun v => v.category).sum ≤ 8) (hv : Evl l Ω N [a0, a1, a2] σ (fun x τ => Ex l Ω M (pc + 3) ls (.long x :: st) τ Q)) : Ex l Ω M pc ls (a2 :: a1 :: a0 :: st) σ Q := x_s3 hd hN hlk hlen hfit hst hv (fun r τ ⟨x, e, h⟩ => by subst e; exact h)
theorem x_s4i {a0 a1 a2 a3 : Value} (hd : decode (xcc M) pc = .ok (.invokestatic idx, 3)) (hN : xokS N 4) (hlk : Cond.methodLink (xy M).cls idx (xy N) ∈ gt) (hlen : (xarg [a0, a1, a2, a3]).length ≤ xnL N) (hfit : xfit M N) (hst : (st.map fun v => v.category).sum ≤ 8) (hv : Evi l Ω N [a0, a1, a2, a3] σ (fun x τ => Ex l Ω M (pc + 3) ls (.int x :: st) τ Q)) : Ex l Ω M pc ls (a3 :: a2 :: a1 :: a0 :: st) σ Q := x_s4 hd hN hlk hlen hfit hst hv (fun r τ ⟨x, e, h⟩ => by subst e; exact h)
theorem x_s4v {a0 a1 a2 a3 : Value} (hd : decode (xcc M) pc = .ok (.invokestatic idx, 3)) (hN : xokS N 4) (hlk : Cond.methodLink (xy M).cls idx (xy N) ∈ gt) (hlen : (xarg [a0, a1, a2, a3]).length ≤ xnL N) (hfit : xfit M N) (hst : (st.map fun v => v.category).sum ≤ 8) (hv : Evv l Ω N [a0, a1, a2, a3] σ (fun τ => Ex l Ω M (pc + 3) ls st τ Q)) : Ex l Ω M pc ls (a3 :: a2 :: a1 :: a0 :: st) σ Q := x_s4 hd hN hlk hlen hfit hst hv (fun r τ ⟨e, h⟩ => by subst e; exact h)
theorem x_s5i {a0 a1 a2 a3 a4 : Value} (hd : decode (xcc M) pc = .ok (.invokestatic idx, 3)) (hN : xokS N 5) (hlk : Cond.methodLink (xy M).cls idx (xy N) ∈ gt) (hlen : (xarg [a0, a1, a2, a3, a4]).length ≤ xnL N) (hfit : xfit M N) (hst : (st.map fun v => v.category).sum ≤ 8) (hv : Evi l Ω N [a0, a1, a2, a3, a4] σ (fun x τ => Ex l Ω M (pc + 3) ls (.int x :: st) τ Q)) : Ex l Ω M pc ls (a4 :: a3 :: a2 :: a1 :: a0 :: st) σ Q := x_s5 hd hN hlk hlen hfit hst hv (fun r τ ⟨x, e, h⟩ => by subst e; exact h)
theorem x_s5v {a0 a1 a2 a3 a4 : Value} (hd : decode (xcc M) pc = .ok (.invokestatic idx, 3)) (hN : xokS N 5) (hlk : Cond.methodLink (xy M).cls idx (xy N) ∈ gt) (hlen : (xarg [a0, a1, a2, a3, a4]).length ≤ xnL N) (hfit : xfit M N) (hst : (st.map fun v => v.category).sum ≤ 8) (hv : Evv l Ω N [a0, a1, a2, a3, a4] σ (fun τ => Ex l Ω M (pc + 3) ls st τ Q)) : Ex l Ω M pc ls (a4 :: a3 :: a2 :: a1 :: a0 :: st) σ Q := x_s5 hd hN hlk hlen hfit hst hv (fun r τ ⟨e, h⟩ => by subst e; exact h)
theorem x_s6i {a0 a1 a2 a3 a4 a5 : Value} (hd : decode (xcc M) pc = .ok (.invokestatic idx, 3)) (hN : xokS N 6) (hlk : Cond.methodLink (xy M).cls idx (xy N) ∈ gt) (hlen : (xarg [a0, a1, a2, a3, a4, a5]).length ≤ xnL N) (hfit : xfit M N) (hst : (st.map fun v => v.category).sum ≤ 8) (hv : Evi l Ω N [a0, a1, a2, a3, a4, a5] σ (fun x τ => Ex l Ω M (pc + 3) ls (.int x :: st) τ Q)) : Ex l Ω M pc ls (a5 :: a4 :: a3 :: a2 :: a1 :: a0 :: st) σ Q := x_s6 hd hN hlk hlen hfit hst hv (fun r τ ⟨x, e, h⟩ => by subst e; exact h)
theorem x_s6v {a0 a1 a2 a3 a4 a5 : Value} (hd : decode (xcc M) pc = .ok (.invokestatic idx, 3)) (hN : xokS N 6) (hlk : Cond.methodLink (xy M).cls idx (xy N) ∈ gt) (hlen : (xarg [a0, a1, a2, a3, a4, a5]).length ≤ xnL N) (hfit : xfit M N) (hst : (st.map fun v => v.category).sum ≤ 8) (hv : Evv l Ω N [a0, a1, a2, a3, a4, a5] σ (fun τ => Ex l Ω M (pc + 3) ls st τ Q)) : Ex l Ω M pc ls (a5 :: a4 :: a3 :: a2 :: a1 :: a0 :: st) σ Q := x_s6 hd hN hlk hlen hfit hst hv (fun r τ ⟨e, h⟩ => by subst e; exact h)
theorem x_pi {v u : Value} (hM : (xy M).cls = RX3) (hy : xy N = yX4_placeOf) (hi : idx = 43) (hd : decode (xcc M) pc = .ok (.invokestatic idx, 3)) (hN : xokS N 2) (hlen : (xarg [v, u]).length ≤ xnL N) (hfit : xfit M N) (hst : (st.map fun v => v.category).sum ≤ 8) (hv : Evi l Ω N [v, u] σ (fun x τ => Ex l Ω M (pc + 3) ls (.int x :: st) τ Q)) : Ex l Ω M pc ls (u :: v :: st) σ Q := x_callP hM hy hi hd hN (xlen_ok _ _ _ hlen) hfit hst hv (fun r τ ⟨x, e, h⟩ => by subst e; exact h)
end XN
/-! THE TWO WORLDS -/
abbrev tF (t : Nat) : List xF := [.inl false, .inl false, .inl false, .inr (t + 1), .inr (t + 2), .inr (t + 3), .inr (t + 4), .inr (t + 5)]
def shC : List xC := [.inr (3, [.inr 1, .inr 7, .inr 13, .inr 19, .inr 21, .inr 30, .inl false]),
  .inr (2, tF 1), .inl (0, 60, 0, 0), .inl (0, 60, 0, 0), .inl (0, 8, 0, 0), .inl (0, 8, 0, 0), .inl (0, 8, 0, 0),
  .inr (2, tF 7), .inl (0, 60, 0, 0), .inl (0, 60, 0, 0), .inl (0, 8, 0, 0), .inl (0, 8, 0, 0), .inl (0, 8, 0, 0),
  .inr (2, tF 13), .inl (0, 60, 0, 0), .inl (0, 60, 0, 0), .inl (0, 8, 0, 0), .inl (0, 8, 0, 0), .inl (0, 8, 0, 0),
  .inr (1, [.inr 20, .inl false, .inl false, .inl false, .inl false, .inl false]), .inl (0, 120, 0, 0),
  .inl (3, 4, 22, 2),
  .inr (0, [.inl false, .inl false, .inr 23]), .inl (1, 40, 0, 0), .inr (0, [.inl false, .inl false, .inr 25]), .inl (1, 40, 0, 0), .inr (0, [.inl false, .inl false, .inr 27]), .inl (1, 40, 0, 0), .inr (0, [.inl false, .inl false, .inr 29]), .inl (1, 40, 0, 0),
  .inl (0, 7, 0, 0)]
def shM : List xC := [.inr (4, [.inr 1, .inr 2, .inr 3, .inl false, .inr 4, .inr 5, .inl false, .inl false, .inr 6, .inl false, .inl false, .inl false, .inl false, .inl true, .inr 7, .inr 8, .inr 9, .inr 10, .inr 11, .inr 12, .inr 13]),
  .inl (0, 147, 0, 0), .inl (0, 147, 0, 0), .inl (0, 147, 0, 0), .inl (0, 7, 0, 0), .inl (0, 20, 0, 0), .inl (0, 120, 0, 0), .inl (2, 54, 0, 0), .inl (2, 18, 0, 0), .inl (2, 54, 0, 0), .inl (0, 4, 0, 0), .inl (0, 4, 0, 0), .inl (1, 160, 0, 0), .inl (1, 40, 0, 0)]
abbrev oC (ad : Nat → Nat) (D : va_G) (cy : Nat → ClassId) : xW := (shC, ad, D, cy, .object RX1)
abbrev oM (ad : Nat → Nat) (D : va_G) (cy : Nat → ClassId) : xW := (shM, ad, D, cy, .char)
/-- the places of the three towns -/
def isT (t : Nat) : Prop := t = 1 ∨ t = 7 ∨ t = 13
theorem isT1 : isT 1 := Or.inl rfl
theorem isT7 : isT 7 := Or.inr (Or.inl rfl)
theorem isT13 : isT 13 := Or.inr (Or.inr rfl)
theorem sT0 {t : Nat} (h : isT t) : shC[t]? = some (.inr (2, tF t)) := by rcases h with rfl | rfl | rfl <;> rfl
theorem sT1 {t : Nat} (h : isT t) : shC[t + 1]? = some (.inl (0, 60, 0, 0)) := by rcases h with rfl | rfl | rfl <;> rfl
theorem sT2 {t : Nat} (h : isT t) : shC[t + 2]? = some (.inl (0, 60, 0, 0)) := by rcases h with rfl | rfl | rfl <;> rfl
theorem sT3 {t : Nat} (h : isT t) : shC[t + 3]? = some (.inl (0, 8, 0, 0)) := by rcases h with rfl | rfl | rfl <;> rfl
theorem sT4 {t : Nat} (h : isT t) : shC[t + 4]? = some (.inl (0, 8, 0, 0)) := by rcases h with rfl | rfl | rfl <;> rfl
theorem sT5 {t : Nat} (h : isT t) : shC[t + 5]? = some (.inl (0, 8, 0, 0)) := by rcases h with rfl | rfl | rfl <;> rfl
theorem sS0 {j : Nat} (h : j < 4) : shC[22 + 2 * j]? = some (.inr (0, [.inl false, .inl false, .inr (23 + 2 * j)])) := by
  match j, h with
  | 0, _ => rfl
  | 1, _ => rfl
  | 2, _ => rfl
  | 3, _ => rfl
theorem sS1 {j : Nat} (h : j < 4) : shC[23 + 2 * j]? = some (.inl (1, 40, 0, 0)) := by
  match j, h with
  | 0, _ => rfl
  | 1, _ => rfl
  | 2, _ => rfl
  | 3, _ => rfl
/-! THE METHODS -/
def mX4_thing : xM := (yX4_thing, cX4_thing, 5, (some .int), xR 2)
def mX4_isStretch : xM := (yX4_isStretch, cX4_isStretch, 2, (some .boolean), xR 1)
def mX4_isStreet : xM := (yX4_isStreet, cX4_isStreet, 1, (some .boolean), xR 0)
def mX4_isWithin : xM := (yX4_isWithin, cX4_isWithin, 3, (some .boolean), xR 0)
def mX4_tell : xM := (yX4_tell, cX4_tell, 3, (some .int), xR 1)
def mX4_placeOf : xM := (yX4_placeOf, cX4_placeOf, 2, (some .int), xR 0)
def mX3_lay : xM := (yX3_lay, cX3_lay, 5, none, xR 1)
def mX4_stretch : xM := (yX4_stretch, cX4_stretch, 5, (some .int), xR 2)
def mX4_high : xM := (yX4_high, cX4_high, 3, (some .int), xR 2)
def mX4_street : xM := (yX4_street, cX4_street, 3, (some .int), xR 5)
def mX3_stretchesWithThing : xM := (yX3_stretchesWithThing, cX3_stretchesWithThing, 4, (some .int), xR 1)
def mX3_bumpsIn : xM := (yX3_bumpsIn, cX3_bumpsIn, 4, (some .int), xR 1)
def mX3_whoGoesIn : xM := (yX3_whoGoesIn, cX3_whoGoesIn, 4, (some .int), xR 0)
def mX3_shakingIn : xM := (yX3_shakingIn, cX3_shakingIn, 4, (some .int), xR 4)
def mX3_shakingBy : xM := (yX3_shakingBy, cX3_shakingBy, 7, (some .int), xR 3)
def mX3_nextPace : xM := (yX3_nextPace, cX3_nextPace, 7, (some .int), xR 2)
def mX0_hurries : xM := (yX0_hurries, cX0_hurries, 1, (some .int), xR 0)
def mX0_slowsTo : xM := (yX0_slowsTo, cX0_slowsTo, 7, (some .int), xR 1)
def mX0_overBump : xM := (yX0_overBump, cX0_overBump, 5, (some .int), xR 0)
def mX0_shakes : xM := (yX0_shakes, cX0_shakes, 4, (some .int), xR 0)
def mX4_now : xM := (yX4_now, cX4_now, 2, (some .int), xR 5)
def mX3_shakingOfAll : xM := (yX3_shakingOfAll, cX3_shakingOfAll, 3, (some .int), xR 4)
def mX3_timeOfAll : xM := (yX3_timeOfAll, cX3_timeOfAll, 3, (some .int), xR 4)
def mX3_timeFor : xM := (yX3_timeFor, cX3_timeFor, 7, (some .int), xR 3)
def mX4_driver : xM := (yX4_driver, cX4_driver, 2, (some .int), xR 2)
def mX4_isKind : xM := (yX4_isKind, cX4_isKind, 1, (some .boolean), xR 0)
def mX3_addDriver : xM := (yX3_addDriver, cX3_addDriver, 3, (some .int), xR 0)
def mX4_of : xM := (yX4_of, cX4_of, 6, (some .int), xR 4)
def mX3_hasDriver : xM := (yX3_hasDriver, cX3_hasDriver, 2, (some .boolean), xR 0)
def mX4_set : xM := (yX4_set, cX4_set, 5, (some .int), xR 2)
def mX4_turn : xM := (yX4_turn, cX4_turn, 4, (some .int), xR 2)
def mX4_as : xM := (yX4_as, cX4_as, 3, (some .int), xR 2)
def mX0_isOf : xM := (yX0_isOf, cX0_isOf, 4, (some .boolean), xR 1)
def mX0_above : xM := (yX0_above, cX0_above, 1, (some .int), xR 0)
def mX4_slows : xM := (yX4_slows, cX4_slows, 4, (some .int), xR 2)
def mX4_quick : xM := (yX4_quick, cX4_quick, 4, (some .int), xR 4)
def mX3_paceOn : xM := (yX3_paceOn, cX3_paceOn, 7, (some .int), xR 3)
def mX4_takes : xM := (yX4_takes, cX4_takes, 3, (some .int), xR 4)
def mX4_shaken : xM := (yX4_shaken, cX4_shaken, 3, (some .int), xR 4)
def mX4_days : xM := (yX4_days, cX4_days, 2, (some .int), xR 7)
def mX3_letDaysGo : xM := (yX3_letDaysGo, cX3_letDaysGo, 3, none, xR 6)
def mX3_letDayGo : xM := (yX3_letDayGo, cX3_letDayGo, 4, none, xR 5)
def mX3_agePaint : xM := (yX3_agePaint, cX3_agePaint, 3, (some .boolean), xR 0)
def mX3_chooseStreet : xM := (yX3_chooseStreet, cX3_chooseStreet, 8, none, xR 4)
def mX4_on : xM := (yX4_on, cX4_on, 3, (some .int), xR 7)
def mX3_becomeLike : xM := (yX3_becomeLike, cX3_becomeLike, 2, none, xR 1)
def mX4_then : xM := (yX4_then, cX4_then, 3, (some .int), xR 7)
def mX4_leaves : xM := (yX4_leaves, cX4_leaves, 3, (some .int), xR 6)
def mX4_tame : xM := (yX4_tame, cX4_tame, 7, (some .int), xR 4)
def mX3_topPace : xM := (yX3_topPace, cX3_topPace, 7, (some .int), xR 3)
def mX4_clear : xM := (yX4_clear, cX4_clear, 7, (some .int), xR 7)
def mX4_lower : xM := (yX4_lower, cX4_lower, 4, (some .int), xR 7)
def mX4_kind : xM := (yX4_kind, cX4_kind, 7, (some .int), xR 4)
def mX4_wish : xM := (yX4_wish, cX4_wish, 9, (some .int), xR 4)
def mX4_drives : xM := (yX4_drives, cX4_drives, 6, (some .int), xR 7)
def mX3_howManyGoElsewhere : xM := (yX3_howManyGoElsewhere, cX3_howManyGoElsewhere, 4, (some .int), xR 0)
def mX4_slowest : xM := (yX4_slowest, cX4_slowest, 5, (some .int), xR 5)
def mX3_timeInAllStreets : xM := (yX3_timeInAllStreets, cX3_timeInAllStreets, 4, (some .int), xR 4)
def mX4_feed : xM := (yX4_feed, cX4_feed, 3, (some .int), xR 2)
def mX2_append : xM := (yX2_append, cX2_append, 4, none, xR 0)
def mX4_wipe : xM := (yX4_wipe, cX4_wipe, 2, (some .int), xR 0)
def mX4_town : xM := (yX4_town, cX4_town, 2, (some .int), xR 8)
def mX2_tellInto : xM := (yX2_tellInto, cX2_tellInto, 3, (some .int), xR 7)
def mX2_nextToken : xM := (yX2_nextToken, cX2_nextToken, 1, none, xR 2)
def mX2_isLetter : xM := (yX2_isLetter, cX2_isLetter, 1, (some .boolean), xR 0)
def mX2_isDigit : xM := (yX2_isDigit, cX2_isDigit, 1, (some .boolean), xR 0)
def mX2_readNumber : xM := (yX2_readNumber, cX2_readNumber, 1, none, xR 1)
def mX2_takeItem : xM := (yX2_takeItem, cX2_takeItem, 4, (some .boolean), xR 6)
def mX2_kindNamed : xM := (yX2_kindNamed, cX2_kindNamed, 1, (some .int), xR 5)
def mX2_isWord : xM := (yX2_isWord, cX2_isWord, 3, (some .boolean), xR 4)
def mJ0_length_8abf5 : xM := (yJ0_length_8abf5, cJ0_length_8abf5, 1, (some .int), xR 1)
def mJ0_coder_7d493 : xM := (yJ0_coder_7d493, cJ0_coder_7d493, 1, (some .byte), xR 0)
def mJ0_charAt_5068e : xM := (yJ0_charAt_5068e, cJ0_charAt_5068e, 2, (some .char), xR 3)
def mJ0_isLatin1_aae02 : xM := (yJ0_isLatin1_aae02, cJ0_isLatin1_aae02, 1, (some .boolean), xR 0)
def mJ1_charAt_3b067 : xM := (yJ1_charAt_3b067, cJ1_charAt_3b067, 2, (some .char), xR 2)
def mJ0_checkIndex_df160 : xM := (yJ0_checkIndex_df160, cJ0_checkIndex_df160, 2, none, xR 1)
def mJ3_checkIndex_8e157 : xM := (yJ3_checkIndex_8e157, cJ3_checkIndex_8e157, 3, (some .int), xR 0)
def mX2_takeDriver : xM := (yX2_takeDriver, cX2_takeDriver, 4, (some .boolean), xR 5)
def mX2_isNumber : xM := (yX2_isNumber, cX2_isNumber, 3, (some .boolean), xR 0)
def mX2_thingNamed : xM := (yX2_thingNamed, cX2_thingNamed, 1, (some .int), xR 5)
def mX2_takeThing : xM := (yX2_takeThing, cX2_takeThing, 4, (some .boolean), xR 3)
def mX4_sheet : xM := (yX4_sheet, cX4_sheet, 4, (some .int), xR 2)
def mX1_become : xM := (yX1_become, cX1_become, 4, none, xR 0)
def mX4_write : xM := (yX4_write, cX4_write, 8, (some .long), xR 2)
def mX4_sheetFault : xM := (yX4_sheetFault, cX4_sheetFault, 2, (some .int), xR 1)
def mX1_put : xM := (yX1_put, cX1_put, 4, none, xR 0)
def mX4_copy : xM := (yX4_copy, cX4_copy, 8, (some .int), xR 2)
def mX1_hasPart : xM := (yX1_hasPart, cX1_hasPart, 3, (some .boolean), xR 0)
def mX4_lays : xM := (yX4_lays, cX4_lays, 9, (some .int), xR 2)
def mX4_book : xM := (yX4_book, cX4_book, 7, (some .int), xR 4)
def mX4_read : xM := (yX4_read, cX4_read, 8, (some .int), xR 4)
def mX3_goesJustAs : xM := (yX3_goesJustAs, cX3_goesJustAs, 8, (some .boolean), xR 3)
def mX4_image : xM := (yX4_image, cX4_image, 1, (some .int), xR 2)
def mX4_undo : xM := (yX4_undo, cX4_undo, 1, (some .int), xR 2)
def mX4_tear : xM := (yX4_tear, cX4_tear, 2, (some .int), xR 0)
def mX4_count : xM := (yX4_count, cX4_count, 2, (some .int), xR 3)
def mX3_bumpsInAll : xM := (yX3_bumpsInAll, cX3_bumpsInAll, 3, (some .int), xR 2)
def mX3_wishesOfAll : xM := (yX3_wishesOfAll, cX3_wishesOfAll, 3, (some .int), xR 0)
def mX4_status : xM := (yX4_status, cX4_status, 4, (some .int), xR 2)
def mX5_thing : xM := (yX5_thing, cX5_thing, 5, (some .int), xR 2)
def mX5_isStreet : xM := (yX5_isStreet, cX5_isStreet, 1, (some .boolean), xR 1)
def mX5_in1 : xM := (yX5_in1, cX5_in1, 3, (some .boolean), xR 0)
def mX5_isStretch : xM := (yX5_isStretch, cX5_isStretch, 1, (some .boolean), xR 1)
def mX5_no : xM := (yX5_no, cX5_no, 2, (some .int), xR 0)
def mX5_lies : xM := (yX5_lies, cX5_lies, 4, none, xR 0)
def mX5_stretch : xM := (yX5_stretch, cX5_stretch, 4, (some .int), xR 2)
def mX5_high : xM := (yX5_high, cX5_high, 3, (some .int), xR 1)
def mX5_street : xM := (yX5_street, cX5_street, 7, (some .int), xR 6)
def mX5_get : xM := (yX5_get, cX5_get, 3, (some .int), xR 0)
def mX5_shookBy : xM := (yX5_shookBy, cX5_shookBy, 3, (some .int), xR 5)
def mX5_goesThrough : xM := (yX5_goesThrough, cX5_goesThrough, 8, none, xR 4)
def mX5_hurriesOf : xM := (yX5_hurriesOf, cX5_hurriesOf, 1, (some .int), xR 0)
def mX5_less : xM := (yX5_less, cX5_less, 2, (some .int), xR 0)
def mX5_slowsTo : xM := (yX5_slowsTo, cX5_slowsTo, 6, (some .int), xR 3)
def mX5_plainSlow : xM := (yX5_plainSlow, cX5_plainSlow, 5, (some .int), xR 2)
def mX5_atBump : xM := (yX5_atBump, cX5_atBump, 4, (some .int), xR 1)
def mX5_isBus : xM := (yX5_isBus, cX5_isBus, 1, (some .boolean), xR 0)
def mX5_isLocal : xM := (yX5_isLocal, cX5_isLocal, 1, (some .boolean), xR 0)
def mX5_shakesAt : xM := (yX5_shakesAt, cX5_shakesAt, 4, (some .int), xR 0)
def mX5_thingsIn : xM := (yX5_thingsIn, cX5_thingsIn, 4, (some .int), xR 0)
def mX5_bumpsIn : xM := (yX5_bumpsIn, cX5_bumpsIn, 4, (some .int), xR 0)
def mX5_now : xM := (yX5_now, cX5_now, 2, (some .int), xR 7)
def mX5_allShook : xM := (yX5_allShook, cX5_allShook, 3, (some .int), xR 6)
def mX5_allTook : xM := (yX5_allTook, cX5_allTook, 3, (some .int), xR 6)
def mX5_tookBy : xM := (yX5_tookBy, cX5_tookBy, 3, (some .int), xR 5)
def mX5_driver : xM := (yX5_driver, cX5_driver, 2, (some .int), xR 2)
def mX5_addsDriver : xM := (yX5_addsDriver, cX5_addsDriver, 3, none, xR 1)
def mX5_puts : xM := (yX5_puts, cX5_puts, 4, none, xR 0)
def mX5_of : xM := (yX5_of, cX5_of, 3, (some .int), xR 6)
def mX5_isDriver : xM := (yX5_isDriver, cX5_isDriver, 2, (some .boolean), xR 1)
def mX5_set : xM := (yX5_set, cX5_set, 5, (some .int), xR 2)
def mX5_isWish : xM := (yX5_isWish, cX5_isWish, 1, (some .boolean), xR 1)
def mX5_turn : xM := (yX5_turn, cX5_turn, 4, (some .int), xR 2)
def mX5_as : xM := (yX5_as, cX5_as, 4, (some .int), xR 2)
def mX5_slows : xM := (yX5_slows, cX5_slows, 5, (some .int), xR 4)
def mX5_quick : xM := (yX5_quick, cX5_quick, 4, (some .int), xR 5)
def mX5_areBoth : xM := (yX5_areBoth, cX5_areBoth, 3, (some .boolean), xR 2)
def mX5_takes : xM := (yX5_takes, cX5_takes, 3, (some .int), xR 6)
def mX5_shaken : xM := (yX5_shaken, cX5_shaken, 3, (some .int), xR 6)
def mX5_days : xM := (yX5_days, cX5_days, 2, (some .int), xR 8)
def mX5_goes : xM := (yX5_goes, cX5_goes, 4, none, xR 7)
def mX5_chooses : xM := (yX5_chooses, cX5_chooses, 6, none, xR 6)
def mX5_on : xM := (yX5_on, cX5_on, 4, (some .int), xR 8)
def mX5_setsAside : xM := (yX5_setsAside, cX5_setsAside, 2, none, xR 0)
def mX5_laysBack : xM := (yX5_laysBack, cX5_laysBack, 2, none, xR 0)
def mX5_then : xM := (yX5_then, cX5_then, 3, (some .int), xR 9)
def mX5_onBy : xM := (yX5_onBy, cX5_onBy, 4, (some .int), xR 8)
def mX5_leaves : xM := (yX5_leaves, cX5_leaves, 4, (some .int), xR 8)
def mX5_tame : xM := (yX5_tame, cX5_tame, 6, (some .int), xR 5)
def mX5_quickest : xM := (yX5_quickest, cX5_quickest, 3, (some .int), xR 0)
def mX5_clear : xM := (yX5_clear, cX5_clear, 8, (some .int), xR 9)
def mX5_lower : xM := (yX5_lower, cX5_lower, 4, (some .int), xR 9)
def mX5_kind : xM := (yX5_kind, cX5_kind, 6, (some .int), xR 5)
def mX5_wish : xM := (yX5_wish, cX5_wish, 8, (some .int), xR 5)
def mX5_drives : xM := (yX5_drives, cX5_drives, 7, (some .int), xR 8)
def mX5_slowest : xM := (yX5_slowest, cX5_slowest, 5, (some .int), xR 6)
def mX5_feed : xM := (yX5_feed, cX5_feed, 4, (some .int), xR 1)
def mX5_wipe : xM := (yX5_wipe, cX5_wipe, 2, (some .int), xR 0)
def mX5_town : xM := (yX5_town, cX5_town, 3, (some .int), xR 6)
def mX5_nextToken : xM := (yX5_nextToken, cX5_nextToken, 1, none, xR 2)
def mX5_isLetter : xM := (yX5_isLetter, cX5_isLetter, 1, (some .boolean), xR 1)
def mX5_isDigit : xM := (yX5_isDigit, cX5_isDigit, 1, (some .boolean), xR 1)
def mX5_readsItem : xM := (yX5_readsItem, cX5_readsItem, 4, (some .boolean), xR 5)
def mX5_wordOf : xM := (yX5_wordOf, cX5_wordOf, 7, (some .int), xR 0)
def mX5_readsDriver : xM := (yX5_readsDriver, cX5_readsDriver, 5, (some .boolean), xR 4)
def mX5_takesNumber : xM := (yX5_takesNumber, cX5_takesNumber, 4, (some .int), xR 3)
def mX5_readsThing : xM := (yX5_readsThing, cX5_readsThing, 4, (some .boolean), xR 4)
def mX5_sheet : xM := (yX5_sheet, cX5_sheet, 5, (some .int), xR 2)
def mX5_isSheet : xM := (yX5_isSheet, cX5_isSheet, 1, (some .boolean), xR 1)
def mX5_write : xM := (yX5_write, cX5_write, 8, (some .long), xR 3)
def mX5_wrongSheet : xM := (yX5_wrongSheet, cX5_wrongSheet, 2, (some .int), xR 2)
def mX5_told : xM := (yX5_told, cX5_told, 3, (some .long), xR 0)
def mX5_tells : xM := (yX5_tells, cX5_tells, 5, none, xR 0)
def mX5_copy : xM := (yX5_copy, cX5_copy, 7, (some .int), xR 2)
def mX5_lays : xM := (yX5_lays, cX5_lays, 6, (some .int), xR 4)
def mX5_wrongWith : xM := (yX5_wrongWith, cX5_wrongWith, 4, (some .int), xR 3)
def mX5_book : xM := (yX5_book, cX5_book, 7, (some .int), xR 5)
def mX5_read : xM := (yX5_read, cX5_read, 8, (some .int), xR 5)
def mX5_isSo : xM := (yX5_isSo, cX5_isSo, 4, (some .boolean), xR 1)
def mX5_image : xM := (yX5_image, cX5_image, 2, (some .int), xR 0)
def mX5_undo : xM := (yX5_undo, cX5_undo, 2, (some .int), xR 1)
def mX5_tear : xM := (yX5_tear, cX5_tear, 2, (some .int), xR 0)
def mX5_count : xM := (yX5_count, cX5_count, 4, (some .int), xR 1)
def mX5_status : xM := (yX5_status, cX5_status, 4, (some .int), xR 1)
theorem okX4_thing : xokV mX4_thing 3 := ⟨⟨in_X4, co_X4_thing, by decide, ⟨by decide, by decide, by decide +kernel⟩, rfl, rfl⟩, im_X4_thing, se_X4_thing⟩
theorem okX4_isStretch : xokS mX4_isStretch 2 := ⟨⟨in_X4, co_X4_isStretch, by decide, ⟨by decide, by decide, by decide +kernel⟩, rfl, rfl⟩, sm_X4_isStretch⟩
theorem okX4_isStreet : xokS mX4_isStreet 1 := ⟨⟨in_X4, co_X4_isStreet, by decide, ⟨by decide, by decide, by decide +kernel⟩, rfl, rfl⟩, sm_X4_isStreet⟩
theorem okX4_isWithin : xokS mX4_isWithin 3 := ⟨⟨in_X4, co_X4_isWithin, by decide, ⟨by decide, by decide, by decide +kernel⟩, rfl, rfl⟩, sm_X4_isWithin⟩
theorem okX4_tell : xokV mX4_tell 1 := ⟨⟨in_X4, co_X4_tell, by decide, ⟨by decide, by decide, by decide +kernel⟩, rfl, rfl⟩, im_X4_tell, se_X4_tell⟩
theorem okX4_placeOf : xokS mX4_placeOf 2 := ⟨⟨in_X4, co_X4_placeOf, by decide, ⟨by decide, by decide, by decide +kernel⟩, rfl, rfl⟩, sm_X4_placeOf⟩
theorem okX3_lay : xokV mX3_lay 3 := ⟨⟨in_X3, co_X3_lay, by decide, ⟨by decide, by decide, by decide +kernel⟩, rfl, rfl⟩, im_X3_lay, se_X3_lay⟩
theorem okX4_stretch : xokV mX4_stretch 3 := ⟨⟨in_X4, co_X4_stretch, by decide, ⟨by decide, by decide, by decide +kernel⟩, rfl, rfl⟩, im_X4_stretch, se_X4_stretch⟩
theorem okX4_high : xokV mX4_high 1 := ⟨⟨in_X4, co_X4_high, by decide, ⟨by decide, by decide, by decide +kernel⟩, rfl, rfl⟩, im_X4_high, se_X4_high⟩
theorem okX4_street : xokV mX4_street 2 := ⟨⟨in_X4, co_X4_street, by decide, ⟨by decide, by decide, by decide +kernel⟩, rfl, rfl⟩, im_X4_street, se_X4_street⟩
theorem okX3_stretchesWithThing : xokV mX3_stretchesWithThing 1 := ⟨⟨in_X3, co_X3_stretchesWithThing, by decide, ⟨by decide, by decide, by decide +kernel⟩, rfl, rfl⟩, im_X3_stretchesWithThing, se_X3_stretchesWithThing⟩
theorem okX3_bumpsIn : xokV mX3_bumpsIn 1 := ⟨⟨in_X3, co_X3_bumpsIn, by decide, ⟨by decide, by decide, by decide +kernel⟩, rfl, rfl⟩, im_X3_bumpsIn, se_X3_bumpsIn⟩
theorem okX3_whoGoesIn : xokV mX3_whoGoesIn 1 := ⟨⟨in_X3, co_X3_whoGoesIn, by decide, ⟨by decide, by decide, by decide +kernel⟩, rfl, rfl⟩, im_X3_whoGoesIn, se_X3_whoGoesIn⟩
theorem okX3_shakingIn : xokV mX3_shakingIn 1 := ⟨⟨in_X3, co_X3_shakingIn, by decide, ⟨by decide, by decide, by decide +kernel⟩, rfl, rfl⟩, im_X3_shakingIn, se_X3_shakingIn⟩
theorem okX3_shakingBy : xokV mX3_shakingBy 3 := ⟨⟨in_X3, co_X3_shakingBy, by decide, ⟨by decide, by decide, by decide +kernel⟩, rfl, rfl⟩, im_X3_shakingBy, se_X3_shakingBy⟩
theorem okX3_nextPace : xokV mX3_nextPace 4 := ⟨⟨in_X3, co_X3_nextPace, by decide, ⟨by decide, by decide, by decide +kernel⟩, rfl, rfl⟩, im_X3_nextPace, se_X3_nextPace⟩
theorem okX0_hurries : xokS mX0_hurries 1 := ⟨⟨in_X0, co_X0_hurries, by decide, ⟨by decide, by decide, by decide +kernel⟩, rfl, rfl⟩, sm_X0_hurries⟩
theorem okX0_slowsTo : xokS mX0_slowsTo 5 := ⟨⟨in_X0, co_X0_slowsTo, by decide, ⟨by decide, by decide, by decide +kernel⟩, rfl, rfl⟩, sm_X0_slowsTo⟩
theorem okX0_overBump : xokS mX0_overBump 3 := ⟨⟨in_X0, co_X0_overBump, by decide, ⟨by decide, by decide, by decide +kernel⟩, rfl, rfl⟩, sm_X0_overBump⟩
theorem okX0_shakes : xokS mX0_shakes 3 := ⟨⟨in_X0, co_X0_shakes, by decide, ⟨by decide, by decide, by decide +kernel⟩, rfl, rfl⟩, sm_X0_shakes⟩
theorem okX4_now : xokV mX4_now 1 := ⟨⟨in_X4, co_X4_now, by decide, ⟨by decide, by decide, by decide +kernel⟩, rfl, rfl⟩, im_X4_now, se_X4_now⟩
theorem okX3_shakingOfAll : xokV mX3_shakingOfAll 0 := ⟨⟨in_X3, co_X3_shakingOfAll, by decide, ⟨by decide, by decide, by decide +kernel⟩, rfl, rfl⟩, im_X3_shakingOfAll, se_X3_shakingOfAll⟩
theorem okX3_timeOfAll : xokV mX3_timeOfAll 0 := ⟨⟨in_X3, co_X3_timeOfAll, by decide, ⟨by decide, by decide, by decide +kernel⟩, rfl, rfl⟩, im_X3_timeOfAll, se_X3_timeOfAll⟩
theorem okX3_timeFor : xokV mX3_timeFor 3 := ⟨⟨in_X3, co_X3_timeFor, by decide, ⟨by decide, by decide, by decide +kernel⟩, rfl, rfl⟩, im_X3_timeFor, se_X3_timeFor⟩
theorem okX4_driver : xokV mX4_driver 1 := ⟨⟨in_X4, co_X4_driver, by decide, ⟨by decide, by decide, by decide +kernel⟩, rfl, rfl⟩, im_X4_driver, se_X4_driver⟩
theorem okX4_isKind : xokS mX4_isKind 1 := ⟨⟨in_X4, co_X4_isKind, by decide, ⟨by decide, by decide, by decide +kernel⟩, rfl, rfl⟩, sm_X4_isKind⟩
theorem okX3_addDriver : xokV mX3_addDriver 1 := ⟨⟨in_X3, co_X3_addDriver, by decide, ⟨by decide, by decide, by decide +kernel⟩, rfl, rfl⟩, im_X3_addDriver, se_X3_addDriver⟩
theorem okX4_of : xokV mX4_of 2 := ⟨⟨in_X4, co_X4_of, by decide, ⟨by decide, by decide, by decide +kernel⟩, rfl, rfl⟩, im_X4_of, se_X4_of⟩
theorem okX3_hasDriver : xokV mX3_hasDriver 1 := ⟨⟨in_X3, co_X3_hasDriver, by decide, ⟨by decide, by decide, by decide +kernel⟩, rfl, rfl⟩, im_X3_hasDriver, se_X3_hasDriver⟩
theorem okX4_set : xokV mX4_set 3 := ⟨⟨in_X4, co_X4_set, by decide, ⟨by decide, by decide, by decide +kernel⟩, rfl, rfl⟩, im_X4_set, se_X4_set⟩
theorem okX4_turn : xokV mX4_turn 2 := ⟨⟨in_X4, co_X4_turn, by decide, ⟨by decide, by decide, by decide +kernel⟩, rfl, rfl⟩, im_X4_turn, se_X4_turn⟩
theorem okX4_as : xokV mX4_as 2 := ⟨⟨in_X4, co_X4_as, by decide, ⟨by decide, by decide, by decide +kernel⟩, rfl, rfl⟩, im_X4_as, se_X4_as⟩
theorem okX0_isOf : xokS mX0_isOf 2 := ⟨⟨in_X0, co_X0_isOf, by decide, ⟨by decide, by decide, by decide +kernel⟩, rfl, rfl⟩, sm_X0_isOf⟩
theorem okX0_above : xokS mX0_above 1 := ⟨⟨in_X0, co_X0_above, by decide, ⟨by decide, by decide, by decide +kernel⟩, rfl, rfl⟩, sm_X0_above⟩
theorem okX4_slows : xokV mX4_slows 3 := ⟨⟨in_X4, co_X4_slows, by decide, ⟨by decide, by decide, by decide +kernel⟩, rfl, rfl⟩, im_X4_slows, se_X4_slows⟩
theorem okX4_quick : xokV mX4_quick 3 := ⟨⟨in_X4, co_X4_quick, by decide, ⟨by decide, by decide, by decide +kernel⟩, rfl, rfl⟩, im_X4_quick, se_X4_quick⟩
theorem okX3_paceOn : xokV mX3_paceOn 4 := ⟨⟨in_X3, co_X3_paceOn, by decide, ⟨by decide, by decide, by decide +kernel⟩, rfl, rfl⟩, im_X3_paceOn, se_X3_paceOn⟩
theorem okX4_takes : xokV mX4_takes 2 := ⟨⟨in_X4, co_X4_takes, by decide, ⟨by decide, by decide, by decide +kernel⟩, rfl, rfl⟩, im_X4_takes, se_X4_takes⟩
theorem okX4_shaken : xokV mX4_shaken 2 := ⟨⟨in_X4, co_X4_shaken, by decide, ⟨by decide, by decide, by decide +kernel⟩, rfl, rfl⟩, im_X4_shaken, se_X4_shaken⟩
theorem okX4_days : xokV mX4_days 1 := ⟨⟨in_X4, co_X4_days, by decide, ⟨by decide, by decide, by decide +kernel⟩, rfl, rfl⟩, im_X4_days, se_X4_days⟩
theorem okX3_letDaysGo : xokV mX3_letDaysGo 1 := ⟨⟨in_X3, co_X3_letDaysGo, by decide, ⟨by decide, by decide, by decide +kernel⟩, rfl, rfl⟩, im_X3_letDaysGo, se_X3_letDaysGo⟩
theorem okX3_letDayGo : xokV mX3_letDayGo 1 := ⟨⟨in_X3, co_X3_letDayGo, by decide, ⟨by decide, by decide, by decide +kernel⟩, rfl, rfl⟩, im_X3_letDayGo, se_X3_letDayGo⟩
theorem okX3_agePaint : xokV mX3_agePaint 0 := ⟨⟨in_X3, co_X3_agePaint, by decide, ⟨by decide, by decide, by decide +kernel⟩, rfl, rfl⟩, im_X3_agePaint, se_X3_agePaint⟩
theorem okX3_chooseStreet : xokV mX3_chooseStreet 1 := ⟨⟨in_X3, co_X3_chooseStreet, by decide, ⟨by decide, by decide, by decide +kernel⟩, rfl, rfl⟩, im_X3_chooseStreet, se_X3_chooseStreet⟩
theorem okX4_on : xokV mX4_on 2 := ⟨⟨in_X4, co_X4_on, by decide, ⟨by decide, by decide, by decide +kernel⟩, rfl, rfl⟩, im_X4_on, se_X4_on⟩
theorem okX3_becomeLike : xokV mX3_becomeLike 1 := ⟨⟨in_X3, co_X3_becomeLike, by decide, ⟨by decide, by decide, by decide +kernel⟩, rfl, rfl⟩, im_X3_becomeLike, se_X3_becomeLike⟩
theorem okX4_then : xokV mX4_then 2 := ⟨⟨in_X4, co_X4_then, by decide, ⟨by decide, by decide, by decide +kernel⟩, rfl, rfl⟩, im_X4_then, se_X4_then⟩
theorem okX4_leaves : xokV mX4_leaves 1 := ⟨⟨in_X4, co_X4_leaves, by decide, ⟨by decide, by decide, by decide +kernel⟩, rfl, rfl⟩, im_X4_leaves, se_X4_leaves⟩
theorem okX4_tame : xokV mX4_tame 2 := ⟨⟨in_X4, co_X4_tame, by decide, ⟨by decide, by decide, by decide +kernel⟩, rfl, rfl⟩, im_X4_tame, se_X4_tame⟩
theorem okX3_topPace : xokV mX3_topPace 3 := ⟨⟨in_X3, co_X3_topPace, by decide, ⟨by decide, by decide, by decide +kernel⟩, rfl, rfl⟩, im_X3_topPace, se_X3_topPace⟩
theorem okX4_clear : xokV mX4_clear 2 := ⟨⟨in_X4, co_X4_clear, by decide, ⟨by decide, by decide, by decide +kernel⟩, rfl, rfl⟩, im_X4_clear, se_X4_clear⟩
theorem okX4_lower : xokV mX4_lower 2 := ⟨⟨in_X4, co_X4_lower, by decide, ⟨by decide, by decide, by decide +kernel⟩, rfl, rfl⟩, im_X4_lower, se_X4_lower⟩
theorem okX4_kind : xokV mX4_kind 2 := ⟨⟨in_X4, co_X4_kind, by decide, ⟨by decide, by decide, by decide +kernel⟩, rfl, rfl⟩, im_X4_kind, se_X4_kind⟩
theorem okX4_wish : xokV mX4_wish 3 := ⟨⟨in_X4, co_X4_wish, by decide, ⟨by decide, by decide, by decide +kernel⟩, rfl, rfl⟩, im_X4_wish, se_X4_wish⟩
theorem okX4_drives : xokV mX4_drives 1 := ⟨⟨in_X4, co_X4_drives, by decide, ⟨by decide, by decide, by decide +kernel⟩, rfl, rfl⟩, im_X4_drives, se_X4_drives⟩
theorem okX3_howManyGoElsewhere : xokV mX3_howManyGoElsewhere 1 := ⟨⟨in_X3, co_X3_howManyGoElsewhere, by decide, ⟨by decide, by decide, by decide +kernel⟩, rfl, rfl⟩, im_X3_howManyGoElsewhere, se_X3_howManyGoElsewhere⟩
theorem okX4_slowest : xokV mX4_slowest 0 := ⟨⟨in_X4, co_X4_slowest, by decide, ⟨by decide, by decide, by decide +kernel⟩, rfl, rfl⟩, im_X4_slowest, se_X4_slowest⟩
theorem okX3_timeInAllStreets : xokV mX3_timeInAllStreets 1 := ⟨⟨in_X3, co_X3_timeInAllStreets, by decide, ⟨by decide, by decide, by decide +kernel⟩, rfl, rfl⟩, im_X3_timeInAllStreets, se_X3_timeInAllStreets⟩
theorem okX4_feed : xokV mX4_feed 2 := ⟨⟨in_X4, co_X4_feed, by decide, ⟨by decide, by decide, by decide +kernel⟩, rfl, rfl⟩, im_X4_feed, se_X4_feed⟩
theorem okX2_append : xokV mX2_append 2 := ⟨⟨in_X2, co_X2_append, by decide, ⟨by decide, by decide, by decide +kernel⟩, rfl, rfl⟩, im_X2_append, se_X2_append⟩
theorem okX4_wipe : xokV mX4_wipe 0 := ⟨⟨in_X4, co_X4_wipe, by decide, ⟨by decide, by decide, by decide +kernel⟩, rfl, rfl⟩, im_X4_wipe, se_X4_wipe⟩
theorem okX4_town : xokV mX4_town 0 := ⟨⟨in_X4, co_X4_town, by decide, ⟨by decide, by decide, by decide +kernel⟩, rfl, rfl⟩, im_X4_town, se_X4_town⟩
theorem okX2_tellInto : xokV mX2_tellInto 1 := ⟨⟨in_X2, co_X2_tellInto, by decide, ⟨by decide, by decide, by decide +kernel⟩, rfl, rfl⟩, im_X2_tellInto, se_X2_tellInto⟩
theorem okX2_nextToken : xokV mX2_nextToken 0 := ⟨⟨in_X2, co_X2_nextToken, by decide, ⟨by decide, by decide, by decide +kernel⟩, rfl, rfl⟩, im_X2_nextToken, se_X2_nextToken⟩
theorem okX2_isLetter : xokS mX2_isLetter 1 := ⟨⟨in_X2, co_X2_isLetter, by decide, ⟨by decide, by decide, by decide +kernel⟩, rfl, rfl⟩, sm_X2_isLetter⟩
theorem okX2_isDigit : xokS mX2_isDigit 1 := ⟨⟨in_X2, co_X2_isDigit, by decide, ⟨by decide, by decide, by decide +kernel⟩, rfl, rfl⟩, sm_X2_isDigit⟩
theorem okX2_readNumber : xokV mX2_readNumber 0 := ⟨⟨in_X2, co_X2_readNumber, by decide, ⟨by decide, by decide, by decide +kernel⟩, rfl, rfl⟩, im_X2_readNumber, se_X2_readNumber⟩
theorem okX2_takeItem : xokV mX2_takeItem 1 := ⟨⟨in_X2, co_X2_takeItem, by decide, ⟨by decide, by decide, by decide +kernel⟩, rfl, rfl⟩, im_X2_takeItem, se_X2_takeItem⟩
theorem okX2_kindNamed : xokV mX2_kindNamed 0 := ⟨⟨in_X2, co_X2_kindNamed, by decide, ⟨by decide, by decide, by decide +kernel⟩, rfl, rfl⟩, im_X2_kindNamed, se_X2_kindNamed⟩
theorem okX2_isWord : xokV mX2_isWord 1 := ⟨⟨in_X2, co_X2_isWord, by decide, ⟨by decide, by decide, by decide +kernel⟩, rfl, rfl⟩, im_X2_isWord, se_X2_isWord⟩
theorem okJ0_length_8abf5 : xokV mJ0_length_8abf5 0 := ⟨⟨in_J0, co_J0_length_8abf5, by decide, ⟨by decide, by decide, by decide +kernel⟩, rfl, rfl⟩, im_J0_length_8abf5, se_J0_length_8abf5⟩
theorem okJ0_coder_7d493 : xokV mJ0_coder_7d493 0 := ⟨⟨in_J0, co_J0_coder_7d493, by decide, ⟨by decide, by decide, by decide +kernel⟩, rfl, rfl⟩, im_J0_coder_7d493, se_J0_coder_7d493⟩
theorem okJ0_charAt_5068e : xokV mJ0_charAt_5068e 1 := ⟨⟨in_J0, co_J0_charAt_5068e, by decide, ⟨by decide, by decide, by decide +kernel⟩, rfl, rfl⟩, im_J0_charAt_5068e, se_J0_charAt_5068e⟩
theorem okJ0_isLatin1_aae02 : xokV mJ0_isLatin1_aae02 0 := ⟨⟨in_J0, co_J0_isLatin1_aae02, by decide, ⟨by decide, by decide, by decide +kernel⟩, rfl, rfl⟩, im_J0_isLatin1_aae02, se_J0_isLatin1_aae02⟩
theorem okJ1_charAt_3b067 : xokS mJ1_charAt_3b067 2 := ⟨⟨in_J1, co_J1_charAt_3b067, by decide, ⟨by decide, by decide, by decide +kernel⟩, rfl, rfl⟩, sm_J1_charAt_3b067⟩
theorem okJ0_checkIndex_df160 : xokS mJ0_checkIndex_df160 2 := ⟨⟨in_J0, co_J0_checkIndex_df160, by decide, ⟨by decide, by decide, by decide +kernel⟩, rfl, rfl⟩, sm_J0_checkIndex_df160⟩
theorem okJ3_checkIndex_8e157 : xokS mJ3_checkIndex_8e157 3 := ⟨⟨in_J3, co_J3_checkIndex_8e157, by decide, ⟨by decide, by decide, by decide +kernel⟩, rfl, rfl⟩, sm_J3_checkIndex_8e157⟩
theorem okX2_takeDriver : xokV mX2_takeDriver 2 := ⟨⟨in_X2, co_X2_takeDriver, by decide, ⟨by decide, by decide, by decide +kernel⟩, rfl, rfl⟩, im_X2_takeDriver, se_X2_takeDriver⟩
theorem okX2_isNumber : xokV mX2_isNumber 2 := ⟨⟨in_X2, co_X2_isNumber, by decide, ⟨by decide, by decide, by decide +kernel⟩, rfl, rfl⟩, im_X2_isNumber, se_X2_isNumber⟩
theorem okX2_thingNamed : xokV mX2_thingNamed 0 := ⟨⟨in_X2, co_X2_thingNamed, by decide, ⟨by decide, by decide, by decide +kernel⟩, rfl, rfl⟩, im_X2_thingNamed, se_X2_thingNamed⟩
theorem okX2_takeThing : xokV mX2_takeThing 2 := ⟨⟨in_X2, co_X2_takeThing, by decide, ⟨by decide, by decide, by decide +kernel⟩, rfl, rfl⟩, im_X2_takeThing, se_X2_takeThing⟩
theorem okX4_sheet : xokV mX4_sheet 3 := ⟨⟨in_X4, co_X4_sheet, by decide, ⟨by decide, by decide, by decide +kernel⟩, rfl, rfl⟩, im_X4_sheet, se_X4_sheet⟩
theorem okX1_become : xokV mX1_become 2 := ⟨⟨in_X1, co_X1_become, by decide, ⟨by decide, by decide, by decide +kernel⟩, rfl, rfl⟩, im_X1_become, se_X1_become⟩
theorem okX4_write : xokV mX4_write 3 := ⟨⟨in_X4, co_X4_write, by decide, ⟨by decide, by decide, by decide +kernel⟩, rfl, rfl⟩, im_X4_write, se_X4_write⟩
theorem okX4_sheetFault : xokV mX4_sheetFault 1 := ⟨⟨in_X4, co_X4_sheetFault, by decide, ⟨by decide, by decide, by decide +kernel⟩, rfl, rfl⟩, im_X4_sheetFault, se_X4_sheetFault⟩
theorem okX1_put : xokV mX1_put 2 := ⟨⟨in_X1, co_X1_put, by decide, ⟨by decide, by decide, by decide +kernel⟩, rfl, rfl⟩, im_X1_put, se_X1_put⟩
theorem okX4_copy : xokV mX4_copy 5 := ⟨⟨in_X4, co_X4_copy, by decide, ⟨by decide, by decide, by decide +kernel⟩, rfl, rfl⟩, im_X4_copy, se_X4_copy⟩
theorem okX1_hasPart : xokV mX1_hasPart 2 := ⟨⟨in_X1, co_X1_hasPart, by decide, ⟨by decide, by decide, by decide +kernel⟩, rfl, rfl⟩, im_X1_hasPart, se_X1_hasPart⟩
theorem okX4_lays : xokV mX4_lays 2 := ⟨⟨in_X4, co_X4_lays, by decide, ⟨by decide, by decide, by decide +kernel⟩, rfl, rfl⟩, im_X4_lays, se_X4_lays⟩
theorem okX4_book : xokV mX4_book 3 := ⟨⟨in_X4, co_X4_book, by decide, ⟨by decide, by decide, by decide +kernel⟩, rfl, rfl⟩, im_X4_book, se_X4_book⟩
theorem okX4_read : xokV mX4_read 3 := ⟨⟨in_X4, co_X4_read, by decide, ⟨by decide, by decide, by decide +kernel⟩, rfl, rfl⟩, im_X4_read, se_X4_read⟩
theorem okX3_goesJustAs : xokV mX3_goesJustAs 4 := ⟨⟨in_X3, co_X3_goesJustAs, by decide, ⟨by decide, by decide, by decide +kernel⟩, rfl, rfl⟩, im_X3_goesJustAs, se_X3_goesJustAs⟩
theorem okX4_image : xokV mX4_image 0 := ⟨⟨in_X4, co_X4_image, by decide, ⟨by decide, by decide, by decide +kernel⟩, rfl, rfl⟩, im_X4_image, se_X4_image⟩
theorem okX4_undo : xokV mX4_undo 0 := ⟨⟨in_X4, co_X4_undo, by decide, ⟨by decide, by decide, by decide +kernel⟩, rfl, rfl⟩, im_X4_undo, se_X4_undo⟩
theorem okX4_tear : xokV mX4_tear 0 := ⟨⟨in_X4, co_X4_tear, by decide, ⟨by decide, by decide, by decide +kernel⟩, rfl, rfl⟩, im_X4_tear, se_X4_tear⟩
theorem okX4_count : xokV mX4_count 1 := ⟨⟨in_X4, co_X4_count, by decide, ⟨by decide, by decide, by decide +kernel⟩, rfl, rfl⟩, im_X4_count, se_X4_count⟩
theorem okX3_bumpsInAll : xokV mX3_bumpsInAll 0 := ⟨⟨in_X3, co_X3_bumpsInAll, by decide, ⟨by decide, by decide, by decide +kernel⟩, rfl, rfl⟩, im_X3_bumpsInAll, se_X3_bumpsInAll⟩
theorem okX3_wishesOfAll : xokV mX3_wishesOfAll 0 := ⟨⟨in_X3, co_X3_wishesOfAll, by decide, ⟨by decide, by decide, by decide +kernel⟩, rfl, rfl⟩, im_X3_wishesOfAll, se_X3_wishesOfAll⟩
theorem okX4_status : xokV mX4_status 1 := ⟨⟨in_X4, co_X4_status, by decide, ⟨by decide, by decide, by decide +kernel⟩, rfl, rfl⟩, im_X4_status, se_X4_status⟩
theorem okX5_thing : xokV mX5_thing 3 := ⟨⟨in_X5, co_X5_thing, by decide, ⟨by decide, by decide, by decide +kernel⟩, rfl, rfl⟩, im_X5_thing, se_X5_thing⟩
theorem okX5_isStreet : xokS mX5_isStreet 1 := ⟨⟨in_X5, co_X5_isStreet, by decide, ⟨by decide, by decide, by decide +kernel⟩, rfl, rfl⟩, sm_X5_isStreet⟩
theorem okX5_in1 : xokS mX5_in1 3 := ⟨⟨in_X5, co_X5_in1, by decide, ⟨by decide, by decide, by decide +kernel⟩, rfl, rfl⟩, sm_X5_in1⟩
theorem okX5_isStretch : xokS mX5_isStretch 1 := ⟨⟨in_X5, co_X5_isStretch, by decide, ⟨by decide, by decide, by decide +kernel⟩, rfl, rfl⟩, sm_X5_isStretch⟩
theorem okX5_no : xokV mX5_no 1 := ⟨⟨in_X5, co_X5_no, by decide, ⟨by decide, by decide, by decide +kernel⟩, rfl, rfl⟩, im_X5_no, se_X5_no⟩
theorem okX5_lies : xokV mX5_lies 3 := ⟨⟨in_X5, co_X5_lies, by decide, ⟨by decide, by decide, by decide +kernel⟩, rfl, rfl⟩, im_X5_lies, se_X5_lies⟩
theorem okX5_stretch : xokV mX5_stretch 3 := ⟨⟨in_X5, co_X5_stretch, by decide, ⟨by decide, by decide, by decide +kernel⟩, rfl, rfl⟩, im_X5_stretch, se_X5_stretch⟩
theorem okX5_high : xokV mX5_high 1 := ⟨⟨in_X5, co_X5_high, by decide, ⟨by decide, by decide, by decide +kernel⟩, rfl, rfl⟩, im_X5_high, se_X5_high⟩
theorem okX5_street : xokV mX5_street 2 := ⟨⟨in_X5, co_X5_street, by decide, ⟨by decide, by decide, by decide +kernel⟩, rfl, rfl⟩, im_X5_street, se_X5_street⟩
theorem okX5_get : xokV mX5_get 2 := ⟨⟨in_X5, co_X5_get, by decide, ⟨by decide, by decide, by decide +kernel⟩, rfl, rfl⟩, im_X5_get, se_X5_get⟩
theorem okX5_shookBy : xokV mX5_shookBy 2 := ⟨⟨in_X5, co_X5_shookBy, by decide, ⟨by decide, by decide, by decide +kernel⟩, rfl, rfl⟩, im_X5_shookBy, se_X5_shookBy⟩
theorem okX5_goesThrough : xokV mX5_goesThrough 3 := ⟨⟨in_X5, co_X5_goesThrough, by decide, ⟨by decide, by decide, by decide +kernel⟩, rfl, rfl⟩, im_X5_goesThrough, se_X5_goesThrough⟩
theorem okX5_hurriesOf : xokS mX5_hurriesOf 1 := ⟨⟨in_X5, co_X5_hurriesOf, by decide, ⟨by decide, by decide, by decide +kernel⟩, rfl, rfl⟩, sm_X5_hurriesOf⟩
theorem okX5_less : xokS mX5_less 2 := ⟨⟨in_X5, co_X5_less, by decide, ⟨by decide, by decide, by decide +kernel⟩, rfl, rfl⟩, sm_X5_less⟩
theorem okX5_slowsTo : xokS mX5_slowsTo 5 := ⟨⟨in_X5, co_X5_slowsTo, by decide, ⟨by decide, by decide, by decide +kernel⟩, rfl, rfl⟩, sm_X5_slowsTo⟩
theorem okX5_plainSlow : xokS mX5_plainSlow 5 := ⟨⟨in_X5, co_X5_plainSlow, by decide, ⟨by decide, by decide, by decide +kernel⟩, rfl, rfl⟩, sm_X5_plainSlow⟩
theorem okX5_atBump : xokS mX5_atBump 3 := ⟨⟨in_X5, co_X5_atBump, by decide, ⟨by decide, by decide, by decide +kernel⟩, rfl, rfl⟩, sm_X5_atBump⟩
theorem okX5_isBus : xokS mX5_isBus 1 := ⟨⟨in_X5, co_X5_isBus, by decide, ⟨by decide, by decide, by decide +kernel⟩, rfl, rfl⟩, sm_X5_isBus⟩
theorem okX5_isLocal : xokS mX5_isLocal 1 := ⟨⟨in_X5, co_X5_isLocal, by decide, ⟨by decide, by decide, by decide +kernel⟩, rfl, rfl⟩, sm_X5_isLocal⟩
theorem okX5_shakesAt : xokS mX5_shakesAt 3 := ⟨⟨in_X5, co_X5_shakesAt, by decide, ⟨by decide, by decide, by decide +kernel⟩, rfl, rfl⟩, sm_X5_shakesAt⟩
theorem okX5_thingsIn : xokV mX5_thingsIn 1 := ⟨⟨in_X5, co_X5_thingsIn, by decide, ⟨by decide, by decide, by decide +kernel⟩, rfl, rfl⟩, im_X5_thingsIn, se_X5_thingsIn⟩
theorem okX5_bumpsIn : xokV mX5_bumpsIn 1 := ⟨⟨in_X5, co_X5_bumpsIn, by decide, ⟨by decide, by decide, by decide +kernel⟩, rfl, rfl⟩, im_X5_bumpsIn, se_X5_bumpsIn⟩
theorem okX5_now : xokV mX5_now 1 := ⟨⟨in_X5, co_X5_now, by decide, ⟨by decide, by decide, by decide +kernel⟩, rfl, rfl⟩, im_X5_now, se_X5_now⟩
theorem okX5_allShook : xokV mX5_allShook 0 := ⟨⟨in_X5, co_X5_allShook, by decide, ⟨by decide, by decide, by decide +kernel⟩, rfl, rfl⟩, im_X5_allShook, se_X5_allShook⟩
theorem okX5_allTook : xokV mX5_allTook 0 := ⟨⟨in_X5, co_X5_allTook, by decide, ⟨by decide, by decide, by decide +kernel⟩, rfl, rfl⟩, im_X5_allTook, se_X5_allTook⟩
theorem okX5_tookBy : xokV mX5_tookBy 2 := ⟨⟨in_X5, co_X5_tookBy, by decide, ⟨by decide, by decide, by decide +kernel⟩, rfl, rfl⟩, im_X5_tookBy, se_X5_tookBy⟩
theorem okX5_driver : xokV mX5_driver 1 := ⟨⟨in_X5, co_X5_driver, by decide, ⟨by decide, by decide, by decide +kernel⟩, rfl, rfl⟩, im_X5_driver, se_X5_driver⟩
theorem okX5_addsDriver : xokV mX5_addsDriver 1 := ⟨⟨in_X5, co_X5_addsDriver, by decide, ⟨by decide, by decide, by decide +kernel⟩, rfl, rfl⟩, im_X5_addsDriver, se_X5_addsDriver⟩
theorem okX5_puts : xokV mX5_puts 3 := ⟨⟨in_X5, co_X5_puts, by decide, ⟨by decide, by decide, by decide +kernel⟩, rfl, rfl⟩, im_X5_puts, se_X5_puts⟩
theorem okX5_of : xokV mX5_of 2 := ⟨⟨in_X5, co_X5_of, by decide, ⟨by decide, by decide, by decide +kernel⟩, rfl, rfl⟩, im_X5_of, se_X5_of⟩
theorem okX5_isDriver : xokV mX5_isDriver 1 := ⟨⟨in_X5, co_X5_isDriver, by decide, ⟨by decide, by decide, by decide +kernel⟩, rfl, rfl⟩, im_X5_isDriver, se_X5_isDriver⟩
theorem okX5_set : xokV mX5_set 3 := ⟨⟨in_X5, co_X5_set, by decide, ⟨by decide, by decide, by decide +kernel⟩, rfl, rfl⟩, im_X5_set, se_X5_set⟩
theorem okX5_isWish : xokS mX5_isWish 1 := ⟨⟨in_X5, co_X5_isWish, by decide, ⟨by decide, by decide, by decide +kernel⟩, rfl, rfl⟩, sm_X5_isWish⟩
theorem okX5_turn : xokV mX5_turn 2 := ⟨⟨in_X5, co_X5_turn, by decide, ⟨by decide, by decide, by decide +kernel⟩, rfl, rfl⟩, im_X5_turn, se_X5_turn⟩
theorem okX5_as : xokV mX5_as 2 := ⟨⟨in_X5, co_X5_as, by decide, ⟨by decide, by decide, by decide +kernel⟩, rfl, rfl⟩, im_X5_as, se_X5_as⟩
theorem okX5_slows : xokV mX5_slows 3 := ⟨⟨in_X5, co_X5_slows, by decide, ⟨by decide, by decide, by decide +kernel⟩, rfl, rfl⟩, im_X5_slows, se_X5_slows⟩
theorem okX5_quick : xokV mX5_quick 3 := ⟨⟨in_X5, co_X5_quick, by decide, ⟨by decide, by decide, by decide +kernel⟩, rfl, rfl⟩, im_X5_quick, se_X5_quick⟩
theorem okX5_areBoth : xokV mX5_areBoth 2 := ⟨⟨in_X5, co_X5_areBoth, by decide, ⟨by decide, by decide, by decide +kernel⟩, rfl, rfl⟩, im_X5_areBoth, se_X5_areBoth⟩
theorem okX5_takes : xokV mX5_takes 2 := ⟨⟨in_X5, co_X5_takes, by decide, ⟨by decide, by decide, by decide +kernel⟩, rfl, rfl⟩, im_X5_takes, se_X5_takes⟩
theorem okX5_shaken : xokV mX5_shaken 2 := ⟨⟨in_X5, co_X5_shaken, by decide, ⟨by decide, by decide, by decide +kernel⟩, rfl, rfl⟩, im_X5_shaken, se_X5_shaken⟩
theorem okX5_days : xokV mX5_days 1 := ⟨⟨in_X5, co_X5_days, by decide, ⟨by decide, by decide, by decide +kernel⟩, rfl, rfl⟩, im_X5_days, se_X5_days⟩
theorem okX5_goes : xokV mX5_goes 1 := ⟨⟨in_X5, co_X5_goes, by decide, ⟨by decide, by decide, by decide +kernel⟩, rfl, rfl⟩, im_X5_goes, se_X5_goes⟩
theorem okX5_chooses : xokV mX5_chooses 1 := ⟨⟨in_X5, co_X5_chooses, by decide, ⟨by decide, by decide, by decide +kernel⟩, rfl, rfl⟩, im_X5_chooses, se_X5_chooses⟩
theorem okX5_on : xokV mX5_on 2 := ⟨⟨in_X5, co_X5_on, by decide, ⟨by decide, by decide, by decide +kernel⟩, rfl, rfl⟩, im_X5_on, se_X5_on⟩
theorem okX5_setsAside : xokV mX5_setsAside 0 := ⟨⟨in_X5, co_X5_setsAside, by decide, ⟨by decide, by decide, by decide +kernel⟩, rfl, rfl⟩, im_X5_setsAside, se_X5_setsAside⟩
theorem okX5_laysBack : xokV mX5_laysBack 0 := ⟨⟨in_X5, co_X5_laysBack, by decide, ⟨by decide, by decide, by decide +kernel⟩, rfl, rfl⟩, im_X5_laysBack, se_X5_laysBack⟩
theorem okX5_then : xokV mX5_then 2 := ⟨⟨in_X5, co_X5_then, by decide, ⟨by decide, by decide, by decide +kernel⟩, rfl, rfl⟩, im_X5_then, se_X5_then⟩
theorem okX5_onBy : xokV mX5_onBy 2 := ⟨⟨in_X5, co_X5_onBy, by decide, ⟨by decide, by decide, by decide +kernel⟩, rfl, rfl⟩, im_X5_onBy, se_X5_onBy⟩
theorem okX5_leaves : xokV mX5_leaves 1 := ⟨⟨in_X5, co_X5_leaves, by decide, ⟨by decide, by decide, by decide +kernel⟩, rfl, rfl⟩, im_X5_leaves, se_X5_leaves⟩
theorem okX5_tame : xokV mX5_tame 2 := ⟨⟨in_X5, co_X5_tame, by decide, ⟨by decide, by decide, by decide +kernel⟩, rfl, rfl⟩, im_X5_tame, se_X5_tame⟩
theorem okX5_quickest : xokV mX5_quickest 0 := ⟨⟨in_X5, co_X5_quickest, by decide, ⟨by decide, by decide, by decide +kernel⟩, rfl, rfl⟩, im_X5_quickest, se_X5_quickest⟩
theorem okX5_clear : xokV mX5_clear 2 := ⟨⟨in_X5, co_X5_clear, by decide, ⟨by decide, by decide, by decide +kernel⟩, rfl, rfl⟩, im_X5_clear, se_X5_clear⟩
theorem okX5_lower : xokV mX5_lower 2 := ⟨⟨in_X5, co_X5_lower, by decide, ⟨by decide, by decide, by decide +kernel⟩, rfl, rfl⟩, im_X5_lower, se_X5_lower⟩
theorem okX5_kind : xokV mX5_kind 2 := ⟨⟨in_X5, co_X5_kind, by decide, ⟨by decide, by decide, by decide +kernel⟩, rfl, rfl⟩, im_X5_kind, se_X5_kind⟩
theorem okX5_wish : xokV mX5_wish 3 := ⟨⟨in_X5, co_X5_wish, by decide, ⟨by decide, by decide, by decide +kernel⟩, rfl, rfl⟩, im_X5_wish, se_X5_wish⟩
theorem okX5_drives : xokV mX5_drives 1 := ⟨⟨in_X5, co_X5_drives, by decide, ⟨by decide, by decide, by decide +kernel⟩, rfl, rfl⟩, im_X5_drives, se_X5_drives⟩
theorem okX5_slowest : xokV mX5_slowest 0 := ⟨⟨in_X5, co_X5_slowest, by decide, ⟨by decide, by decide, by decide +kernel⟩, rfl, rfl⟩, im_X5_slowest, se_X5_slowest⟩
theorem okX5_feed : xokV mX5_feed 2 := ⟨⟨in_X5, co_X5_feed, by decide, ⟨by decide, by decide, by decide +kernel⟩, rfl, rfl⟩, im_X5_feed, se_X5_feed⟩
theorem okX5_wipe : xokV mX5_wipe 0 := ⟨⟨in_X5, co_X5_wipe, by decide, ⟨by decide, by decide, by decide +kernel⟩, rfl, rfl⟩, im_X5_wipe, se_X5_wipe⟩
theorem okX5_town : xokV mX5_town 0 := ⟨⟨in_X5, co_X5_town, by decide, ⟨by decide, by decide, by decide +kernel⟩, rfl, rfl⟩, im_X5_town, se_X5_town⟩
theorem okX5_nextToken : xokV mX5_nextToken 0 := ⟨⟨in_X5, co_X5_nextToken, by decide, ⟨by decide, by decide, by decide +kernel⟩, rfl, rfl⟩, im_X5_nextToken, se_X5_nextToken⟩
theorem okX5_isLetter : xokS mX5_isLetter 1 := ⟨⟨in_X5, co_X5_isLetter, by decide, ⟨by decide, by decide, by decide +kernel⟩, rfl, rfl⟩, sm_X5_isLetter⟩
theorem okX5_isDigit : xokS mX5_isDigit 1 := ⟨⟨in_X5, co_X5_isDigit, by decide, ⟨by decide, by decide, by decide +kernel⟩, rfl, rfl⟩, sm_X5_isDigit⟩
theorem okX5_readsItem : xokV mX5_readsItem 0 := ⟨⟨in_X5, co_X5_readsItem, by decide, ⟨by decide, by decide, by decide +kernel⟩, rfl, rfl⟩, im_X5_readsItem, se_X5_readsItem⟩
theorem okX5_wordOf : xokV mX5_wordOf 1 := ⟨⟨in_X5, co_X5_wordOf, by decide, ⟨by decide, by decide, by decide +kernel⟩, rfl, rfl⟩, im_X5_wordOf, se_X5_wordOf⟩
theorem okX5_readsDriver : xokV mX5_readsDriver 1 := ⟨⟨in_X5, co_X5_readsDriver, by decide, ⟨by decide, by decide, by decide +kernel⟩, rfl, rfl⟩, im_X5_readsDriver, se_X5_readsDriver⟩
theorem okX5_takesNumber : xokV mX5_takesNumber 2 := ⟨⟨in_X5, co_X5_takesNumber, by decide, ⟨by decide, by decide, by decide +kernel⟩, rfl, rfl⟩, im_X5_takesNumber, se_X5_takesNumber⟩
theorem okX5_readsThing : xokV mX5_readsThing 1 := ⟨⟨in_X5, co_X5_readsThing, by decide, ⟨by decide, by decide, by decide +kernel⟩, rfl, rfl⟩, im_X5_readsThing, se_X5_readsThing⟩
theorem okX5_sheet : xokV mX5_sheet 3 := ⟨⟨in_X5, co_X5_sheet, by decide, ⟨by decide, by decide, by decide +kernel⟩, rfl, rfl⟩, im_X5_sheet, se_X5_sheet⟩
theorem okX5_isSheet : xokS mX5_isSheet 1 := ⟨⟨in_X5, co_X5_isSheet, by decide, ⟨by decide, by decide, by decide +kernel⟩, rfl, rfl⟩, sm_X5_isSheet⟩
theorem okX5_write : xokV mX5_write 3 := ⟨⟨in_X5, co_X5_write, by decide, ⟨by decide, by decide, by decide +kernel⟩, rfl, rfl⟩, im_X5_write, se_X5_write⟩
theorem okX5_wrongSheet : xokV mX5_wrongSheet 1 := ⟨⟨in_X5, co_X5_wrongSheet, by decide, ⟨by decide, by decide, by decide +kernel⟩, rfl, rfl⟩, im_X5_wrongSheet, se_X5_wrongSheet⟩
theorem okX5_told : xokV mX5_told 2 := ⟨⟨in_X5, co_X5_told, by decide, ⟨by decide, by decide, by decide +kernel⟩, rfl, rfl⟩, im_X5_told, se_X5_told⟩
theorem okX5_tells : xokV mX5_tells 3 := ⟨⟨in_X5, co_X5_tells, by decide, ⟨by decide, by decide, by decide +kernel⟩, rfl, rfl⟩, im_X5_tells, se_X5_tells⟩
theorem okX5_copy : xokV mX5_copy 5 := ⟨⟨in_X5, co_X5_copy, by decide, ⟨by decide, by decide, by decide +kernel⟩, rfl, rfl⟩, im_X5_copy, se_X5_copy⟩
theorem okX5_lays : xokV mX5_lays 2 := ⟨⟨in_X5, co_X5_lays, by decide, ⟨by decide, by decide, by decide +kernel⟩, rfl, rfl⟩, im_X5_lays, se_X5_lays⟩
theorem okX5_wrongWith : xokV mX5_wrongWith 2 := ⟨⟨in_X5, co_X5_wrongWith, by decide, ⟨by decide, by decide, by decide +kernel⟩, rfl, rfl⟩, im_X5_wrongWith, se_X5_wrongWith⟩
theorem okX5_book : xokV mX5_book 3 := ⟨⟨in_X5, co_X5_book, by decide, ⟨by decide, by decide, by decide +kernel⟩, rfl, rfl⟩, im_X5_book, se_X5_book⟩
theorem okX5_read : xokV mX5_read 3 := ⟨⟨in_X5, co_X5_read, by decide, ⟨by decide, by decide, by decide +kernel⟩, rfl, rfl⟩, im_X5_read, se_X5_read⟩
theorem okX5_isSo : xokV mX5_isSo 1 := ⟨⟨in_X5, co_X5_isSo, by decide, ⟨by decide, by decide, by decide +kernel⟩, rfl, rfl⟩, im_X5_isSo, se_X5_isSo⟩
theorem okX5_image : xokV mX5_image 0 := ⟨⟨in_X5, co_X5_image, by decide, ⟨by decide, by decide, by decide +kernel⟩, rfl, rfl⟩, im_X5_image, se_X5_image⟩
theorem okX5_undo : xokV mX5_undo 0 := ⟨⟨in_X5, co_X5_undo, by decide, ⟨by decide, by decide, by decide +kernel⟩, rfl, rfl⟩, im_X5_undo, se_X5_undo⟩
theorem okX5_tear : xokV mX5_tear 0 := ⟨⟨in_X5, co_X5_tear, by decide, ⟨by decide, by decide, by decide +kernel⟩, rfl, rfl⟩, im_X5_tear, se_X5_tear⟩
theorem okX5_count : xokV mX5_count 1 := ⟨⟨in_X5, co_X5_count, by decide, ⟨by decide, by decide, by decide +kernel⟩, rfl, rfl⟩, im_X5_count, se_X5_count⟩
theorem okX5_status : xokV mX5_status 1 := ⟨⟨in_X5, co_X5_status, by decide, ⟨by decide, by decide, by decide +kernel⟩, rfl, rfl⟩, im_X5_status, se_X5_status⟩
end

section
-- ===== PART A: goes FIRST, ahead of the names: the tables' words, and 'selects' of the private methods out of them =====
/-- a private method of a class that the tables say can be made, by its rows of tables_1 -/
def lw_okq (q : MethodName × Nat) : Prop := (q.1.cls ≠ "java/lang/invoke/MethodHandle" ∧ q.1.cls ≠ "java/lang/invoke/VarHandle") ∧ Cond.instantiable q.1.cls q.2 ∈ tables_1 ∧ Cond.privateMethod q.1 ∈ tables_1 ∧ Cond.instanceMethod q.1 ∈ tables_1
theorem lw_p0 : lw_okq (⟨"TwoScales$Text", "takeToken", "()V"⟩, 9) := ⟨⟨by decide +kernel, by decide +kernel⟩, List.mem_of_getElem? (i := 24) (by decide +kernel), List.mem_of_getElem? (i := 339) (by decide +kernel), List.mem_of_getElem? (i := 340) (by decide +kernel)⟩
theorem lw_p1 : lw_okq (⟨"TwoScales$Text", "takeDigits", "()V"⟩, 9) := ⟨⟨by decide +kernel, by decide +kernel⟩, List.mem_of_getElem? (i := 24) (by decide +kernel), List.mem_of_getElem? (i := 346) (by decide +kernel), List.mem_of_getElem? (i := 347) (by decide +kernel)⟩
theorem lw_p2 : lw_okq (⟨"TwoScales$Text", "readLaw", "()V"⟩, 9) := ⟨⟨by decide +kernel, by decide +kernel⟩, List.mem_of_getElem? (i := 24) (by decide +kernel), List.mem_of_getElem? (i := 356) (by decide +kernel), List.mem_of_getElem? (i := 357) (by decide +kernel)⟩
theorem lw_p3 : lw_okq (⟨"TwoScales$Text", "takeNumber", "(II)I"⟩, 9) := ⟨⟨by decide +kernel, by decide +kernel⟩, List.mem_of_getElem? (i := 24) (by decide +kernel), List.mem_of_getElem? (i := 360) (by decide +kernel), List.mem_of_getElem? (i := 361) (by decide +kernel)⟩
theorem lw_p4 : lw_okq (⟨"TwoScales$Text", "refuseToken", "()V"⟩, 9) := ⟨⟨by decide +kernel, by decide +kernel⟩, List.mem_of_getElem? (i := 24) (by decide +kernel), List.mem_of_getElem? (i := 364) (by decide +kernel), List.mem_of_getElem? (i := 365) (by decide +kernel)⟩
theorem lw_p5 : lw_okq (⟨"TwoScales$Text", "readThing", "()V"⟩, 9) := ⟨⟨by decide +kernel, by decide +kernel⟩, List.mem_of_getElem? (i := 24) (by decide +kernel), List.mem_of_getElem? (i := 368) (by decide +kernel), List.mem_of_getElem? (i := 369) (by decide +kernel)⟩
theorem lw_p6 : lw_okq (⟨"TwoScales$Text", "readPerson", "()V"⟩, 9) := ⟨⟨by decide +kernel, by decide +kernel⟩, List.mem_of_getElem? (i := 24) (by decide +kernel), List.mem_of_getElem? (i := 372) (by decide +kernel), List.mem_of_getElem? (i := 373) (by decide +kernel)⟩
theorem lw_p7 : lw_okq (⟨"TwoScales$Text", "readDoor", "()V"⟩, 9) := ⟨⟨by decide +kernel, by decide +kernel⟩, List.mem_of_getElem? (i := 24) (by decide +kernel), List.mem_of_getElem? (i := 376) (by decide +kernel), List.mem_of_getElem? (i := 377) (by decide +kernel)⟩
theorem lw_p8 : lw_okq (⟨"TwoScales$Text", "takeEndOfItem", "()V"⟩, 9) := ⟨⟨by decide +kernel, by decide +kernel⟩, List.mem_of_getElem? (i := 24) (by decide +kernel), List.mem_of_getElem? (i := 380) (by decide +kernel), List.mem_of_getElem? (i := 381) (by decide +kernel)⟩
theorem lw_p9 : lw_okq (⟨"TwoScales$House", "fitsAtScale", "(IIII)Z"⟩, 2) := ⟨⟨by decide +kernel, by decide +kernel⟩, List.mem_of_getElem? (i := 169) (by decide +kernel), List.mem_of_getElem? (i := 433) (by decide +kernel), List.mem_of_getElem? (i := 434) (by decide +kernel)⟩
theorem lw_p10 : lw_okq (⟨"TwoScales$House", "hasOneOf", "(II)Z"⟩, 2) := ⟨⟨by decide +kernel, by decide +kernel⟩, List.mem_of_getElem? (i := 169) (by decide +kernel), List.mem_of_getElem? (i := 486) (by decide +kernel), List.mem_of_getElem? (i := 487) (by decide +kernel)⟩
theorem lw_p11 : lw_okq (⟨"TwoScales$Housing", "canHouse", "(LTwoScales$House;I)Z"⟩, 1) := ⟨⟨by decide +kernel, by decide +kernel⟩, List.mem_of_getElem? (i := 250) (by decide +kernel), List.mem_of_getElem? (i := 536) (by decide +kernel), List.mem_of_getElem? (i := 537) (by decide +kernel)⟩
theorem lw_p12 : lw_okq (⟨"TwoScales$Trials", "allow", "(LTwoScales$House;II)Z"⟩, 3) := ⟨⟨by decide +kernel, by decide +kernel⟩, List.mem_of_getElem? (i := 233) (by decide +kernel), List.mem_of_getElem? (i := 585) (by decide +kernel), List.mem_of_getElem? (i := 586) (by decide +kernel)⟩
theorem lw_p13 : lw_okq (⟨"TwoScales", "scaleOfMost", "()I"⟩, 10) := ⟨⟨by decide +kernel, by decide +kernel⟩, List.mem_of_getElem? (i := 16) (by decide +kernel), List.mem_of_getElem? (i := 621) (by decide +kernel), List.mem_of_getElem? (i := 622) (by decide +kernel)⟩
theorem lw_p14 : lw_okq (⟨"TwoScales$Carrying", "findLatest", "(LTwoScales$House;I)V"⟩, 2) := ⟨⟨by decide +kernel, by decide +kernel⟩, List.mem_of_getElem? (i := 260) (by decide +kernel), List.mem_of_getElem? (i := 654) (by decide +kernel), List.mem_of_getElem? (i := 655) (by decide +kernel)⟩
theorem lw_p15 : lw_okq (⟨"TwoScales$Carrying", "lowestInTime", "(LTwoScales$House;II)I"⟩, 2) := ⟨⟨by decide +kernel, by decide +kernel⟩, List.mem_of_getElem? (i := 260) (by decide +kernel), List.mem_of_getElem? (i := 661) (by decide +kernel), List.mem_of_getElem? (i := 662) (by decide +kernel)⟩
def lw_privs_1 : List (MethodName × Nat) := [(⟨"TwoScales$Text", "takeToken", "()V"⟩, 9), (⟨"TwoScales$Text", "takeDigits", "()V"⟩, 9), (⟨"TwoScales$Text", "readLaw", "()V"⟩, 9), (⟨"TwoScales$Text", "takeNumber", "(II)I"⟩, 9), (⟨"TwoScales$Text", "refuseToken", "()V"⟩, 9), (⟨"TwoScales$Text", "readThing", "()V"⟩, 9), (⟨"TwoScales$Text", "readPerson", "()V"⟩, 9), (⟨"TwoScales$Text", "readDoor", "()V"⟩, 9), (⟨"TwoScales$Text", "takeEndOfItem", "()V"⟩, 9), (⟨"TwoScales$House", "fitsAtScale", "(IIII)Z"⟩, 2), (⟨"TwoScales$House", "hasOneOf", "(II)Z"⟩, 2), (⟨"TwoScales$Housing", "canHouse", "(LTwoScales$House;I)Z"⟩, 1), (⟨"TwoScales$Trials", "allow", "(LTwoScales$House;II)Z"⟩, 3), (⟨"TwoScales", "scaleOfMost", "()I"⟩, 10), (⟨"TwoScales$Carrying", "findLatest", "(LTwoScales$House;I)V"⟩, 2), (⟨"TwoScales$Carrying", "lowestInTime", "(LTwoScales$House;II)I"⟩, 2)]
theorem lw_r1 : ∀ q ∈ lw_privs_1, lw_okq q := List.forall_mem_cons.mpr ⟨lw_p0, List.forall_mem_cons.mpr ⟨lw_p1, List.forall_mem_cons.mpr ⟨lw_p2, List.forall_mem_cons.mpr ⟨lw_p3, List.forall_mem_cons.mpr ⟨lw_p4, List.forall_mem_cons.mpr ⟨lw_p5, List.forall_mem_cons.mpr ⟨lw_p6, List.forall_mem_cons.mpr ⟨lw_p7, List.forall_mem_cons.mpr ⟨lw_p8, List.forall_mem_cons.mpr ⟨lw_p9, List.forall_mem_cons.mpr ⟨lw_p10, List.forall_mem_cons.mpr ⟨lw_p11, List.forall_mem_cons.mpr ⟨lw_p12, List.forall_mem_cons.mpr ⟨lw_p13, List.forall_mem_cons.mpr ⟨lw_p14, List.forall_mem_cons.mpr ⟨lw_p15, fun _ h => absurd h List.not_mem_nil⟩⟩⟩⟩⟩⟩⟩⟩⟩⟩⟩⟩⟩⟩⟩⟩
theorem lw_p16 : lw_okq (⟨"TwoScales", "rateOfThing", "(I)I"⟩, 10) := ⟨⟨by decide +kernel, by decide +kernel⟩, List.mem_of_getElem? (i := 16) (by decide +kernel), List.mem_of_getElem? (i := 718) (by decide +kernel), List.mem_of_getElem? (i := 719) (by decide +kernel)⟩
theorem lw_p17 : lw_okq (⟨"TwoScales", "rateOfTurned", "(I)I"⟩, 10) := ⟨⟨by decide +kernel, by decide +kernel⟩, List.mem_of_getElem? (i := 16) (by decide +kernel), List.mem_of_getElem? (i := 722) (by decide +kernel), List.mem_of_getElem? (i := 723) (by decide +kernel)⟩
theorem lw_p18 : lw_okq (⟨"TwoScales", "rateOfGlued", "(I)I"⟩, 10) := ⟨⟨by decide +kernel, by decide +kernel⟩, List.mem_of_getElem? (i := 16) (by decide +kernel), List.mem_of_getElem? (i := 727) (by decide +kernel), List.mem_of_getElem? (i := 728) (by decide +kernel)⟩
theorem lw_p19 : lw_okq (⟨"TwoScales", "rateOfCarved", "(I)I"⟩, 10) := ⟨⟨by decide +kernel, by decide +kernel⟩, List.mem_of_getElem? (i := 16) (by decide +kernel), List.mem_of_getElem? (i := 732) (by decide +kernel), List.mem_of_getElem? (i := 733) (by decide +kernel)⟩
theorem lw_p20 : lw_okq (⟨"TwoScales", "rateOfSoup", "(I)I"⟩, 10) := ⟨⟨by decide +kernel, by decide +kernel⟩, List.mem_of_getElem? (i := 16) (by decide +kernel), List.mem_of_getElem? (i := 737) (by decide +kernel), List.mem_of_getElem? (i := 738) (by decide +kernel)⟩
theorem lw_p21 : lw_okq (⟨"TwoScales", "rateOfReal", "(I)I"⟩, 10) := ⟨⟨by decide +kernel, by decide +kernel⟩, List.mem_of_getElem? (i := 16) (by decide +kernel), List.mem_of_getElem? (i := 742) (by decide +kernel), List.mem_of_getElem? (i := 743) (by decide +kernel)⟩
theorem lw_p22 : lw_okq (⟨"TwoScalesModel", "firstLaws", "(I)V"⟩, 25) := ⟨⟨by decide +kernel, by decide +kernel⟩, List.mem_of_getElem? (i := 764) (by decide +kernel), List.mem_of_getElem? (i := 770) (by decide +kernel), List.mem_of_getElem? (i := 771) (by decide +kernel)⟩
theorem lw_p23 : lw_okq (⟨"TwoScalesModel", "advances", "()V"⟩, 25) := ⟨⟨by decide +kernel, by decide +kernel⟩, List.mem_of_getElem? (i := 764) (by decide +kernel), List.mem_of_getElem? (i := 865) (by decide +kernel), List.mem_of_getElem? (i := 866) (by decide +kernel)⟩
theorem lw_p24 : lw_okq (⟨"TwoScalesModel", "letterAt", "(I)I"⟩, 25) := ⟨⟨by decide +kernel, by decide +kernel⟩, List.mem_of_getElem? (i := 764) (by decide +kernel), List.mem_of_getElem? (i := 869) (by decide +kernel), List.mem_of_getElem? (i := 870) (by decide +kernel)⟩
theorem lw_p25 : lw_okq (⟨"TwoScalesModel", "isWell", "()Z"⟩, 25) := ⟨⟨by decide +kernel, by decide +kernel⟩, List.mem_of_getElem? (i := 764) (by decide +kernel), List.mem_of_getElem? (i := 873) (by decide +kernel), List.mem_of_getElem? (i := 874) (by decide +kernel)⟩
theorem lw_p26 : lw_okq (⟨"TwoScalesModel", "mayBegin", "()Z"⟩, 25) := ⟨⟨by decide +kernel, by decide +kernel⟩, List.mem_of_getElem? (i := 764) (by decide +kernel), List.mem_of_getElem? (i := 877) (by decide +kernel), List.mem_of_getElem? (i := 878) (by decide +kernel)⟩
theorem lw_p27 : lw_okq (⟨"TwoScalesModel", "takes", "(Z)I"⟩, 25) := ⟨⟨by decide +kernel, by decide +kernel⟩, List.mem_of_getElem? (i := 764) (by decide +kernel), List.mem_of_getElem? (i := 881) (by decide +kernel), List.mem_of_getElem? (i := 882) (by decide +kernel)⟩
theorem lw_p28 : lw_okq (⟨"TwoScalesModel", "readsItem", "(I)V"⟩, 25) := ⟨⟨by decide +kernel, by decide +kernel⟩, List.mem_of_getElem? (i := 764) (by decide +kernel), List.mem_of_getElem? (i := 885) (by decide +kernel), List.mem_of_getElem? (i := 886) (by decide +kernel)⟩
theorem lw_p29 : lw_okq (⟨"TwoScalesModel", "number", "(II)I"⟩, 25) := ⟨⟨by decide +kernel, by decide +kernel⟩, List.mem_of_getElem? (i := 764) (by decide +kernel), List.mem_of_getElem? (i := 889) (by decide +kernel), List.mem_of_getElem? (i := 890) (by decide +kernel)⟩
theorem lw_p30 : lw_okq (⟨"TwoScalesModel", "settles", "()V"⟩, 25) := ⟨⟨by decide +kernel, by decide +kernel⟩, List.mem_of_getElem? (i := 764) (by decide +kernel), List.mem_of_getElem? (i := 893) (by decide +kernel), List.mem_of_getElem? (i := 894) (by decide +kernel)⟩
theorem lw_p31 : lw_okq (⟨"TwoScalesModel", "isThingThere", "(I)Z"⟩, 25) := ⟨⟨by decide +kernel, by decide +kernel⟩, List.mem_of_getElem? (i := 764) (by decide +kernel), List.mem_of_getElem? (i := 905) (by decide +kernel), List.mem_of_getElem? (i := 906) (by decide +kernel)⟩
def lw_privs_2 : List (MethodName × Nat) := [(⟨"TwoScales", "rateOfThing", "(I)I"⟩, 10), (⟨"TwoScales", "rateOfTurned", "(I)I"⟩, 10), (⟨"TwoScales", "rateOfGlued", "(I)I"⟩, 10), (⟨"TwoScales", "rateOfCarved", "(I)I"⟩, 10), (⟨"TwoScales", "rateOfSoup", "(I)I"⟩, 10), (⟨"TwoScales", "rateOfReal", "(I)I"⟩, 10), (⟨"TwoScalesModel", "firstLaws", "(I)V"⟩, 25), (⟨"TwoScalesModel", "advances", "()V"⟩, 25), (⟨"TwoScalesModel", "letterAt", "(I)I"⟩, 25), (⟨"TwoScalesModel", "isWell", "()Z"⟩, 25), (⟨"TwoScalesModel", "mayBegin", "()Z"⟩, 25), (⟨"TwoScalesModel", "takes", "(Z)I"⟩, 25), (⟨"TwoScalesModel", "readsItem", "(I)V"⟩, 25), (⟨"TwoScalesModel", "number", "(II)I"⟩, 25), (⟨"TwoScalesModel", "settles", "()V"⟩, 25), (⟨"TwoScalesModel", "isThingThere", "(I)Z"⟩, 25)]
theorem lw_r2 : ∀ q ∈ lw_privs_2, lw_okq q := List.forall_mem_cons.mpr ⟨lw_p16, List.forall_mem_cons.mpr ⟨lw_p17, List.forall_mem_cons.mpr ⟨lw_p18, List.forall_mem_cons.mpr ⟨lw_p19, List.forall_mem_cons.mpr ⟨lw_p20, List.forall_mem_cons.mpr ⟨lw_p21, List.forall_mem_cons.mpr ⟨lw_p22, List.forall_mem_cons.mpr ⟨lw_p23, List.forall_mem_cons.mpr ⟨lw_p24, List.forall_mem_cons.mpr ⟨lw_p25, List.forall_mem_cons.mpr ⟨lw_p26, List.forall_mem_cons.mpr ⟨lw_p27, List.forall_mem_cons.mpr ⟨lw_p28, List.forall_mem_cons.mpr ⟨lw_p29, List.forall_mem_cons.mpr ⟨lw_p30, List.forall_mem_cons.mpr ⟨lw_p31, fun _ h => absurd h List.not_mem_nil⟩⟩⟩⟩⟩⟩⟩⟩⟩⟩⟩⟩⟩⟩⟩⟩
theorem lw_p32 : lw_okq (⟨"TwoScalesModel", "fitsOf", "(I)I"⟩, 25) := ⟨⟨by decide +kernel, by decide +kernel⟩, List.mem_of_getElem? (i := 764) (by decide +kernel), List.mem_of_getElem? (i := 909) (by decide +kernel), List.mem_of_getElem? (i := 910) (by decide +kernel)⟩
theorem lw_p33 : lw_okq (⟨"TwoScalesModel", "isFit", "(II)Z"⟩, 25) := ⟨⟨by decide +kernel, by decide +kernel⟩, List.mem_of_getElem? (i := 764) (by decide +kernel), List.mem_of_getElem? (i := 913) (by decide +kernel), List.mem_of_getElem? (i := 914) (by decide +kernel)⟩
theorem lw_p34 : lw_okq (⟨"TwoScalesModel", "fits", "(IIII)Z"⟩, 25) := ⟨⟨by decide +kernel, by decide +kernel⟩, List.mem_of_getElem? (i := 764) (by decide +kernel), List.mem_of_getElem? (i := 917) (by decide +kernel), List.mem_of_getElem? (i := 918) (by decide +kernel)⟩
theorem lw_p35 : lw_okq (⟨"TwoScalesModel", "useOf", "(I)I"⟩, 25) := ⟨⟨by decide +kernel, by decide +kernel⟩, List.mem_of_getElem? (i := 764) (by decide +kernel), List.mem_of_getElem? (i := 921) (by decide +kernel), List.mem_of_getElem? (i := 922) (by decide +kernel)⟩
theorem lw_p36 : lw_okq (⟨"TwoScalesModel", "isPerson", "(I)Z"⟩, 25) := ⟨⟨by decide +kernel, by decide +kernel⟩, List.mem_of_getElem? (i := 764) (by decide +kernel), List.mem_of_getElem? (i := 929) (by decide +kernel), List.mem_of_getElem? (i := 930) (by decide +kernel)⟩
theorem lw_p37 : lw_okq (⟨"TwoScalesModel", "thingsOf", "(I)I"⟩, 25) := ⟨⟨by decide +kernel, by decide +kernel⟩, List.mem_of_getElem? (i := 764) (by decide +kernel), List.mem_of_getElem? (i := 933) (by decide +kernel), List.mem_of_getElem? (i := 934) (by decide +kernel)⟩
theorem lw_p38 : lw_okq (⟨"TwoScalesModel", "taller", "(I)I"⟩, 25) := ⟨⟨by decide +kernel, by decide +kernel⟩, List.mem_of_getElem? (i := 764) (by decide +kernel), List.mem_of_getElem? (i := 937) (by decide +kernel), List.mem_of_getElem? (i := 938) (by decide +kernel)⟩
theorem lw_p39 : lw_okq (⟨"TwoScalesModel", "useless", "()I"⟩, 25) := ⟨⟨by decide +kernel, by decide +kernel⟩, List.mem_of_getElem? (i := 764) (by decide +kernel), List.mem_of_getElem? (i := 949) (by decide +kernel), List.mem_of_getElem? (i := 950) (by decide +kernel)⟩
theorem lw_p40 : lw_okq (⟨"TwoScalesModel", "bare", "(I)I"⟩, 25) := ⟨⟨by decide +kernel, by decide +kernel⟩, List.mem_of_getElem? (i := 764) (by decide +kernel), List.mem_of_getElem? (i := 953) (by decide +kernel), List.mem_of_getElem? (i := 954) (by decide +kernel)⟩
theorem lw_p41 : lw_okq (⟨"TwoScalesModel", "owned", "()I"⟩, 25) := ⟨⟨by decide +kernel, by decide +kernel⟩, List.mem_of_getElem? (i := 764) (by decide +kernel), List.mem_of_getElem? (i := 957) (by decide +kernel), List.mem_of_getElem? (i := 958) (by decide +kernel)⟩
theorem lw_p42 : lw_okq (⟨"TwoScalesModel", "hasOne", "(II)Z"⟩, 25) := ⟨⟨by decide +kernel, by decide +kernel⟩, List.mem_of_getElem? (i := 764) (by decide +kernel), List.mem_of_getElem? (i := 965) (by decide +kernel), List.mem_of_getElem? (i := 966) (by decide +kernel)⟩
theorem lw_p43 : lw_okq (⟨"TwoScalesModel", "notes", "()V"⟩, 25) := ⟨⟨by decide +kernel, by decide +kernel⟩, List.mem_of_getElem? (i := 764) (by decide +kernel), List.mem_of_getElem? (i := 969) (by decide +kernel), List.mem_of_getElem? (i := 970) (by decide +kernel)⟩
theorem lw_p44 : lw_okq (⟨"TwoScalesModel", "housedSet", "()I"⟩, 25) := ⟨⟨by decide +kernel, by decide +kernel⟩, List.mem_of_getElem? (i := 764) (by decide +kernel), List.mem_of_getElem? (i := 992) (by decide +kernel), List.mem_of_getElem? (i := 993) (by decide +kernel)⟩
theorem lw_p45 : lw_okq (⟨"TwoScalesModel", "canHave", "(IIII)Z"⟩, 25) := ⟨⟨by decide +kernel, by decide +kernel⟩, List.mem_of_getElem? (i := 764) (by decide +kernel), List.mem_of_getElem? (i := 996) (by decide +kernel), List.mem_of_getElem? (i := 997) (by decide +kernel)⟩
theorem lw_p46 : lw_okq (⟨"TwoScalesModel", "mayBeAt", "(II)Z"⟩, 25) := ⟨⟨by decide +kernel, by decide +kernel⟩, List.mem_of_getElem? (i := 764) (by decide +kernel), List.mem_of_getElem? (i := 1016) (by decide +kernel), List.mem_of_getElem? (i := 1017) (by decide +kernel)⟩
theorem lw_p47 : lw_okq (⟨"TwoScalesModel", "worst", "(II)I"⟩, 25) := ⟨⟨by decide +kernel, by decide +kernel⟩, List.mem_of_getElem? (i := 764) (by decide +kernel), List.mem_of_getElem? (i := 1024) (by decide +kernel), List.mem_of_getElem? (i := 1025) (by decide +kernel)⟩
def lw_privs_3 : List (MethodName × Nat) := [(⟨"TwoScalesModel", "fitsOf", "(I)I"⟩, 25), (⟨"TwoScalesModel", "isFit", "(II)Z"⟩, 25), (⟨"TwoScalesModel", "fits", "(IIII)Z"⟩, 25), (⟨"TwoScalesModel", "useOf", "(I)I"⟩, 25), (⟨"TwoScalesModel", "isPerson", "(I)Z"⟩, 25), (⟨"TwoScalesModel", "thingsOf", "(I)I"⟩, 25), (⟨"TwoScalesModel", "taller", "(I)I"⟩, 25), (⟨"TwoScalesModel", "useless", "()I"⟩, 25), (⟨"TwoScalesModel", "bare", "(I)I"⟩, 25), (⟨"TwoScalesModel", "owned", "()I"⟩, 25), (⟨"TwoScalesModel", "hasOne", "(II)Z"⟩, 25), (⟨"TwoScalesModel", "notes", "()V"⟩, 25), (⟨"TwoScalesModel", "housedSet", "()I"⟩, 25), (⟨"TwoScalesModel", "canHave", "(IIII)Z"⟩, 25), (⟨"TwoScalesModel", "mayBeAt", "(II)Z"⟩, 25), (⟨"TwoScalesModel", "worst", "(II)I"⟩, 25)]
theorem lw_r3 : ∀ q ∈ lw_privs_3, lw_okq q := List.forall_mem_cons.mpr ⟨lw_p32, List.forall_mem_cons.mpr ⟨lw_p33, List.forall_mem_cons.mpr ⟨lw_p34, List.forall_mem_cons.mpr ⟨lw_p35, List.forall_mem_cons.mpr ⟨lw_p36, List.forall_mem_cons.mpr ⟨lw_p37, List.forall_mem_cons.mpr ⟨lw_p38, List.forall_mem_cons.mpr ⟨lw_p39, List.forall_mem_cons.mpr ⟨lw_p40, List.forall_mem_cons.mpr ⟨lw_p41, List.forall_mem_cons.mpr ⟨lw_p42, List.forall_mem_cons.mpr ⟨lw_p43, List.forall_mem_cons.mpr ⟨lw_p44, List.forall_mem_cons.mpr ⟨lw_p45, List.forall_mem_cons.mpr ⟨lw_p46, List.forall_mem_cons.mpr ⟨lw_p47, fun _ h => absurd h List.not_mem_nil⟩⟩⟩⟩⟩⟩⟩⟩⟩⟩⟩⟩⟩⟩⟩⟩
theorem lw_p48 : lw_okq (⟨"TwoScalesModel", "fitsAt", "(I)I"⟩, 25) := ⟨⟨by decide +kernel, by decide +kernel⟩, List.mem_of_getElem? (i := 764) (by decide +kernel), List.mem_of_getElem? (i := 1032) (by decide +kernel), List.mem_of_getElem? (i := 1033) (by decide +kernel)⟩
theorem lw_p49 : lw_okq (⟨"TwoScalesModel", "fitsHim", "(II)I"⟩, 25) := ⟨⟨by decide +kernel, by decide +kernel⟩, List.mem_of_getElem? (i := 764) (by decide +kernel), List.mem_of_getElem? (i := 1040) (by decide +kernel), List.mem_of_getElem? (i := 1041) (by decide +kernel)⟩
theorem lw_p50 : lw_okq (⟨"TwoScalesModel", "isOrder", "(I)Z"⟩, 25) := ⟨⟨by decide +kernel, by decide +kernel⟩, List.mem_of_getElem? (i := 764) (by decide +kernel), List.mem_of_getElem? (i := 1049) (by decide +kernel), List.mem_of_getElem? (i := 1050) (by decide +kernel)⟩
theorem lw_p51 : lw_okq (⟨"TwoScalesModel", "isIn", "(II)I"⟩, 25) := ⟨⟨by decide +kernel, by decide +kernel⟩, List.mem_of_getElem? (i := 764) (by decide +kernel), List.mem_of_getElem? (i := 1053) (by decide +kernel), List.mem_of_getElem? (i := 1054) (by decide +kernel)⟩
def lw_privs_4 : List (MethodName × Nat) := [(⟨"TwoScalesModel", "fitsAt", "(I)I"⟩, 25), (⟨"TwoScalesModel", "fitsHim", "(II)I"⟩, 25), (⟨"TwoScalesModel", "isOrder", "(I)Z"⟩, 25), (⟨"TwoScalesModel", "isIn", "(II)I"⟩, 25)]
theorem lw_r4 : ∀ q ∈ lw_privs_4, lw_okq q := List.forall_mem_cons.mpr ⟨lw_p48, List.forall_mem_cons.mpr ⟨lw_p49, List.forall_mem_cons.mpr ⟨lw_p50, List.forall_mem_cons.mpr ⟨lw_p51, fun _ h => absurd h List.not_mem_nil⟩⟩⟩⟩
def lw_privs : List (MethodName × Nat) := lw_privs_1 ++ (lw_privs_2 ++ (lw_privs_3 ++ (lw_privs_4)))
def lw_tbl : List Cond := k2_sels lw_privs ++ tables_1
theorem lw_privs_ok : ∀ q ∈ lw_privs, lw_okq q := by
  show ∀ q ∈ lw_privs_1 ++ (lw_privs_2 ++ (lw_privs_3 ++ (lw_privs_4))), lw_okq q
  exact List.forall_mem_append.mpr ⟨lw_r1, List.forall_mem_append.mpr ⟨lw_r2, List.forall_mem_append.mpr ⟨lw_r3, lw_r4⟩⟩⟩
end
section
/-! ===== BEGIN printed: names, fields, word lists, decode rows ===== -/
def RX0 : String := "TwoScales$Carrying"
def TX0 : u_T := fun k => match k with
  | 0 => ("TwoScales$Carrying", "soonest", "[I", true)
  | _ => ("TwoScales$Carrying", "latest", "[I", true)
def tyX0 : Nat → FieldType := fun k => match k with
  | 0 => .array .int
  | _ => .array .int
abbrev wsX00 : List Cond := u_ws RX0 TX0 2
theorem nmX0 : ∀ a, a < 2 → ∀ b, b < 2 → a ≠ b → (TX0 a).2.1 ≠ (TX0 b).2.1 := by decide +kernel
theorem tyX0_ok : ∀ k, k < 2 → parseFieldDescriptor (TX0 k).2.2.1 = some (tyX0 k) := by decide +kernel
abbrev cX0_init : ByteArray := prog_2_method_1_code
def yX0_init : MethodName := ⟨RX0, "<init>", "()V"⟩
abbrev cX0_fewestMinutes : ByteArray := prog_2_method_2_code
def yX0_fewestMinutes : MethodName := ⟨RX0, "fewestMinutes", "(LTwoScales$House;)I"⟩
abbrev cX0_inFirstOrder : ByteArray := prog_2_method_3_code
def yX0_inFirstOrder : MethodName := ⟨RX0, "inFirstOrder", "(LTwoScales$House;II)I"⟩
abbrev cX0_findLatest : ByteArray := prog_2_method_4_code
def yX0_findLatest : MethodName := ⟨RX0, "findLatest", "(LTwoScales$House;I)V"⟩
abbrev cX0_lowestInTime : ByteArray := prog_2_method_5_code
def yX0_lowestInTime : MethodName := ⟨RX0, "lowestInTime", "(LTwoScales$House;II)I"⟩
abbrev cX0_endOf : ByteArray := prog_2_method_6_code
def yX0_endOf : MethodName := ⟨RX0, "endOf", "(LTwoScales$House;II)I"⟩
abbrev cX0_latestStartOf : ByteArray := prog_2_method_7_code
def yX0_latestStartOf : MethodName := ⟨RX0, "latestStartOf", "(LTwoScales$House;II)I"⟩
abbrev cX0_goesThrough : ByteArray := prog_2_method_8_code
def yX0_goesThrough : MethodName := ⟨RX0, "goesThrough", "(LTwoScales$House;II)Z"⟩
def RX1 : String := "TwoScales$History"
def TX1 : u_T := fun k => match k with
  | 0 => ("TwoScales$History", "rows", "[LTwoScales$Now;", true)
  | 1 => ("TwoScales$History", "oldest", "I", false)
  | _ => ("TwoScales$History", "held", "I", false)
def tyX1 : Nat → FieldType := fun k => match k with
  | 0 => .array (.object "TwoScales$Now")
  | 1 => .int
  | _ => .int
abbrev wsX10 : List Cond := u_ws RX1 TX1 3
theorem nmX1 : ∀ a, a < 3 → ∀ b, b < 3 → a ≠ b → (TX1 a).2.1 ≠ (TX1 b).2.1 := by decide +kernel
theorem tyX1_ok : ∀ k, k < 3 → parseFieldDescriptor (TX1 k).2.2.1 = some (tyX1 k) := by decide +kernel
abbrev cX1_init : ByteArray := prog_3_method_1_code
def yX1_init : MethodName := ⟨RX1, "<init>", "()V"⟩
abbrev cX1_size : ByteArray := prog_3_method_2_code
def yX1_size : MethodName := ⟨RX1, "size", "()I"⟩
abbrev cX1_loseAll : ByteArray := prog_3_method_3_code
def yX1_loseAll : MethodName := ⟨RX1, "loseAll", "()V"⟩
abbrev cX1_remember : ByteArray := prog_3_method_4_code
def yX1_remember : MethodName := ⟨RX1, "remember", "(LTwoScales$Now;)V"⟩
abbrev cX1_restoreLatest : ByteArray := prog_3_method_5_code
def yX1_restoreLatest : MethodName := ⟨RX1, "restoreLatest", "(LTwoScales$Now;)V"⟩
def RX2 : String := "TwoScales$House"
def TX2 : u_T := fun k => match k with
  | 0 => ("TwoScales$House", "tale", "LTwoScales$Tale;", false)
  | _ => ("TwoScales$House", "now", "LTwoScales$Now;", true)
def tyX2 : Nat → FieldType := fun k => match k with
  | 0 => .object "TwoScales$Tale"
  | _ => .object "TwoScales$Now"
abbrev wsX20 : List Cond := u_ws RX2 TX2 2
theorem nmX2 : ∀ a, a < 2 → ∀ b, b < 2 → a ≠ b → (TX2 a).2.1 ≠ (TX2 b).2.1 := by decide +kernel
theorem tyX2_ok : ∀ k, k < 2 → parseFieldDescriptor (TX2 k).2.2.1 = some (tyX2 k) := by decide +kernel
abbrev cX2_init : ByteArray := prog_4_method_1_code
def yX2_init : MethodName := ⟨RX2, "<init>", "()V"⟩
abbrev cX2_hasThing : ByteArray := prog_4_method_2_code
def yX2_hasThing : MethodName := ⟨RX2, "hasThing", "(I)Z"⟩
abbrev cX2_hasPerson : ByteArray := prog_4_method_3_code
def yX2_hasPerson : MethodName := ⟨RX2, "hasPerson", "(I)Z"⟩
abbrev cX2_fitsPerson : ByteArray := prog_4_method_4_code
def yX2_fitsPerson : MethodName := ⟨RX2, "fitsPerson", "(II)Z"⟩
abbrev cX2_fitsStranger : ByteArray := prog_4_method_5_code
def yX2_fitsStranger : MethodName := ⟨RX2, "fitsStranger", "(III)Z"⟩
abbrev cX2_fitsAtScale : ByteArray := prog_4_method_6_code
def yX2_fitsAtScale : MethodName := ⟨RX2, "fitsAtScale", "(IIII)Z"⟩
abbrev cX2_peopleItFits : ByteArray := prog_4_method_7_code
def yX2_peopleItFits : MethodName := ⟨RX2, "peopleItFits", "(I)I"⟩
abbrev cX2_useless : ByteArray := prog_4_method_8_code
def yX2_useless : MethodName := ⟨RX2, "useless", "()I"⟩
abbrev cX2_bareOf : ByteArray := prog_4_method_9_code
def yX2_bareOf : MethodName := ⟨RX2, "bareOf", "(I)I"⟩
abbrev cX2_thingsOf : ByteArray := prog_4_method_10_code
def yX2_thingsOf : MethodName := ⟨RX2, "thingsOf", "(I)I"⟩
abbrev cX2_ownedThings : ByteArray := prog_4_method_11_code
def yX2_ownedThings : MethodName := ⟨RX2, "ownedThings", "()I"⟩
abbrev cX2_canLay : ByteArray := prog_4_method_12_code
def yX2_canLay : MethodName := ⟨RX2, "canLay", "(II)Z"⟩
abbrev cX2_hasOneOf : ByteArray := prog_4_method_13_code
def yX2_hasOneOf : MethodName := ⟨RX2, "hasOneOf", "(II)Z"⟩
abbrev cX2_freeWhatDoesNotFit : ByteArray := prog_4_method_14_code
def yX2_freeWhatDoesNotFit : MethodName := ⟨RX2, "freeWhatDoesNotFit", "()V"⟩
abbrev cX2_twosIfAllThingsWere : ByteArray := prog_4_method_15_code
def yX2_twosIfAllThingsWere : MethodName := ⟨RX2, "twosIfAllThingsWere", "(I)I"⟩
abbrev cX2_thingsFitting : ByteArray := prog_4_method_16_code
def yX2_thingsFitting : MethodName := ⟨RX2, "thingsFitting", "(II)I"⟩
abbrev cX2_smallerThan : ByteArray := prog_4_method_17_code
def yX2_smallerThan : MethodName := ⟨RX2, "smallerThan", "(I)I"⟩
abbrev cX2_chairs : ByteArray := prog_4_method_18_code
def yX2_chairs : MethodName := ⟨RX2, "chairs", "()I"⟩
abbrev cX2_commonScale : ByteArray := prog_4_method_19_code
def yX2_commonScale : MethodName := ⟨RX2, "commonScale", "()J"⟩
abbrev cX2_heightOf : ByteArray := prog_4_method_20_code
def yX2_heightOf : MethodName := ⟨RX2, "heightOf", "(IJ)J"⟩
abbrev cX2_heightOfAll : ByteArray := prog_4_method_21_code
def yX2_heightOfAll : MethodName := ⟨RX2, "heightOfAll", "(J)J"⟩
def RX3 : String := "TwoScales$Housing"
def TX3 : u_T := fun k => match k with
  | _ => ("TwoScales$Housing", "thingOf", "[I", true)
def tyX3 : Nat → FieldType := fun k => match k with
  | _ => .array .int
abbrev wsX30 : List Cond := u_ws RX3 TX3 1
theorem nmX3 : ∀ a, a < 1 → ∀ b, b < 1 → a ≠ b → (TX3 a).2.1 ≠ (TX3 b).2.1 := by decide +kernel
theorem tyX3_ok : ∀ k, k < 1 → parseFieldDescriptor (TX3 k).2.2.1 = some (tyX3 k) := by decide +kernel
abbrev cX3_init : ByteArray := prog_5_method_1_code
def yX3_init : MethodName := ⟨RX3, "<init>", "()V"⟩
abbrev cX3_mostPeople : ByteArray := prog_5_method_2_code
def yX3_mostPeople : MethodName := ⟨RX3, "mostPeople", "(LTwoScales$House;)I"⟩
abbrev cX3_firstThingOf : ByteArray := prog_5_method_3_code
def yX3_firstThingOf : MethodName := ⟨RX3, "firstThingOf", "(LTwoScales$House;II)I"⟩
abbrev cX3_canHouse : ByteArray := prog_5_method_4_code
def yX3_canHouse : MethodName := ⟨RX3, "canHouse", "(LTwoScales$House;I)Z"⟩
abbrev cX3_layFrom : ByteArray := prog_5_method_5_code
def yX3_layFrom : MethodName := ⟨RX3, "layFrom", "(LTwoScales$House;IIII[I)Z"⟩
def RX4 : String := "TwoScales$Now"
def TX4 : u_T := fun k => match k with
  | 0 => ("TwoScales$Now", "owner", "[I", true)
  | 1 => ("TwoScales$Now", "thingScale", "[I", true)
  | _ => ("TwoScales$Now", "personScale", "[I", true)
def tyX4 : Nat → FieldType := fun k => match k with
  | 0 => .array .int
  | 1 => .array .int
  | _ => .array .int
abbrev wsX40 : List Cond := u_ws RX4 TX4 3
theorem nmX4 : ∀ a, a < 3 → ∀ b, b < 3 → a ≠ b → (TX4 a).2.1 ≠ (TX4 b).2.1 := by decide +kernel
theorem tyX4_ok : ∀ k, k < 3 → parseFieldDescriptor (TX4 k).2.2.1 = some (tyX4 k) := by decide +kernel
abbrev cX4_init : ByteArray := prog_6_method_1_code
def yX4_init : MethodName := ⟨RX4, "<init>", "()V"⟩
abbrev cX4_beginAsTold : ByteArray := prog_6_method_2_code
def yX4_beginAsTold : MethodName := ⟨RX4, "beginAsTold", "(LTwoScales$Tale;)V"⟩
abbrev cX4_copyFrom : ByteArray := prog_6_method_3_code
def yX4_copyFrom : MethodName := ⟨RX4, "copyFrom", "(LTwoScales$Now;)V"⟩
def RX5 : String := "TwoScales$Tale"
def TX5 : u_T := fun k => match k with
  | 0 => ("TwoScales$Tale", "low", "[I", true)
  | 1 => ("TwoScales$Tale", "high", "[I", true)
  | 2 => ("TwoScales$Tale", "things", "I", false)
  | 3 => ("TwoScales$Tale", "thingUse", "[I", true)
  | 4 => ("TwoScales$Tale", "thingScale", "[I", true)
  | 5 => ("TwoScales$Tale", "thingSize", "[I", true)
  | 6 => ("TwoScales$Tale", "thingMinutes", "[I", true)
  | 7 => ("TwoScales$Tale", "people", "I", false)
  | 8 => ("TwoScales$Tale", "personScale", "[I", true)
  | 9 => ("TwoScales$Tale", "personSize", "[I", true)
  | 10 => ("TwoScales$Tale", "doors", "I", false)
  | 11 => ("TwoScales$Tale", "doorFrom", "[I", true)
  | 12 => ("TwoScales$Tale", "doorUntil", "[I", true)
  | 13 => ("TwoScales$Tale", "doorScale", "[I", true)
  | _ => ("TwoScales$Tale", "doorSize", "[I", true)
def tyX5 : Nat → FieldType := fun k => match k with
  | 0 => .array .int
  | 1 => .array .int
  | 2 => .int
  | 3 => .array .int
  | 4 => .array .int
  | 5 => .array .int
  | 6 => .array .int
  | 7 => .int
  | 8 => .array .int
  | 9 => .array .int
  | 10 => .int
  | 11 => .array .int
  | 12 => .array .int
  | 13 => .array .int
  | _ => .array .int
abbrev wsX50 : List Cond := u_ws RX5 TX5 15
theorem nmX5 : ∀ a, a < 15 → ∀ b, b < 15 → a ≠ b → (TX5 a).2.1 ≠ (TX5 b).2.1 := by decide +kernel
theorem tyX5_ok : ∀ k, k < 15 → parseFieldDescriptor (TX5 k).2.2.1 = some (tyX5 k) := by decide +kernel
abbrev cX5_init : ByteArray := prog_7_method_1_code
def yX5_init : MethodName := ⟨RX5, "<init>", "()V"⟩
abbrev cX5_beginAsAtFirst : ByteArray := prog_7_method_2_code
def yX5_beginAsAtFirst : MethodName := ⟨RX5, "beginAsAtFirst", "()V"⟩
def RX6 : String := "TwoScales$Text"
def TX6 : u_T := fun k => match k with
  | 0 => ("TwoScales$Text", "letters", "[C", true)
  | 1 => ("TwoScales$Text", "length", "I", false)
  | 2 => ("TwoScales$Text", "tale", "LTwoScales$Tale;", false)
  | 3 => ("TwoScales$Text", "place", "I", false)
  | 4 => ("TwoScales$Text", "token", "C", false)
  | 5 => ("TwoScales$Text", "tokenPlace", "I", false)
  | 6 => ("TwoScales$Text", "tokenValue", "I", false)
  | 7 => ("TwoScales$Text", "fault", "I", false)
  | _ => ("TwoScales$Text", "items", "I", false)
def tyX6 : Nat → FieldType := fun k => match k with
  | 0 => .array .char
  | 1 => .int
  | 2 => .object "TwoScales$Tale"
  | 3 => .int
  | 4 => .char
  | 5 => .int
  | 6 => .int
  | 7 => .int
  | _ => .int
abbrev wsX60 : List Cond := u_ws RX6 TX6 9
theorem nmX6 : ∀ a, a < 9 → ∀ b, b < 9 → a ≠ b → (TX6 a).2.1 ≠ (TX6 b).2.1 := by decide +kernel
theorem tyX6_ok : ∀ k, k < 9 → parseFieldDescriptor (TX6 k).2.2.1 = some (tyX6 k) := by decide +kernel
abbrev cX6_init : ByteArray := prog_8_method_1_code
def yX6_init : MethodName := ⟨RX6, "<init>", "()V"⟩
abbrev cX6_size : ByteArray := prog_8_method_2_code
def yX6_size : MethodName := ⟨RX6, "size", "()I"⟩
abbrev cX6_isFull : ByteArray := prog_8_method_3_code
def yX6_isFull : MethodName := ⟨RX6, "isFull", "()Z"⟩
abbrev cX6_add : ByteArray := prog_8_method_4_code
def yX6_add : MethodName := ⟨RX6, "add", "(C)V"⟩
abbrev cX6_loseAll : ByteArray := prog_8_method_5_code
def yX6_loseAll : MethodName := ⟨RX6, "loseAll", "()V"⟩
abbrev cX6_readAll : ByteArray := prog_8_method_6_code
def yX6_readAll : MethodName := ⟨RX6, "readAll", "()I"⟩
abbrev cX6_itemsRead : ByteArray := prog_8_method_7_code
def yX6_itemsRead : MethodName := ⟨RX6, "itemsRead", "()I"⟩
abbrev cX6_giveTaleFor : ByteArray := prog_8_method_8_code
def yX6_giveTaleFor : MethodName := ⟨RX6, "giveTaleFor", "(LTwoScales$Tale;)LTwoScales$Tale;"⟩
abbrev cX6_readLaw : ByteArray := prog_8_method_9_code
def yX6_readLaw : MethodName := ⟨RX6, "readLaw", "()V"⟩
abbrev cX6_readThing : ByteArray := prog_8_method_10_code
def yX6_readThing : MethodName := ⟨RX6, "readThing", "()V"⟩
abbrev cX6_readPerson : ByteArray := prog_8_method_11_code
def yX6_readPerson : MethodName := ⟨RX6, "readPerson", "()V"⟩
abbrev cX6_readDoor : ByteArray := prog_8_method_12_code
def yX6_readDoor : MethodName := ⟨RX6, "readDoor", "()V"⟩
abbrev cX6_takeNumber : ByteArray := prog_8_method_13_code
def yX6_takeNumber : MethodName := ⟨RX6, "takeNumber", "(II)I"⟩
abbrev cX6_takeEndOfItem : ByteArray := prog_8_method_14_code
def yX6_takeEndOfItem : MethodName := ⟨RX6, "takeEndOfItem", "()V"⟩
abbrev cX6_refuseToken : ByteArray := prog_8_method_15_code
def yX6_refuseToken : MethodName := ⟨RX6, "refuseToken", "()V"⟩
abbrev cX6_takeToken : ByteArray := prog_8_method_16_code
def yX6_takeToken : MethodName := ⟨RX6, "takeToken", "()V"⟩
abbrev cX6_takeDigits : ByteArray := prog_8_method_17_code
def yX6_takeDigits : MethodName := ⟨RX6, "takeDigits", "()V"⟩
abbrev cX6_isDigit : ByteArray := prog_8_method_18_code
def yX6_isDigit : MethodName := ⟨RX6, "isDigit", "(C)Z"⟩
abbrev cX6_isOwnToken : ByteArray := prog_8_method_19_code
def yX6_isOwnToken : MethodName := ⟨RX6, "isOwnToken", "(C)Z"⟩
def RX7 : String := "TwoScales$Trials"
def TX7 : u_T := fun k => match k with
  | 0 => ("TwoScales$Trials", "thingTried", "[I", true)
  | 1 => ("TwoScales$Trials", "didFit", "[Z", true)
  | _ => ("TwoScales$Trials", "held", "I", false)
def tyX7 : Nat → FieldType := fun k => match k with
  | 0 => .array .int
  | 1 => .array .boolean
  | _ => .int
abbrev wsX70 : List Cond := u_ws RX7 TX7 3
theorem nmX7 : ∀ a, a < 3 → ∀ b, b < 3 → a ≠ b → (TX7 a).2.1 ≠ (TX7 b).2.1 := by decide +kernel
theorem tyX7_ok : ∀ k, k < 3 → parseFieldDescriptor (TX7 k).2.2.1 = some (tyX7 k) := by decide +kernel
abbrev cX7_init : ByteArray := prog_9_method_1_code
def yX7_init : MethodName := ⟨RX7, "<init>", "()V"⟩
abbrev cX7_size : ByteArray := prog_9_method_2_code
def yX7_size : MethodName := ⟨RX7, "size", "()I"⟩
abbrev cX7_isFull : ByteArray := prog_9_method_3_code
def yX7_isFull : MethodName := ⟨RX7, "isFull", "()Z"⟩
abbrev cX7_loseAll : ByteArray := prog_9_method_4_code
def yX7_loseAll : MethodName := ⟨RX7, "loseAll", "()V"⟩
abbrev cX7_add : ByteArray := prog_9_method_5_code
def yX7_add : MethodName := ⟨RX7, "add", "(IZ)V"⟩
abbrev cX7_allow : ByteArray := prog_9_method_6_code
def yX7_allow : MethodName := ⟨RX7, "allow", "(LTwoScales$House;II)Z"⟩
abbrev cX7_scalesLeft : ByteArray := prog_9_method_7_code
def yX7_scalesLeft : MethodName := ⟨RX7, "scalesLeft", "(LTwoScales$House;I)I"⟩
abbrev cX7_leastScale : ByteArray := prog_9_method_8_code
def yX7_leastScale : MethodName := ⟨RX7, "leastScale", "(LTwoScales$House;I)I"⟩
abbrev cX7_leftAtWorst : ByteArray := prog_9_method_9_code
def yX7_leftAtWorst : MethodName := ⟨RX7, "leftAtWorst", "(LTwoScales$House;II)I"⟩
abbrev cX7_bestToTry : ByteArray := prog_9_method_10_code
def yX7_bestToTry : MethodName := ⟨RX7, "bestToTry", "(LTwoScales$House;I)I"⟩
def RX8 : String := "TwoScales"
def TX8 : u_T := fun k => match k with
  | 0 => ("TwoScales", "text", "LTwoScales$Text;", true)
  | 1 => ("TwoScales", "home", "LTwoScales$House;", true)
  | 2 => ("TwoScales", "history", "LTwoScales$History;", true)
  | 3 => ("TwoScales", "images", "[LTwoScales$Now;", true)
  | 4 => ("TwoScales", "imageKept", "[Z", true)
  | 5 => ("TwoScales", "trials", "LTwoScales$Trials;", true)
  | 6 => ("TwoScales", "housing", "LTwoScales$Housing;", true)
  | 7 => ("TwoScales", "carrying", "LTwoScales$Carrying;", true)
  | 8 => ("TwoScales", "fittingAt", "[I", true)
  | _ => ("TwoScales", "traced", "J", false)
def tyX8 : Nat → FieldType := fun k => match k with
  | 0 => .object "TwoScales$Text"
  | 1 => .object "TwoScales$House"
  | 2 => .object "TwoScales$History"
  | 3 => .array (.object "TwoScales$Now")
  | 4 => .array .boolean
  | 5 => .object "TwoScales$Trials"
  | 6 => .object "TwoScales$Housing"
  | 7 => .object "TwoScales$Carrying"
  | 8 => .array .int
  | _ => .long
abbrev wsX80 : List Cond := u_ws RX8 TX8 10
theorem nmX8 : ∀ a, a < 10 → ∀ b, b < 10 → a ≠ b → (TX8 a).2.1 ≠ (TX8 b).2.1 := by decide +kernel
theorem tyX8_ok : ∀ k, k < 10 → parseFieldDescriptor (TX8 k).2.2.1 = some (tyX8 k) := by decide +kernel
abbrev cX8_init : ByteArray := prog_1_method_1_code
def yX8_init : MethodName := ⟨RX8, "<init>", "()V"⟩
abbrev cX8_type : ByteArray := prog_1_method_2_code
def yX8_type : MethodName := ⟨RX8, "type", "(I)I"⟩
abbrev cX8_clear : ByteArray := prog_1_method_3_code
def yX8_clear : MethodName := ⟨RX8, "clear", "()I"⟩
abbrev cX8_house : ByteArray := prog_1_method_4_code
def yX8_house : MethodName := ⟨RX8, "house", "()I"⟩
abbrev cX8_use : ByteArray := prog_1_method_5_code
def yX8_use : MethodName := ⟨RX8, "use", "(II)I"⟩
abbrev cX8_thing : ByteArray := prog_1_method_6_code
def yX8_thing : MethodName := ⟨RX8, "thing", "(II)I"⟩
abbrev cX8_person : ByteArray := prog_1_method_7_code
def yX8_person : MethodName := ⟨RX8, "person", "(II)I"⟩
abbrev cX8_door : ByteArray := prog_1_method_8_code
def yX8_door : MethodName := ⟨RX8, "door", "(II)I"⟩
abbrev cX8_now : ByteArray := prog_1_method_9_code
def yX8_now : MethodName := ⟨RX8, "now", "(I)I"⟩
abbrev cX8_lays : ByteArray := prog_1_method_10_code
def yX8_lays : MethodName := ⟨RX8, "lays", "(II)I"⟩
abbrev cX8_takes : ByteArray := prog_1_method_11_code
def yX8_takes : MethodName := ⟨RX8, "takes", "(I)I"⟩
abbrev cX8_rescales : ByteArray := prog_1_method_12_code
def yX8_rescales : MethodName := ⟨RX8, "rescales", "(III)I"⟩
abbrev cX8_undo : ByteArray := prog_1_method_13_code
def yX8_undo : MethodName := ⟨RX8, "undo", "()I"⟩
abbrev cX8_housed : ByteArray := prog_1_method_14_code
def yX8_housed : MethodName := ⟨RX8, "housed", "(I)I"⟩
abbrev cX8_laying : ByteArray := prog_1_method_15_code
def yX8_laying : MethodName := ⟨RX8, "laying", "(II)I"⟩
abbrev cX8_tries : ByteArray := prog_1_method_16_code
def yX8_tries : MethodName := ⟨RX8, "tries", "(II)I"⟩
abbrev cX8_forget : ByteArray := prog_1_method_17_code
def yX8_forget : MethodName := ⟨RX8, "forget", "()I"⟩
abbrev cX8_mayBe : ByteArray := prog_1_method_18_code
def yX8_mayBe : MethodName := ⟨RX8, "mayBe", "(II)I"⟩
abbrev cX8_next : ByteArray := prog_1_method_19_code
def yX8_next : MethodName := ⟨RX8, "next", "(II)I"⟩
abbrev cX8_bestScale : ByteArray := prog_1_method_20_code
def yX8_bestScale : MethodName := ⟨RX8, "bestScale", "(I)I"⟩
abbrev cX8_oneMore : ByteArray := prog_1_method_21_code
def yX8_oneMore : MethodName := ⟨RX8, "oneMore", "(II)I"⟩
abbrev cX8_scaleOfMost : ByteArray := prog_1_method_22_code
def yX8_scaleOfMost : MethodName := ⟨RX8, "scaleOfMost", "()I"⟩
abbrev cX8_carried : ByteArray := prog_1_method_23_code
def yX8_carried : MethodName := ⟨RX8, "carried", "(I)I"⟩
abbrev cX8_mean : ByteArray := prog_1_method_24_code
def yX8_mean : MethodName := ⟨RX8, "mean", "(I)J"⟩
abbrev cX8_turnsOfAll : ByteArray := prog_1_method_25_code
def yX8_turnsOfAll : MethodName := ⟨RX8, "turnsOfAll", "()I"⟩
abbrev cX8_share : ByteArray := prog_1_method_26_code
def yX8_share : MethodName := ⟨RX8, "share", "(II)I"⟩
abbrev cX8_odds : ByteArray := prog_1_method_27_code
def yX8_odds : MethodName := ⟨RX8, "odds", "(III)I"⟩
abbrev cX8_rate : ByteArray := prog_1_method_28_code
def yX8_rate : MethodName := ⟨RX8, "rate", "(II)I"⟩
abbrev cX8_keep : ByteArray := prog_1_method_29_code
def yX8_keep : MethodName := ⟨RX8, "keep", "(I)I"⟩
abbrev cX8_back : ByteArray := prog_1_method_30_code
def yX8_back : MethodName := ⟨RX8, "back", "(I)I"⟩
abbrev cX8_count : ByteArray := prog_1_method_31_code
def yX8_count : MethodName := ⟨RX8, "count", "(I)I"⟩
abbrev cX8_trace : ByteArray := prog_1_method_32_code
def yX8_trace : MethodName := ⟨RX8, "trace", "()J"⟩
abbrev cX8_rateOfThing : ByteArray := prog_1_method_33_code
def yX8_rateOfThing : MethodName := ⟨RX8, "rateOfThing", "(I)I"⟩
abbrev cX8_rateOfTurned : ByteArray := prog_1_method_34_code
def yX8_rateOfTurned : MethodName := ⟨RX8, "rateOfTurned", "(I)I"⟩
abbrev cX8_rateOfGlued : ByteArray := prog_1_method_35_code
def yX8_rateOfGlued : MethodName := ⟨RX8, "rateOfGlued", "(I)I"⟩
abbrev cX8_rateOfCarved : ByteArray := prog_1_method_36_code
def yX8_rateOfCarved : MethodName := ⟨RX8, "rateOfCarved", "(I)I"⟩
abbrev cX8_rateOfSoup : ByteArray := prog_1_method_37_code
def yX8_rateOfSoup : MethodName := ⟨RX8, "rateOfSoup", "(I)I"⟩
abbrev cX8_rateOfReal : ByteArray := prog_1_method_38_code
def yX8_rateOfReal : MethodName := ⟨RX8, "rateOfReal", "(I)I"⟩
abbrev cX8_isFirstOrSecond : ByteArray := prog_1_method_39_code
def yX8_isFirstOrSecond : MethodName := ⟨RX8, "isFirstOrSecond", "(I)Z"⟩
abbrev cX8_isUse : ByteArray := prog_1_method_40_code
def yX8_isUse : MethodName := ⟨RX8, "isUse", "(I)Z"⟩
abbrev cX8_isSize : ByteArray := prog_1_method_41_code
def yX8_isSize : MethodName := ⟨RX8, "isSize", "(I)Z"⟩
abbrev cX8_inLowestTerms : ByteArray := prog_1_method_42_code
def yX8_inLowestTerms : MethodName := ⟨RX8, "inLowestTerms", "(JJI)J"⟩
abbrev cX8_greatestDivisor : ByteArray := prog_1_method_43_code
def yX8_greatestDivisor : MethodName := ⟨RX8, "greatestDivisor", "(JJ)J"⟩
abbrev cX8_waysToChoose : ByteArray := prog_1_method_44_code
def yX8_waysToChoose : MethodName := ⟨RX8, "waysToChoose", "(II)J"⟩
abbrev cX8_power : ByteArray := prog_1_method_45_code
def yX8_power : MethodName := ⟨RX8, "power", "(II)J"⟩
def RX9 : String := "TwoScalesModel"
def TX9 : u_T := fun k => match k with
  | 0 => ("TwoScalesModel", "thrown", "I", false)
  | 1 => ("TwoScalesModel", "trace", "J", false)
  | 2 => ("TwoScalesModel", "text", "[I", true)
  | 3 => ("TwoScalesModel", "typed", "I", false)
  | 4 => ("TwoScalesModel", "next", "I", false)
  | 5 => ("TwoScalesModel", "token", "I", false)
  | 6 => ("TwoScalesModel", "place", "I", false)
  | 7 => ("TwoScalesModel", "value", "I", false)
  | 8 => ("TwoScalesModel", "fault", "I", false)
  | 9 => ("TwoScalesModel", "many", "[I", true)
  | 10 => ("TwoScalesModel", "thing", "[I", true)
  | 11 => ("TwoScalesModel", "person", "[I", true)
  | 12 => ("TwoScalesModel", "door", "[I", true)
  | 13 => ("TwoScalesModel", "use", "[I", true)
  | 14 => ("TwoScalesModel", "s", "[I", true)
  | 15 => ("TwoScalesModel", "kept", "[I", true)
  | 16 => ("TwoScalesModel", "isKept", "[Z", true)
  | 17 => ("TwoScalesModel", "undos", "[I", true)
  | 18 => ("TwoScalesModel", "undoMany", "I", false)
  | 19 => ("TwoScalesModel", "triedThing", "[I", true)
  | 20 => ("TwoScalesModel", "triedIs", "[I", true)
  | 21 => ("TwoScalesModel", "triedMany", "I", false)
  | 22 => ("TwoScalesModel", "laid", "[I", true)
  | 23 => ("TwoScalesModel", "row", "[I", true)
  | _ => ("TwoScalesModel", "best", "[I", true)
def tyX9 : Nat → FieldType := fun k => match k with
  | 0 => .int
  | 1 => .long
  | 2 => .array .int
  | 3 => .int
  | 4 => .int
  | 5 => .int
  | 6 => .int
  | 7 => .int
  | 8 => .int
  | 9 => .array .int
  | 10 => .array .int
  | 11 => .array .int
  | 12 => .array .int
  | 13 => .array .int
  | 14 => .array .int
  | 15 => .array .int
  | 16 => .array .boolean
  | 17 => .array .int
  | 18 => .int
  | 19 => .array .int
  | 20 => .array .int
  | 21 => .int
  | 22 => .array .int
  | 23 => .array .int
  | _ => .array .int
abbrev wsX90 : List Cond := u_ws RX9 TX9 25
theorem nmX9 : ∀ a, a < 25 → ∀ b, b < 25 → a ≠ b → (TX9 a).2.1 ≠ (TX9 b).2.1 := by decide +kernel
theorem tyX9_ok : ∀ k, k < 25 → parseFieldDescriptor (TX9 k).2.2.1 = some (tyX9 k) := by decide +kernel
abbrev cX9_init : ByteArray := prog_11_method_1_code
def yX9_init : MethodName := ⟨RX9, "<init>", "()V"⟩
abbrev cX9_firstLaws : ByteArray := prog_11_method_2_code
def yX9_firstLaws : MethodName := ⟨RX9, "firstLaws", "(I)V"⟩
abbrev cX9_in : ByteArray := prog_11_method_4_code
def yX9_in : MethodName := ⟨RX9, "in", "(III)Z"⟩
abbrev cX9_ones : ByteArray := prog_11_method_5_code
def yX9_ones : MethodName := ⟨RX9, "ones", "(I)I"⟩
abbrev cX9_type : ByteArray := prog_11_method_6_code
def yX9_type : MethodName := ⟨RX9, "type", "(I)I"⟩
abbrev cX9_clear : ByteArray := prog_11_method_7_code
def yX9_clear : MethodName := ⟨RX9, "clear", "()I"⟩
abbrev cX9_letterAt : ByteArray := prog_11_method_8_code
def yX9_letterAt : MethodName := ⟨RX9, "letterAt", "(I)I"⟩
abbrev cX9_advances : ByteArray := prog_11_method_9_code
def yX9_advances : MethodName := ⟨RX9, "advances", "()V"⟩
abbrev cX9_isWell : ByteArray := prog_11_method_10_code
def yX9_isWell : MethodName := ⟨RX9, "isWell", "()Z"⟩
abbrev cX9_takes : ByteArray := prog_11_method_11_code
def yX9_takes : MethodName := ⟨RX9, "takes", "(Z)I"⟩
abbrev cX9_number : ByteArray := prog_11_method_12_code
def yX9_number : MethodName := ⟨RX9, "number", "(II)I"⟩
abbrev cX9_mayBegin : ByteArray := prog_11_method_13_code
def yX9_mayBegin : MethodName := ⟨RX9, "mayBegin", "()Z"⟩
abbrev cX9_readsItem : ByteArray := prog_11_method_14_code
def yX9_readsItem : MethodName := ⟨RX9, "readsItem", "(I)V"⟩
abbrev cX9_house : ByteArray := prog_11_method_15_code
def yX9_house : MethodName := ⟨RX9, "house", "()I"⟩
abbrev cX9_settles : ByteArray := prog_11_method_16_code
def yX9_settles : MethodName := ⟨RX9, "settles", "()V"⟩
abbrev cX9_isThingThere : ByteArray := prog_11_method_17_code
def yX9_isThingThere : MethodName := ⟨RX9, "isThingThere", "(I)Z"⟩
abbrev cX9_isPerson : ByteArray := prog_11_method_18_code
def yX9_isPerson : MethodName := ⟨RX9, "isPerson", "(I)Z"⟩
abbrev cX9_useOf : ByteArray := prog_11_method_19_code
def yX9_useOf : MethodName := ⟨RX9, "useOf", "(I)I"⟩
abbrev cX9_fits : ByteArray := prog_11_method_20_code
def yX9_fits : MethodName := ⟨RX9, "fits", "(IIII)Z"⟩
abbrev cX9_isFit : ByteArray := prog_11_method_21_code
def yX9_isFit : MethodName := ⟨RX9, "isFit", "(II)Z"⟩
abbrev cX9_fitsOf : ByteArray := prog_11_method_22_code
def yX9_fitsOf : MethodName := ⟨RX9, "fitsOf", "(I)I"⟩
abbrev cX9_use : ByteArray := prog_11_method_23_code
def yX9_use : MethodName := ⟨RX9, "use", "(II)I"⟩
abbrev cX9_thing : ByteArray := prog_11_method_24_code
def yX9_thing : MethodName := ⟨RX9, "thing", "(II)I"⟩
abbrev cX9_thingsOf : ByteArray := prog_11_method_25_code
def yX9_thingsOf : MethodName := ⟨RX9, "thingsOf", "(I)I"⟩
abbrev cX9_taller : ByteArray := prog_11_method_26_code
def yX9_taller : MethodName := ⟨RX9, "taller", "(I)I"⟩
abbrev cX9_person : ByteArray := prog_11_method_27_code
def yX9_person : MethodName := ⟨RX9, "person", "(II)I"⟩
abbrev cX9_door : ByteArray := prog_11_method_28_code
def yX9_door : MethodName := ⟨RX9, "door", "(II)I"⟩
abbrev cX9_useless : ByteArray := prog_11_method_29_code
def yX9_useless : MethodName := ⟨RX9, "useless", "()I"⟩
abbrev cX9_bare : ByteArray := prog_11_method_30_code
def yX9_bare : MethodName := ⟨RX9, "bare", "(I)I"⟩
abbrev cX9_owned : ByteArray := prog_11_method_31_code
def yX9_owned : MethodName := ⟨RX9, "owned", "()I"⟩
abbrev cX9_now : ByteArray := prog_11_method_32_code
def yX9_now : MethodName := ⟨RX9, "now", "(I)I"⟩
abbrev cX9_notes : ByteArray := prog_11_method_33_code
def yX9_notes : MethodName := ⟨RX9, "notes", "()V"⟩
abbrev cX9_hasOne : ByteArray := prog_11_method_34_code
def yX9_hasOne : MethodName := ⟨RX9, "hasOne", "(II)Z"⟩
abbrev cX9_lays : ByteArray := prog_11_method_35_code
def yX9_lays : MethodName := ⟨RX9, "lays", "(II)I"⟩
abbrev cX9_takes_ : ByteArray := prog_11_method_36_code
def yX9_takes_ : MethodName := ⟨RX9, "takes", "(I)I"⟩
abbrev cX9_rescales : ByteArray := prog_11_method_37_code
def yX9_rescales : MethodName := ⟨RX9, "rescales", "(III)I"⟩
abbrev cX9_undo : ByteArray := prog_11_method_38_code
def yX9_undo : MethodName := ⟨RX9, "undo", "()I"⟩
abbrev cX9_canHave : ByteArray := prog_11_method_39_code
def yX9_canHave : MethodName := ⟨RX9, "canHave", "(IIII)Z"⟩
abbrev cX9_housedSet : ByteArray := prog_11_method_40_code
def yX9_housedSet : MethodName := ⟨RX9, "housedSet", "()I"⟩
abbrev cX9_housed : ByteArray := prog_11_method_41_code
def yX9_housed : MethodName := ⟨RX9, "housed", "(I)I"⟩
abbrev cX9_laying : ByteArray := prog_11_method_42_code
def yX9_laying : MethodName := ⟨RX9, "laying", "(II)I"⟩
abbrev cX9_tries : ByteArray := prog_11_method_43_code
def yX9_tries : MethodName := ⟨RX9, "tries", "(II)I"⟩
abbrev cX9_forget : ByteArray := prog_11_method_44_code
def yX9_forget : MethodName := ⟨RX9, "forget", "()I"⟩
abbrev cX9_mayBeAt : ByteArray := prog_11_method_45_code
def yX9_mayBeAt : MethodName := ⟨RX9, "mayBeAt", "(II)Z"⟩
abbrev cX9_mayBe : ByteArray := prog_11_method_46_code
def yX9_mayBe : MethodName := ⟨RX9, "mayBe", "(II)I"⟩
abbrev cX9_worst : ByteArray := prog_11_method_47_code
def yX9_worst : MethodName := ⟨RX9, "worst", "(II)I"⟩
abbrev cX9_next : ByteArray := prog_11_method_48_code
def yX9_next : MethodName := ⟨RX9, "next", "(II)I"⟩
abbrev cX9_fitsAt : ByteArray := prog_11_method_49_code
def yX9_fitsAt : MethodName := ⟨RX9, "fitsAt", "(I)I"⟩
abbrev cX9_bestScale : ByteArray := prog_11_method_50_code
def yX9_bestScale : MethodName := ⟨RX9, "bestScale", "(I)I"⟩
abbrev cX9_fitsHim : ByteArray := prog_11_method_51_code
def yX9_fitsHim : MethodName := ⟨RX9, "fitsHim", "(II)I"⟩
abbrev cX9_oneMore : ByteArray := prog_11_method_52_code
def yX9_oneMore : MethodName := ⟨RX9, "oneMore", "(II)I"⟩
abbrev cX9_isIn : ByteArray := prog_11_method_53_code
def yX9_isIn : MethodName := ⟨RX9, "isIn", "(II)I"⟩
abbrev cX9_isOrder : ByteArray := prog_11_method_54_code
def yX9_isOrder : MethodName := ⟨RX9, "isOrder", "(I)Z"⟩
abbrev cX9_carried : ByteArray := prog_11_method_55_code
def yX9_carried : MethodName := ⟨RX9, "carried", "(I)I"⟩
abbrev cX9_gcd : ByteArray := prog_11_method_56_code
def yX9_gcd : MethodName := ⟨RX9, "gcd", "(JJ)J"⟩
abbrev cX9_mean : ByteArray := prog_11_method_57_code
def yX9_mean : MethodName := ⟨RX9, "mean", "(I)J"⟩
abbrev cX9_turnsOfAll : ByteArray := prog_11_method_58_code
def yX9_turnsOfAll : MethodName := ⟨RX9, "turnsOfAll", "()I"⟩
abbrev cX9_share : ByteArray := prog_11_method_59_code
def yX9_share : MethodName := ⟨RX9, "share", "(II)I"⟩
abbrev cX9_power : ByteArray := prog_11_method_60_code
def yX9_power : MethodName := ⟨RX9, "power", "(II)I"⟩
abbrev cX9_choose : ByteArray := prog_11_method_61_code
def yX9_choose : MethodName := ⟨RX9, "choose", "(II)I"⟩
abbrev cX9_odds : ByteArray := prog_11_method_62_code
def yX9_odds : MethodName := ⟨RX9, "odds", "(III)I"⟩
abbrev cX9_rate : ByteArray := prog_11_method_63_code
def yX9_rate : MethodName := ⟨RX9, "rate", "(II)I"⟩
abbrev cX9_keep : ByteArray := prog_11_method_64_code
def yX9_keep : MethodName := ⟨RX9, "keep", "(I)I"⟩
abbrev cX9_back : ByteArray := prog_11_method_65_code
def yX9_back : MethodName := ⟨RX9, "back", "(I)I"⟩
abbrev cX9_count : ByteArray := prog_11_method_66_code
def yX9_count : MethodName := ⟨RX9, "count", "(I)I"⟩
abbrev cX9_trace : ByteArray := prog_11_method_67_code
def yX9_trace : MethodName := ⟨RX9, "trace", "()J"⟩
def RJ6 : String := "java/lang/Integer"
def TJ6 : u_T := fun k => match k with
  | _ => ("", "", "", false)
def tyJ6 : Nat → FieldType := fun k => match k with
  | _ => .int
abbrev wsJ60 : List Cond := u_ws RJ6 TJ6 0
abbrev cJ6_bitCount_0f7a4 : ByteArray := prog_12_method_49_code
def yJ6_bitCount_0f7a4 : MethodName := ⟨RJ6, "bitCount", "(I)I"⟩
def RJ9 : String := "java/lang/Math"
def TJ9 : u_T := fun k => match k with
  | _ => ("", "", "", false)
def tyJ9 : Nat → FieldType := fun k => match k with
  | _ => .int
abbrev wsJ90 : List Cond := u_ws RJ9 TJ9 0
abbrev cJ9_max_7cf53 : ByteArray := prog_13_method_65_code
def yJ9_max_7cf53 : MethodName := ⟨RJ9, "max", "(II)I"⟩
abbrev cJ9_min_7cf53 : ByteArray := prog_13_method_69_code
def yJ9_min_7cf53 : MethodName := ⟨RJ9, "min", "(II)I"⟩
def RJ10 : String := "java/lang/System"
def TJ10 : u_T := fun k => match k with
  | _ => ("", "", "", false)
def tyJ10 : Nat → FieldType := fun k => match k with
  | _ => .int
abbrev wsJ100 : List Cond := u_ws RJ10 TJ10 0
def RJ7 : String := "java/util/Arrays"
def TJ7 : u_T := fun k => match k with
  | _ => ("", "", "", false)
def tyJ7 : Nat → FieldType := fun k => match k with
  | _ => .int
abbrev wsJ70 : List Cond := u_ws RJ7 TJ7 0
abbrev cJ7_fill_53178 : ByteArray := prog_15_method_103_code
def yJ7_fill_53178 : MethodName := ⟨RJ7, "fill", "([II)V"⟩
def AL : List Cond := lw_tbl.filter goodWord
theorem AL_of {w : Cond} (h : w ∈ lw_tbl) (g : goodWord w = true) : w ∈ AL := List.mem_filter.mpr ⟨h, g⟩
theorem AL_by (ws : List Cond) (ps : List Nat) (h : ws = ps.filterMap (fun i => lw_tbl[i]?)) (g : ws.all goodWord = true) : ∀ w ∈ ws, w ∈ AL := fun w hw => by
  have h1 := List.all_eq_true.mp g w hw
  rw [h] at hw
  obtain ⟨i, -, hi⟩ := List.mem_filterMap.mp hw
  exact AL_of (List.mem_of_getElem? hi) h1
theorem AL_good : GoodIn lw_tbl AL := fun w hw => ⟨(List.mem_filter.mp hw).1, good_of_word (List.mem_filter.mp hw).2⟩
theorem AL_self : GoodIn AL AL := fun w hw => ⟨hw, good_of_word (List.mem_filter.mp hw).2⟩
theorem inAX0 : ∀ w ∈ u_ws RX0 TX0 2, w ∈ AL := AL_by _ [319, 321] (by decide +kernel) (by decide +kernel)
theorem inAX1 : ∀ w ∈ u_ws RX1 TX1 3, w ∈ AL := AL_by _ [276, 278, 280] (by decide +kernel) (by decide +kernel)
theorem inAX2 : ∀ w ∈ u_ws RX2 TX2 2, w ∈ AL := AL_by _ [259, 261] (by decide +kernel) (by decide +kernel)
theorem inAX3 : ∀ w ∈ u_ws RX3 TX3 1, w ∈ AL := AL_by _ [308] (by decide +kernel) (by decide +kernel)
theorem inAX4 : ∀ w ∈ u_ws RX4 TX4 3, w ∈ AL := AL_by _ [244, 246, 248] (by decide +kernel) (by decide +kernel)
theorem inAX5 : ∀ w ∈ u_ws RX5 TX5 15, w ∈ AL := AL_by _ [159, 161, 163, 165, 167, 169, 171, 173, 175, 177, 179, 181, 183, 185, 187] (by decide +kernel) (by decide +kernel)
theorem inAX6 : ∀ w ∈ u_ws RX6 TX6 9, w ∈ AL := AL_by _ [201, 203, 205, 207, 209, 211, 213, 215, 217] (by decide +kernel) (by decide +kernel)
theorem inAX7 : ∀ w ∈ u_ws RX7 TX7 3, w ∈ AL := AL_by _ [293, 295, 297] (by decide +kernel) (by decide +kernel)
theorem inAX8 : ∀ w ∈ u_ws RX8 TX8 10, w ∈ AL := AL_by _ [335, 337, 339, 341, 343, 345, 347, 349, 351, 353] (by decide +kernel) (by decide +kernel)
theorem inAX9 : ∀ w ∈ u_ws RX9 TX9 25, w ∈ AL := AL_by _ [850, 852, 854, 856, 858, 860, 862, 864, 866, 868, 870, 872, 874, 876, 878, 880, 882, 884, 886, 888, 890, 892, 894, 896, 898] (by decide +kernel) (by decide +kernel)
abbrev vwCl : List vw_C := [(RX0, TX0, 2), (RX1, TX1, 3), (RX2, TX2, 2), (RX3, TX3, 1), (RX4, TX4, 3), (RX5, TX5, 15), (RX6, TX6, 9), (RX7, TX7, 3), (RX8, TX8, 10), (RX9, TX9, 25)]
end
section
abbrev Row : Type := Nat × Instr × Nat × Nat × Int32 × Int64 × List (Int32 × Nat) × List Nat
def p_X0_init : List Row := [(0, .aload_n 0, 0, 0, 0, 0, [], []),
  (1, .invokespecial 3, 901, 0, 0, 0, [], [316, 73, 74]),
  (4, .aload_n 0, 0, 0, 0, 0, [], []),
  (5, .bipush 64, 0, 0, 64, 0, [], []),
  (7, .newarray .int, 0, 0, 0, 0, [], [191]),
  (9, .putfield 11, 0, 0, 0, 0, [], [317]),
  (12, .aload_n 0, 0, 0, 0, 0, [], []),
  (13, .bipush 64, 0, 0, 64, 0, [], []),
  (15, .newarray .int, 0, 0, 0, 0, [], [191]),
  (17, .putfield 15, 0, 1, 0, 0, [], [318]),
  (20, .return_, 0, 0, 0, 0, [], [])]
def p_X0_fewestMinutes : List Row := [(0, .iconst 1, 0, 0, 1, 0, [], []),
  (1, .aload_n 1, 1, 0, 0, 0, [], []),
  (2, .getfield 18, 2, 0, 0, 0, [], [252]),
  (5, .getfield 24, 5, 2, 0, 0, [], [103]),
  (8, .ishl, 0, 0, 0, 0, [], []),
  (9, .iconst 1, 0, 0, 1, 0, [], []),
  (10, .isub, 0, 0, 0, 0, [], []),
  (11, .istore_n 2, 2, 0, 0, 0, [], []),
  (12, .aload_n 0, 0, 0, 0, 0, [], []),
  (13, .getfield 11, 0, 0, 0, 0, [], [317]),
  (16, .iconst 0, 0, 0, 0, 0, [], []),
  (17, .iconst 0, 0, 0, 0, 0, [], []),
  (18, .iastore, 0, 0, 0, 0, [], []),
  (19, .iconst 1, 0, 0, 1, 0, [], []),
  (20, .istore_n 3, 3, 0, 0, 0, [], []),
  (21, .iload_n 3, 3, 0, 0, 0, [], []),
  (22, .iload_n 2, 2, 0, 0, 0, [], []),
  (23, .if_icmp .gt 85, 63, 0, 0, 0, [], []),
  (26, .aload_n 0, 0, 0, 0, 0, [], []),
  (27, .getfield 11, 0, 0, 0, 0, [], [317]),
  (30, .iload_n 3, 3, 0, 0, 0, [], []),
  (31, .sipush 1000, 0, 0, 1000, 0, [], []),
  (34, .iastore, 0, 0, 0, 0, [], []),
  (35, .iconst 0, 0, 0, 0, 0, [], []),
  (36, .istore 4, 4, 0, 0, 0, [], []),
  (38, .iload 4, 4, 0, 0, 0, [], []),
  (40, .aload_n 1, 1, 0, 0, 0, [], []),
  (41, .getfield 18, 2, 0, 0, 0, [], [252]),
  (44, .getfield 24, 5, 2, 0, 0, [], [103]),
  (47, .if_icmp .ge 55, 61, 0, 0, 0, [], []),
  (50, .iload_n 3, 3, 0, 0, 0, [], []),
  (51, .iload 4, 4, 0, 0, 0, [], []),
  (53, .ishr, 0, 0, 0, 0, [], []),
  (54, .iconst 1, 0, 0, 1, 0, [], []),
  (55, .iand, 0, 0, 0, 0, [], []),
  (56, .iconst 1, 0, 0, 1, 0, [], []),
  (57, .if_icmp .ne 39, 59, 0, 0, 0, [], []),
  (60, .aload_n 1, 1, 0, 0, 0, [], []),
  (61, .iload 4, 4, 0, 0, 0, [], []),
  (63, .aload_n 0, 0, 0, 0, 0, [], []),
  (64, .getfield 11, 0, 0, 0, 0, [], [317]),
  (67, .iload_n 3, 3, 0, 0, 0, [], []),
  (68, .iconst 1, 0, 0, 1, 0, [], []),
  (69, .iload 4, 4, 0, 0, 0, [], []),
  (71, .ishl, 0, 0, 0, 0, [], []),
  (72, .ixor, 0, 0, 0, 0, [], []),
  (73, .iaload, 0, 0, 0, 0, [], []),
  (74, .invokestatic 30, 5, 3, 0, 0, [], [693, 694, 61, 695]),
  (77, .istore 5, 5, 0, 0, 0, [], []),
  (79, .aload_n 0, 0, 0, 0, 0, [], []),
  (80, .getfield 11, 0, 0, 0, 0, [], [317]),
  (83, .iload_n 3, 3, 0, 0, 0, [], []),
  (84, .aload_n 0, 0, 0, 0, 0, [], []),
  (85, .getfield 11, 0, 0, 0, 0, [], [317]),
  (88, .iload_n 3, 3, 0, 0, 0, [], []),
  (89, .iaload, 0, 0, 0, 0, [], []),
  (90, .iload 5, 5, 0, 0, 0, [], []),
  (92, .invokestatic 34, 186, 2, 0, 0, [], [700, 402, 63, 403]),
  (95, .iastore, 0, 0, 0, 0, [], []),
  (96, .iinc 4 1, 4, 0, 1, 0, [], []),
  (99, .goto (-61), 25, 0, 0, 0, [], []),
  (102, .iinc 3 1, 3, 0, 1, 0, [], []),
  (105, .goto (-84), 15, 0, 0, 0, [], []),
  (108, .aload_n 0, 0, 0, 0, 0, [], []),
  (109, .getfield 11, 0, 0, 0, 0, [], [317]),
  (112, .iload_n 2, 2, 0, 0, 0, [], []),
  (113, .iaload, 0, 0, 0, 0, [], []),
  (114, .sipush 1000, 0, 0, 1000, 0, [], []),
  (117, .if_icmp .ne 8, 71, 0, 0, 0, [], []),
  (120, .bipush (-9), 0, 0, (-9), 0, [], []),
  (122, .goto 9, 75, 0, 0, 0, [], []),
  (125, .aload_n 0, 0, 0, 0, 0, [], []),
  (126, .getfield 11, 0, 0, 0, 0, [], [317]),
  (129, .iload_n 2, 2, 0, 0, 0, [], []),
  (130, .iaload, 0, 0, 0, 0, [], []),
  (131, .ireturn, 0, 0, 0, 0, [], [])]
def p_X0_inFirstOrder : List Row := [(0, .aload_n 0, 0, 0, 0, 0, [], []),
  (1, .aload_n 1, 1, 0, 0, 0, [], []),
  (2, .iload_n 2, 2, 0, 0, 0, [], []),
  (3, .invokevirtual 40, 3, 2, 0, 0, [], [705, 707, 14, 61, 708]),
  (6, .iconst 1, 0, 0, 1, 0, [], []),
  (7, .aload_n 1, 1, 0, 0, 0, [], []),
  (8, .getfield 18, 2, 0, 0, 0, [], [252]),
  (11, .getfield 24, 5, 2, 0, 0, [], [103]),
  (14, .ishl, 0, 0, 0, 0, [], []),
  (15, .iconst 1, 0, 0, 1, 0, [], []),
  (16, .isub, 0, 0, 0, 0, [], []),
  (17, .istore 4, 4, 0, 0, 0, [], []),
  (19, .iconst 0, 0, 0, 0, 0, [], []),
  (20, .istore 5, 5, 0, 0, 0, [], []),
  (22, .bipush (-9), 0, 0, (-9), 0, [], []),
  (24, .istore 6, 6, 0, 0, 0, [], []),
  (26, .iconst 0, 0, 0, 0, 0, [], []),
  (27, .istore 7, 7, 0, 0, 0, [], []),
  (29, .iload 7, 7, 0, 0, 0, [], []),
  (31, .iload_n 3, 3, 0, 0, 0, [], []),
  (32, .if_icmp .gt 54, 47, 0, 0, 0, [], []),
  (35, .iload 4, 4, 0, 0, 0, [], []),
  (37, .ifCond .eq 49, 47, 0, 0, 0, [], []),
  (40, .aload_n 0, 0, 0, 0, 0, [], []),
  (41, .aload_n 1, 1, 0, 0, 0, [], []),
  (42, .iload 4, 4, 0, 0, 0, [], []),
  (44, .iload 5, 5, 0, 0, 0, [], []),
  (46, .invokevirtual 44, 4, 3, 0, 0, [], [712, 714, 15, 61, 715]),
  (49, .istore 6, 6, 0, 0, 0, [], []),
  (51, .iload 6, 6, 0, 0, 0, [], []),
  (53, .bipush (-9), 0, 0, (-9), 0, [], []),
  (55, .if_icmp .ne 6, 34, 0, 0, 0, [], []),
  (58, .bipush (-9), 0, 0, (-9), 0, [], []),
  (60, .ireturn, 0, 0, 0, 0, [], []),
  (61, .aload_n 1, 1, 0, 0, 0, [], []),
  (62, .iload 6, 6, 0, 0, 0, [], []),
  (64, .iload 5, 5, 0, 0, 0, [], []),
  (66, .invokestatic 30, 5, 3, 0, 0, [], [693, 694, 61, 695]),
  (69, .istore 5, 5, 0, 0, 0, [], []),
  (71, .iload 4, 4, 0, 0, 0, [], []),
  (73, .iconst 1, 0, 0, 1, 0, [], []),
  (74, .iload 6, 6, 0, 0, 0, [], []),
  (76, .ishl, 0, 0, 0, 0, [], []),
  (77, .ixor, 0, 0, 0, 0, [], []),
  (78, .istore 4, 4, 0, 0, 0, [], []),
  (80, .iinc 7 1, 7, 0, 1, 0, [], []),
  (83, .goto (-54), 18, 0, 0, 0, [], []),
  (86, .iload 6, 6, 0, 0, 0, [], []),
  (88, .ireturn, 0, 0, 0, 0, [], [])]
def p_X0_findLatest : List Row := [(0, .aload_n 0, 0, 0, 0, 0, [], []),
  (1, .getfield 15, 0, 1, 0, 0, [], [318]),
  (4, .iconst 0, 0, 0, 0, 0, [], []),
  (5, .iload_n 2, 2, 0, 0, 0, [], []),
  (6, .iastore, 0, 0, 0, 0, [], []),
  (7, .iconst 1, 0, 0, 1, 0, [], []),
  (8, .istore_n 3, 3, 0, 0, 0, [], []),
  (9, .iload_n 3, 3, 0, 0, 0, [], []),
  (10, .iconst 1, 0, 0, 1, 0, [], []),
  (11, .aload_n 1, 1, 0, 0, 0, [], []),
  (12, .getfield 18, 2, 0, 0, 0, [], [252]),
  (15, .getfield 24, 5, 2, 0, 0, [], [103]),
  (18, .ishl, 0, 0, 0, 0, [], []),
  (19, .if_icmp .ge 83, 59, 0, 0, 0, [], []),
  (22, .aload_n 0, 0, 0, 0, 0, [], []),
  (23, .getfield 15, 0, 1, 0, 0, [], [318]),
  (26, .iload_n 3, 3, 0, 0, 0, [], []),
  (27, .iconst (-1), 0, 0, (-1), 0, [], []),
  (28, .iastore, 0, 0, 0, 0, [], []),
  (29, .iconst 0, 0, 0, 0, 0, [], []),
  (30, .istore 4, 4, 0, 0, 0, [], []),
  (32, .iload 4, 4, 0, 0, 0, [], []),
  (34, .aload_n 1, 1, 0, 0, 0, [], []),
  (35, .getfield 18, 2, 0, 0, 0, [], [252]),
  (38, .getfield 24, 5, 2, 0, 0, [], [103]),
  (41, .if_icmp .ge 55, 57, 0, 0, 0, [], []),
  (44, .iload_n 3, 3, 0, 0, 0, [], []),
  (45, .iload 4, 4, 0, 0, 0, [], []),
  (47, .ishr, 0, 0, 0, 0, [], []),
  (48, .iconst 1, 0, 0, 1, 0, [], []),
  (49, .iand, 0, 0, 0, 0, [], []),
  (50, .iconst 1, 0, 0, 1, 0, [], []),
  (51, .if_icmp .ne 39, 55, 0, 0, 0, [], []),
  (54, .aload_n 1, 1, 0, 0, 0, [], []),
  (55, .iload 4, 4, 0, 0, 0, [], []),
  (57, .aload_n 0, 0, 0, 0, 0, [], []),
  (58, .getfield 15, 0, 1, 0, 0, [], [318]),
  (61, .iload_n 3, 3, 0, 0, 0, [], []),
  (62, .iconst 1, 0, 0, 1, 0, [], []),
  (63, .iload 4, 4, 0, 0, 0, [], []),
  (65, .ishl, 0, 0, 0, 0, [], []),
  (66, .ixor, 0, 0, 0, 0, [], []),
  (67, .iaload, 0, 0, 0, 0, [], []),
  (68, .invokestatic 47, 6, 3, 0, 0, [], [709, 710, 61, 711]),
  (71, .istore 5, 5, 0, 0, 0, [], []),
  (73, .aload_n 0, 0, 0, 0, 0, [], []),
  (74, .getfield 15, 0, 1, 0, 0, [], [318]),
  (77, .iload_n 3, 3, 0, 0, 0, [], []),
  (78, .aload_n 0, 0, 0, 0, 0, [], []),
  (79, .getfield 15, 0, 1, 0, 0, [], [318]),
  (82, .iload_n 3, 3, 0, 0, 0, [], []),
  (83, .iaload, 0, 0, 0, 0, [], []),
  (84, .iload 5, 5, 0, 0, 0, [], []),
  (86, .invokestatic 50, 185, 2, 0, 0, [], [696, 661, 63, 662]),
  (89, .iastore, 0, 0, 0, 0, [], []),
  (90, .iinc 4 1, 4, 0, 1, 0, [], []),
  (93, .goto (-61), 21, 0, 0, 0, [], []),
  (96, .iinc 3 1, 3, 0, 1, 0, [], []),
  (99, .goto (-90), 7, 0, 0, 0, [], []),
  (102, .return_, 0, 0, 0, 0, [], [])]
def p_X0_lowestInTime : List Row := [(0, .iconst 0, 0, 0, 0, 0, [], []),
  (1, .istore 4, 4, 0, 0, 0, [], []),
  (3, .iload 4, 4, 0, 0, 0, [], []),
  (5, .aload_n 1, 1, 0, 0, 0, [], []),
  (6, .getfield 18, 2, 0, 0, 0, [], [252]),
  (9, .getfield 24, 5, 2, 0, 0, [], [103]),
  (12, .if_icmp .ge 43, 31, 0, 0, 0, [], []),
  (15, .iload_n 2, 2, 0, 0, 0, [], []),
  (16, .iload 4, 4, 0, 0, 0, [], []),
  (18, .ishr, 0, 0, 0, 0, [], []),
  (19, .iconst 1, 0, 0, 1, 0, [], []),
  (20, .iand, 0, 0, 0, 0, [], []),
  (21, .iconst 1, 0, 0, 1, 0, [], []),
  (22, .if_icmp .ne 27, 29, 0, 0, 0, [], []),
  (25, .aload_n 1, 1, 0, 0, 0, [], []),
  (26, .iload 4, 4, 0, 0, 0, [], []),
  (28, .iload_n 3, 3, 0, 0, 0, [], []),
  (29, .invokestatic 30, 5, 3, 0, 0, [], [693, 694, 61, 695]),
  (32, .aload_n 0, 0, 0, 0, 0, [], []),
  (33, .getfield 15, 0, 1, 0, 0, [], [318]),
  (36, .iload_n 2, 2, 0, 0, 0, [], []),
  (37, .iconst 1, 0, 0, 1, 0, [], []),
  (38, .iload 4, 4, 0, 0, 0, [], []),
  (40, .ishl, 0, 0, 0, 0, [], []),
  (41, .ixor, 0, 0, 0, 0, [], []),
  (42, .iaload, 0, 0, 0, 0, [], []),
  (43, .if_icmp .gt 6, 29, 0, 0, 0, [], []),
  (46, .iload 4, 4, 0, 0, 0, [], []),
  (48, .ireturn, 0, 0, 0, 0, [], []),
  (49, .iinc 4 1, 4, 0, 1, 0, [], []),
  (52, .goto (-49), 2, 0, 0, 0, [], []),
  (55, .bipush (-9), 0, 0, (-9), 0, [], []),
  (57, .ireturn, 0, 0, 0, 0, [], [])]
def p_X0_endOf : List Row := [(0, .aload_n 0, 0, 0, 0, 0, [], []),
  (1, .getfield 18, 2, 0, 0, 0, [], [252]),
  (4, .astore_n 3, 3, 0, 0, 0, [], []),
  (5, .sipush 1000, 0, 0, 1000, 0, [], []),
  (8, .istore 4, 4, 0, 0, 0, [], []),
  (10, .iconst 0, 0, 0, 0, 0, [], []),
  (11, .istore 5, 5, 0, 0, 0, [], []),
  (13, .iload 5, 5, 0, 0, 0, [], []),
  (15, .aload_n 3, 3, 0, 0, 0, [], []),
  (16, .getfield 53, 5, 10, 0, 0, [], [140]),
  (19, .if_icmp .ge 60, 40, 0, 0, 0, [], []),
  (22, .iload_n 2, 2, 0, 0, 0, [], []),
  (23, .aload_n 3, 3, 0, 0, 0, [], []),
  (24, .getfield 56, 5, 11, 0, 0, [], [144]),
  (27, .iload 5, 5, 0, 0, 0, [], []),
  (29, .iaload, 0, 0, 0, 0, [], []),
  (30, .invokestatic 50, 185, 2, 0, 0, [], [696, 661, 63, 662]),
  (33, .aload_n 3, 3, 0, 0, 0, [], []),
  (34, .getfield 59, 5, 6, 0, 0, [], [124]),
  (37, .iload_n 1, 1, 0, 0, 0, [], []),
  (38, .iaload, 0, 0, 0, 0, [], []),
  (39, .iadd, 0, 0, 0, 0, [], []),
  (40, .istore 6, 6, 0, 0, 0, [], []),
  (42, .iload 6, 6, 0, 0, 0, [], []),
  (44, .aload_n 3, 3, 0, 0, 0, [], []),
  (45, .getfield 62, 5, 12, 0, 0, [], [148]),
  (48, .iload 5, 5, 0, 0, 0, [], []),
  (50, .iaload, 0, 0, 0, 0, [], []),
  (51, .if_icmp .gt 22, 38, 0, 0, 0, [], []),
  (54, .aload_n 0, 0, 0, 0, 0, [], []),
  (55, .iload_n 1, 1, 0, 0, 0, [], []),
  (56, .iload 5, 5, 0, 0, 0, [], []),
  (58, .invokestatic 65, 7, 3, 0, 0, [], [697, 698, 61, 699]),
  (61, .ifCond .eq 12, 38, 0, 0, 0, [], []),
  (64, .iload 4, 4, 0, 0, 0, [], []),
  (66, .iload 6, 6, 0, 0, 0, [], []),
  (68, .invokestatic 34, 186, 2, 0, 0, [], [700, 402, 63, 403]),
  (71, .istore 4, 4, 0, 0, 0, [], []),
  (73, .iinc 5 1, 5, 0, 1, 0, [], []),
  (76, .goto (-63), 7, 0, 0, 0, [], []),
  (79, .iload 4, 4, 0, 0, 0, [], []),
  (81, .ireturn, 0, 0, 0, 0, [], [])]
def p_X0_latestStartOf : List Row := [(0, .aload_n 0, 0, 0, 0, 0, [], []),
  (1, .getfield 18, 2, 0, 0, 0, [], [252]),
  (4, .astore_n 3, 3, 0, 0, 0, [], []),
  (5, .iconst (-1), 0, 0, (-1), 0, [], []),
  (6, .istore 4, 4, 0, 0, 0, [], []),
  (8, .iconst 0, 0, 0, 0, 0, [], []),
  (9, .istore 5, 5, 0, 0, 0, [], []),
  (11, .iload 5, 5, 0, 0, 0, [], []),
  (13, .aload_n 3, 3, 0, 0, 0, [], []),
  (14, .getfield 53, 5, 10, 0, 0, [], [140]),
  (17, .if_icmp .ge 60, 40, 0, 0, 0, [], []),
  (20, .iload_n 2, 2, 0, 0, 0, [], []),
  (21, .aload_n 3, 3, 0, 0, 0, [], []),
  (22, .getfield 62, 5, 12, 0, 0, [], [148]),
  (25, .iload 5, 5, 0, 0, 0, [], []),
  (27, .iaload, 0, 0, 0, 0, [], []),
  (28, .invokestatic 34, 186, 2, 0, 0, [], [700, 402, 63, 403]),
  (31, .aload_n 3, 3, 0, 0, 0, [], []),
  (32, .getfield 59, 5, 6, 0, 0, [], [124]),
  (35, .iload_n 1, 1, 0, 0, 0, [], []),
  (36, .iaload, 0, 0, 0, 0, [], []),
  (37, .isub, 0, 0, 0, 0, [], []),
  (38, .istore 6, 6, 0, 0, 0, [], []),
  (40, .iload 6, 6, 0, 0, 0, [], []),
  (42, .aload_n 3, 3, 0, 0, 0, [], []),
  (43, .getfield 56, 5, 11, 0, 0, [], [144]),
  (46, .iload 5, 5, 0, 0, 0, [], []),
  (48, .iaload, 0, 0, 0, 0, [], []),
  (49, .if_icmp .lt 22, 38, 0, 0, 0, [], []),
  (52, .aload_n 0, 0, 0, 0, 0, [], []),
  (53, .iload_n 1, 1, 0, 0, 0, [], []),
  (54, .iload 5, 5, 0, 0, 0, [], []),
  (56, .invokestatic 65, 7, 3, 0, 0, [], [697, 698, 61, 699]),
  (59, .ifCond .eq 12, 38, 0, 0, 0, [], []),
  (62, .iload 4, 4, 0, 0, 0, [], []),
  (64, .iload 6, 6, 0, 0, 0, [], []),
  (66, .invokestatic 50, 185, 2, 0, 0, [], [696, 661, 63, 662]),
  (69, .istore 4, 4, 0, 0, 0, [], []),
  (71, .iinc 5 1, 5, 0, 1, 0, [], []),
  (74, .goto (-63), 7, 0, 0, 0, [], []),
  (77, .iload 4, 4, 0, 0, 0, [], []),
  (79, .ireturn, 0, 0, 0, 0, [], [])]
def p_X0_goesThrough : List Row := [(0, .aload_n 0, 0, 0, 0, 0, [], []),
  (1, .getfield 18, 2, 0, 0, 0, [], [252]),
  (4, .getfield 69, 5, 5, 0, 0, [], [121]),
  (7, .iload_n 1, 1, 0, 0, 0, [], []),
  (8, .iaload, 0, 0, 0, 0, [], []),
  (9, .aload_n 0, 0, 0, 0, 0, [], []),
  (10, .getfield 18, 2, 0, 0, 0, [], [252]),
  (13, .getfield 72, 5, 13, 0, 0, [], [152]),
  (16, .iload_n 2, 2, 0, 0, 0, [], []),
  (17, .iaload, 0, 0, 0, 0, [], []),
  (18, .imul, 0, 0, 0, 0, [], []),
  (19, .istore_n 3, 3, 0, 0, 0, [], []),
  (20, .aload_n 0, 0, 0, 0, 0, [], []),
  (21, .getfield 18, 2, 0, 0, 0, [], [252]),
  (24, .getfield 75, 5, 14, 0, 0, [], [156]),
  (27, .iload_n 2, 2, 0, 0, 0, [], []),
  (28, .iaload, 0, 0, 0, 0, [], []),
  (29, .aload_n 0, 0, 0, 0, 0, [], []),
  (30, .getfield 78, 2, 1, 0, 0, [], [258]),
  (33, .getfield 82, 4, 1, 0, 0, [], [240]),
  (36, .iload_n 1, 1, 0, 0, 0, [], []),
  (37, .iaload, 0, 0, 0, 0, [], []),
  (38, .imul, 0, 0, 0, 0, [], []),
  (39, .iload_n 3, 3, 0, 0, 0, [], []),
  (40, .if_icmp .lt 7, 27, 0, 0, 0, [], []),
  (43, .iconst 1, 0, 0, 1, 0, [], []),
  (44, .goto 4, 28, 0, 0, 0, [], []),
  (47, .iconst 0, 0, 0, 0, 0, [], []),
  (48, .ireturn, 0, 0, 0, 0, [], [])]
def p_X1_init : List Row := [(0, .aload_n 0, 0, 0, 0, 0, [], []),
  (1, .invokespecial 3, 901, 0, 0, 0, [], [269, 73, 74]),
  (4, .aload_n 0, 0, 0, 0, 0, [], []),
  (5, .bipush 10, 0, 0, 10, 0, [], []),
  (7, .anewarray 9, 3, 0, 0, 0, [], [270, 271]),
  (10, .putfield 11, 1, 0, 0, 0, [], [273]),
  (13, .iconst 0, 0, 0, 0, 0, [], []),
  (14, .istore_n 1, 1, 0, 0, 0, [], []),
  (15, .iload_n 1, 1, 0, 0, 0, [], []),
  (16, .bipush 10, 0, 0, 10, 0, [], []),
  (18, .if_icmp .ge 22, 20, 0, 0, 0, [], []),
  (21, .aload_n 0, 0, 0, 0, 0, [], []),
  (22, .getfield 11, 1, 0, 0, 0, [], [273]),
  (25, .iload_n 1, 1, 0, 0, 0, [], []),
  (26, .new 9, 4, 3, 0, 0, [], [270, 229, 57]),
  (29, .dup, 0, 0, 0, 0, [], []),
  (30, .invokespecial 17, 39, 0, 1, 0, [], [272, 231, 57, 232]),
  (33, .aastore, 0, 0, 0, 0, [], []),
  (34, .iinc 1 1, 1, 0, 1, 0, [], []),
  (37, .goto (-22), 8, 0, 0, 0, [], []),
  (40, .return_, 0, 0, 0, 0, [], [])]
def p_X1_size : List Row := [(0, .aload_n 0, 0, 0, 0, 0, [], []),
  (1, .getfield 18, 1, 2, 0, 0, [], [275]),
  (4, .ireturn, 0, 0, 0, 0, [], [])]
def p_X1_loseAll : List Row := [(0, .aload_n 0, 0, 0, 0, 0, [], []),
  (1, .iconst 0, 0, 0, 0, 0, [], []),
  (2, .putfield 18, 1, 2, 0, 0, [], [275]),
  (5, .return_, 0, 0, 0, 0, [], [])]
def p_X1_remember : List Row := [(0, .aload_n 0, 0, 0, 0, 0, [], []),
  (1, .getfield 18, 1, 2, 0, 0, [], [275]),
  (4, .bipush 10, 0, 0, 10, 0, [], []),
  (6, .if_icmp .ne 26, 18, 0, 0, 0, [], []),
  (9, .aload_n 0, 0, 0, 0, 0, [], []),
  (10, .aload_n 0, 0, 0, 0, 0, [], []),
  (11, .getfield 22, 1, 1, 0, 0, [], [274]),
  (14, .iconst 1, 0, 0, 1, 0, [], []),
  (15, .iadd, 0, 0, 0, 0, [], []),
  (16, .bipush 10, 0, 0, 10, 0, [], []),
  (18, .irem, 0, 0, 0, 0, [], []),
  (19, .putfield 22, 1, 1, 0, 0, [], [274]),
  (22, .aload_n 0, 0, 0, 0, 0, [], []),
  (23, .dup, 0, 0, 0, 0, [], []),
  (24, .getfield 18, 1, 2, 0, 0, [], [275]),
  (27, .iconst 1, 0, 0, 1, 0, [], []),
  (28, .isub, 0, 0, 0, 0, [], []),
  (29, .putfield 18, 1, 2, 0, 0, [], [275]),
  (32, .aload_n 0, 0, 0, 0, 0, [], []),
  (33, .getfield 11, 1, 0, 0, 0, [], [273]),
  (36, .aload_n 0, 0, 0, 0, 0, [], []),
  (37, .getfield 22, 1, 1, 0, 0, [], [274]),
  (40, .aload_n 0, 0, 0, 0, 0, [], []),
  (41, .getfield 18, 1, 2, 0, 0, [], [275]),
  (44, .iadd, 0, 0, 0, 0, [], []),
  (45, .bipush 10, 0, 0, 10, 0, [], []),
  (47, .irem, 0, 0, 0, 0, [], []),
  (48, .aaload, 0, 0, 0, 0, [], []),
  (49, .aload_n 1, 1, 0, 0, 0, [], []),
  (50, .invokevirtual 25, 41, 1, 0, 0, [], [545, 546, 547, 57, 548]),
  (53, .aload_n 0, 0, 0, 0, 0, [], []),
  (54, .dup, 0, 0, 0, 0, [], []),
  (55, .getfield 18, 1, 2, 0, 0, [], [275]),
  (58, .iconst 1, 0, 0, 1, 0, [], []),
  (59, .iadd, 0, 0, 0, 0, [], []),
  (60, .putfield 18, 1, 2, 0, 0, [], [275]),
  (63, .return_, 0, 0, 0, 0, [], [])]
def p_X1_restoreLatest : List Row := [(0, .aload_n 0, 0, 0, 0, 0, [], []),
  (1, .getfield 18, 1, 2, 0, 0, [], [275]),
  (4, .ifCond .le 34, 21, 0, 0, 0, [], []),
  (7, .aload_n 0, 0, 0, 0, 0, [], []),
  (8, .dup, 0, 0, 0, 0, [], []),
  (9, .getfield 18, 1, 2, 0, 0, [], [275]),
  (12, .iconst 1, 0, 0, 1, 0, [], []),
  (13, .isub, 0, 0, 0, 0, [], []),
  (14, .putfield 18, 1, 2, 0, 0, [], [275]),
  (17, .aload_n 1, 1, 0, 0, 0, [], []),
  (18, .aload_n 0, 0, 0, 0, 0, [], []),
  (19, .getfield 11, 1, 0, 0, 0, [], [273]),
  (22, .aload_n 0, 0, 0, 0, 0, [], []),
  (23, .getfield 22, 1, 1, 0, 0, [], [274]),
  (26, .aload_n 0, 0, 0, 0, 0, [], []),
  (27, .getfield 18, 1, 2, 0, 0, [], [275]),
  (30, .iadd, 0, 0, 0, 0, [], []),
  (31, .bipush 10, 0, 0, 10, 0, [], []),
  (33, .irem, 0, 0, 0, 0, [], []),
  (34, .aaload, 0, 0, 0, 0, [], []),
  (35, .invokevirtual 25, 41, 1, 0, 0, [], [545, 546, 547, 57, 548]),
  (38, .return_, 0, 0, 0, 0, [], [])]
def p_X2_init : List Row := [(0, .aload_n 0, 0, 0, 0, 0, [], []),
  (1, .invokespecial 3, 901, 0, 0, 0, [], [225, 73, 74]),
  (4, .aload_n 0, 0, 0, 0, 0, [], []),
  (5, .new 9, 5, 15, 0, 0, [], [226, 82, 55]),
  (8, .dup, 0, 0, 0, 0, [], []),
  (9, .invokespecial 11, 42, 0, 0, 0, [], [227, 84, 55, 85]),
  (12, .putfield 12, 2, 0, 0, 0, [], [251]),
  (15, .aload_n 0, 0, 0, 0, 0, [], []),
  (16, .new 18, 4, 3, 0, 0, [], [228, 229, 57]),
  (19, .dup, 0, 0, 0, 0, [], []),
  (20, .invokespecial 20, 39, 0, 1, 0, [], [230, 231, 57, 232]),
  (23, .putfield 21, 2, 1, 0, 0, [], [256]),
  (26, .return_, 0, 0, 0, 0, [], [])]
def p_X2_hasThing : List Row := [(0, .iload_n 1, 1, 0, 0, 0, [], []),
  (1, .ifCond .lt 18, 9, 0, 0, 0, [], []),
  (4, .iload_n 1, 1, 0, 0, 0, [], []),
  (5, .aload_n 0, 0, 0, 0, 0, [], []),
  (6, .getfield 12, 2, 0, 0, 0, [], [251]),
  (9, .getfield 25, 5, 2, 0, 0, [], [104]),
  (12, .if_icmp .ge 7, 9, 0, 0, 0, [], []),
  (15, .iconst 1, 0, 0, 1, 0, [], []),
  (16, .goto 4, 10, 0, 0, 0, [], []),
  (19, .iconst 0, 0, 0, 0, 0, [], []),
  (20, .ireturn, 0, 0, 0, 0, [], [])]
def p_X2_hasPerson : List Row := [(0, .iload_n 1, 1, 0, 0, 0, [], []),
  (1, .ifCond .lt 18, 9, 0, 0, 0, [], []),
  (4, .iload_n 1, 1, 0, 0, 0, [], []),
  (5, .aload_n 0, 0, 0, 0, 0, [], []),
  (6, .getfield 12, 2, 0, 0, 0, [], [251]),
  (9, .getfield 29, 5, 7, 0, 0, [], [129]),
  (12, .if_icmp .ge 7, 9, 0, 0, 0, [], []),
  (15, .iconst 1, 0, 0, 1, 0, [], []),
  (16, .goto 4, 10, 0, 0, 0, [], []),
  (19, .iconst 0, 0, 0, 0, 0, [], []),
  (20, .ireturn, 0, 0, 0, 0, [], [])]
def p_X2_fitsPerson : List Row := [(0, .aload_n 0, 0, 0, 0, 0, [], []),
  (1, .iload_n 1, 1, 0, 0, 0, [], []),
  (2, .aload_n 0, 0, 0, 0, 0, [], []),
  (3, .getfield 21, 2, 1, 0, 0, [], [256]),
  (6, .getfield 32, 4, 1, 0, 0, [], [238]),
  (9, .iload_n 1, 1, 0, 0, 0, [], []),
  (10, .iaload, 0, 0, 0, 0, [], []),
  (11, .aload_n 0, 0, 0, 0, 0, [], []),
  (12, .getfield 12, 2, 0, 0, 0, [], [251]),
  (15, .getfield 36, 5, 9, 0, 0, [], [136]),
  (18, .iload_n 2, 2, 0, 0, 0, [], []),
  (19, .iaload, 0, 0, 0, 0, [], []),
  (20, .aload_n 0, 0, 0, 0, 0, [], []),
  (21, .getfield 21, 2, 1, 0, 0, [], [256]),
  (24, .getfield 39, 4, 2, 0, 0, [], [242]),
  (27, .iload_n 2, 2, 0, 0, 0, [], []),
  (28, .iaload, 0, 0, 0, 0, [], []),
  (29, .invokevirtual 42, 18, 4, 0, 0, [], [484, 486, 9, 56, 487]),
  (32, .ireturn, 0, 0, 0, 0, [], [])]
def p_X2_fitsStranger : List Row := [(0, .aload_n 0, 0, 0, 0, 0, [], []),
  (1, .iload_n 1, 1, 0, 0, 0, [], []),
  (2, .aload_n 0, 0, 0, 0, 0, [], []),
  (3, .getfield 21, 2, 1, 0, 0, [], [256]),
  (6, .getfield 32, 4, 1, 0, 0, [], [238]),
  (9, .iload_n 1, 1, 0, 0, 0, [], []),
  (10, .iaload, 0, 0, 0, 0, [], []),
  (11, .iload_n 2, 2, 0, 0, 0, [], []),
  (12, .iload_n 3, 3, 0, 0, 0, [], []),
  (13, .invokevirtual 42, 18, 4, 0, 0, [], [484, 486, 9, 56, 487]),
  (16, .ireturn, 0, 0, 0, 0, [], [])]
def p_X2_fitsAtScale : List Row := [(0, .aload_n 0, 0, 0, 0, 0, [], []),
  (1, .getfield 12, 2, 0, 0, 0, [], [251]),
  (4, .getfield 46, 5, 3, 0, 0, [], [112]),
  (7, .iload_n 1, 1, 0, 0, 0, [], []),
  (8, .iaload, 0, 0, 0, 0, [], []),
  (9, .istore 5, 5, 0, 0, 0, [], []),
  (11, .bipush 20, 0, 0, 20, 0, [], []),
  (13, .aload_n 0, 0, 0, 0, 0, [], []),
  (14, .getfield 12, 2, 0, 0, 0, [], [251]),
  (17, .getfield 49, 5, 5, 0, 0, [], [119]),
  (20, .iload_n 1, 1, 0, 0, 0, [], []),
  (21, .iaload, 0, 0, 0, 0, [], []),
  (22, .imul, 0, 0, 0, 0, [], []),
  (23, .iload 4, 4, 0, 0, 0, [], []),
  (25, .imul, 0, 0, 0, 0, [], []),
  (26, .istore 6, 6, 0, 0, 0, [], []),
  (28, .iload_n 3, 3, 0, 0, 0, [], []),
  (29, .iload_n 2, 2, 0, 0, 0, [], []),
  (30, .imul, 0, 0, 0, 0, [], []),
  (31, .istore 7, 7, 0, 0, 0, [], []),
  (33, .aload_n 0, 0, 0, 0, 0, [], []),
  (34, .getfield 12, 2, 0, 0, 0, [], [251]),
  (37, .getfield 52, 5, 0, 0, 0, [], [97]),
  (40, .iload 5, 5, 0, 0, 0, [], []),
  (42, .iaload, 0, 0, 0, 0, [], []),
  (43, .iload 7, 7, 0, 0, 0, [], []),
  (45, .imul, 0, 0, 0, 0, [], []),
  (46, .iload 6, 6, 0, 0, 0, [], []),
  (48, .if_icmp .gt 25, 40, 0, 0, 0, [], []),
  (51, .iload 6, 6, 0, 0, 0, [], []),
  (53, .aload_n 0, 0, 0, 0, 0, [], []),
  (54, .getfield 12, 2, 0, 0, 0, [], [251]),
  (57, .getfield 55, 5, 1, 0, 0, [], [101]),
  (60, .iload 5, 5, 0, 0, 0, [], []),
  (62, .iaload, 0, 0, 0, 0, [], []),
  (63, .iload 7, 7, 0, 0, 0, [], []),
  (65, .imul, 0, 0, 0, 0, [], []),
  (66, .if_icmp .gt 7, 40, 0, 0, 0, [], []),
  (69, .iconst 1, 0, 0, 1, 0, [], []),
  (70, .goto 4, 41, 0, 0, 0, [], []),
  (73, .iconst 0, 0, 0, 0, 0, [], []),
  (74, .ireturn, 0, 0, 0, 0, [], [])]
def p_X2_peopleItFits : List Row := [(0, .iconst 0, 0, 0, 0, 0, [], []),
  (1, .istore_n 2, 2, 0, 0, 0, [], []),
  (2, .iconst 0, 0, 0, 0, 0, [], []),
  (3, .istore_n 3, 3, 0, 0, 0, [], []),
  (4, .iload_n 3, 3, 0, 0, 0, [], []),
  (5, .aload_n 0, 0, 0, 0, 0, [], []),
  (6, .getfield 12, 2, 0, 0, 0, [], [251]),
  (9, .getfield 29, 5, 7, 0, 0, [], [129]),
  (12, .if_icmp .ge 24, 22, 0, 0, 0, [], []),
  (15, .aload_n 0, 0, 0, 0, 0, [], []),
  (16, .iload_n 1, 1, 0, 0, 0, [], []),
  (17, .iload_n 3, 3, 0, 0, 0, [], []),
  (18, .invokevirtual 58, 16, 2, 0, 0, [], [480, 481, 482, 56, 483]),
  (21, .ifCond .eq 9, 20, 0, 0, 0, [], []),
  (24, .iload_n 2, 2, 0, 0, 0, [], []),
  (25, .iconst 1, 0, 0, 1, 0, [], []),
  (26, .iload_n 3, 3, 0, 0, 0, [], []),
  (27, .ishl, 0, 0, 0, 0, [], []),
  (28, .ior, 0, 0, 0, 0, [], []),
  (29, .istore_n 2, 2, 0, 0, 0, [], []),
  (30, .iinc 3 1, 3, 0, 1, 0, [], []),
  (33, .goto (-29), 4, 0, 0, 0, [], []),
  (36, .iload_n 2, 2, 0, 0, 0, [], []),
  (37, .ireturn, 0, 0, 0, 0, [], [])]
def p_X2_useless : List Row := [(0, .iconst 0, 0, 0, 0, 0, [], []),
  (1, .istore_n 1, 1, 0, 0, 0, [], []),
  (2, .iconst 0, 0, 0, 0, 0, [], []),
  (3, .istore_n 2, 2, 0, 0, 0, [], []),
  (4, .iload_n 2, 2, 0, 0, 0, [], []),
  (5, .aload_n 0, 0, 0, 0, 0, [], []),
  (6, .getfield 12, 2, 0, 0, 0, [], [251]),
  (9, .getfield 25, 5, 2, 0, 0, [], [104]),
  (12, .if_icmp .ge 23, 21, 0, 0, 0, [], []),
  (15, .aload_n 0, 0, 0, 0, 0, [], []),
  (16, .iload_n 2, 2, 0, 0, 0, [], []),
  (17, .invokevirtual 62, 19, 1, 0, 0, [], [516, 477, 478, 56, 479]),
  (20, .ifCond .ne 9, 19, 0, 0, 0, [], []),
  (23, .iload_n 1, 1, 0, 0, 0, [], []),
  (24, .iconst 1, 0, 0, 1, 0, [], []),
  (25, .iload_n 2, 2, 0, 0, 0, [], []),
  (26, .ishl, 0, 0, 0, 0, [], []),
  (27, .ior, 0, 0, 0, 0, [], []),
  (28, .istore_n 1, 1, 0, 0, 0, [], []),
  (29, .iinc 2 1, 2, 0, 1, 0, [], []),
  (32, .goto (-28), 4, 0, 0, 0, [], []),
  (35, .iload_n 1, 1, 0, 0, 0, [], []),
  (36, .ireturn, 0, 0, 0, 0, [], [])]
def p_X2_bareOf : List Row := [(0, .iconst 1, 0, 0, 1, 0, [], []),
  (1, .aload_n 0, 0, 0, 0, 0, [], []),
  (2, .getfield 12, 2, 0, 0, 0, [], [251]),
  (5, .getfield 29, 5, 7, 0, 0, [], [129]),
  (8, .ishl, 0, 0, 0, 0, [], []),
  (9, .iconst 1, 0, 0, 1, 0, [], []),
  (10, .isub, 0, 0, 0, 0, [], []),
  (11, .istore_n 2, 2, 0, 0, 0, [], []),
  (12, .iconst 0, 0, 0, 0, 0, [], []),
  (13, .istore_n 3, 3, 0, 0, 0, [], []),
  (14, .iload_n 3, 3, 0, 0, 0, [], []),
  (15, .aload_n 0, 0, 0, 0, 0, [], []),
  (16, .getfield 12, 2, 0, 0, 0, [], [251]),
  (19, .getfield 25, 5, 2, 0, 0, [], [104]),
  (22, .if_icmp .ge 32, 32, 0, 0, 0, [], []),
  (25, .aload_n 0, 0, 0, 0, 0, [], []),
  (26, .getfield 12, 2, 0, 0, 0, [], [251]),
  (29, .getfield 46, 5, 3, 0, 0, [], [112]),
  (32, .iload_n 3, 3, 0, 0, 0, [], []),
  (33, .iaload, 0, 0, 0, 0, [], []),
  (34, .iload_n 1, 1, 0, 0, 0, [], []),
  (35, .if_icmp .ne 13, 30, 0, 0, 0, [], []),
  (38, .iload_n 2, 2, 0, 0, 0, [], []),
  (39, .aload_n 0, 0, 0, 0, 0, [], []),
  (40, .iload_n 3, 3, 0, 0, 0, [], []),
  (41, .invokevirtual 62, 19, 1, 0, 0, [], [516, 477, 478, 56, 479]),
  (44, .iconst (-1), 0, 0, (-1), 0, [], []),
  (45, .ixor, 0, 0, 0, 0, [], []),
  (46, .iand, 0, 0, 0, 0, [], []),
  (47, .istore_n 2, 2, 0, 0, 0, [], []),
  (48, .iinc 3 1, 3, 0, 1, 0, [], []),
  (51, .goto (-37), 10, 0, 0, 0, [], []),
  (54, .iload_n 2, 2, 0, 0, 0, [], []),
  (55, .ireturn, 0, 0, 0, 0, [], [])]
def p_X2_thingsOf : List Row := [(0, .iconst 0, 0, 0, 0, 0, [], []),
  (1, .istore_n 2, 2, 0, 0, 0, [], []),
  (2, .iconst 0, 0, 0, 0, 0, [], []),
  (3, .istore_n 3, 3, 0, 0, 0, [], []),
  (4, .iload_n 3, 3, 0, 0, 0, [], []),
  (5, .aload_n 0, 0, 0, 0, 0, [], []),
  (6, .getfield 12, 2, 0, 0, 0, [], [251]),
  (9, .getfield 25, 5, 2, 0, 0, [], [104]),
  (12, .if_icmp .ge 28, 24, 0, 0, 0, [], []),
  (15, .aload_n 0, 0, 0, 0, 0, [], []),
  (16, .getfield 21, 2, 1, 0, 0, [], [256]),
  (19, .getfield 66, 4, 0, 0, 0, [], [236]),
  (22, .iload_n 3, 3, 0, 0, 0, [], []),
  (23, .iaload, 0, 0, 0, 0, [], []),
  (24, .iload_n 1, 1, 0, 0, 0, [], []),
  (25, .if_icmp .ne 9, 22, 0, 0, 0, [], []),
  (28, .iload_n 2, 2, 0, 0, 0, [], []),
  (29, .iconst 1, 0, 0, 1, 0, [], []),
  (30, .iload_n 3, 3, 0, 0, 0, [], []),
  (31, .ishl, 0, 0, 0, 0, [], []),
  (32, .ior, 0, 0, 0, 0, [], []),
  (33, .istore_n 2, 2, 0, 0, 0, [], []),
  (34, .iinc 3 1, 3, 0, 1, 0, [], []),
  (37, .goto (-33), 4, 0, 0, 0, [], []),
  (40, .iload_n 2, 2, 0, 0, 0, [], []),
  (41, .ireturn, 0, 0, 0, 0, [], [])]
def p_X2_ownedThings : List Row := [(0, .iconst 0, 0, 0, 0, 0, [], []),
  (1, .istore_n 1, 1, 0, 0, 0, [], []),
  (2, .iconst 0, 0, 0, 0, 0, [], []),
  (3, .istore_n 2, 2, 0, 0, 0, [], []),
  (4, .iload_n 2, 2, 0, 0, 0, [], []),
  (5, .aload_n 0, 0, 0, 0, 0, [], []),
  (6, .getfield 12, 2, 0, 0, 0, [], [251]),
  (9, .getfield 25, 5, 2, 0, 0, [], [104]),
  (12, .if_icmp .ge 29, 24, 0, 0, 0, [], []),
  (15, .aload_n 0, 0, 0, 0, 0, [], []),
  (16, .getfield 21, 2, 1, 0, 0, [], [256]),
  (19, .getfield 66, 4, 0, 0, 0, [], [236]),
  (22, .iload_n 2, 2, 0, 0, 0, [], []),
  (23, .iaload, 0, 0, 0, 0, [], []),
  (24, .bipush (-9), 0, 0, (-9), 0, [], []),
  (26, .if_icmp .eq 9, 22, 0, 0, 0, [], []),
  (29, .iload_n 1, 1, 0, 0, 0, [], []),
  (30, .iconst 1, 0, 0, 1, 0, [], []),
  (31, .iload_n 2, 2, 0, 0, 0, [], []),
  (32, .ishl, 0, 0, 0, 0, [], []),
  (33, .ior, 0, 0, 0, 0, [], []),
  (34, .istore_n 1, 1, 0, 0, 0, [], []),
  (35, .iinc 2 1, 2, 0, 1, 0, [], []),
  (38, .goto (-34), 4, 0, 0, 0, [], []),
  (41, .iload_n 1, 1, 0, 0, 0, [], []),
  (42, .ireturn, 0, 0, 0, 0, [], [])]
def p_X2_canLay : List Row := [(0, .aload_n 0, 0, 0, 0, 0, [], []),
  (1, .getfield 21, 2, 1, 0, 0, [], [256]),
  (4, .getfield 66, 4, 0, 0, 0, [], [236]),
  (7, .iload_n 1, 1, 0, 0, 0, [], []),
  (8, .iaload, 0, 0, 0, 0, [], []),
  (9, .bipush (-9), 0, 0, (-9), 0, [], []),
  (11, .if_icmp .ne 33, 23, 0, 0, 0, [], []),
  (14, .aload_n 0, 0, 0, 0, 0, [], []),
  (15, .iload_n 1, 1, 0, 0, 0, [], []),
  (16, .iload_n 2, 2, 0, 0, 0, [], []),
  (17, .invokevirtual 58, 16, 2, 0, 0, [], [480, 481, 482, 56, 483]),
  (20, .ifCond .eq 24, 23, 0, 0, 0, [], []),
  (23, .aload_n 0, 0, 0, 0, 0, [], []),
  (24, .iload_n 2, 2, 0, 0, 0, [], []),
  (25, .aload_n 0, 0, 0, 0, 0, [], []),
  (26, .getfield 12, 2, 0, 0, 0, [], [251]),
  (29, .getfield 46, 5, 3, 0, 0, [], [112]),
  (32, .iload_n 1, 1, 0, 0, 0, [], []),
  (33, .iaload, 0, 0, 0, 0, [], []),
  (34, .invokevirtual 69, 25, 2, 0, 0, [], [537, 539, 10, 56, 540]),
  (37, .ifCond .ne 7, 23, 0, 0, 0, [], []),
  (40, .iconst 1, 0, 0, 1, 0, [], []),
  (41, .goto 4, 24, 0, 0, 0, [], []),
  (44, .iconst 0, 0, 0, 0, 0, [], []),
  (45, .ireturn, 0, 0, 0, 0, [], [])]
def p_X2_hasOneOf : List Row := [(0, .iconst 0, 0, 0, 0, 0, [], []),
  (1, .istore_n 3, 3, 0, 0, 0, [], []),
  (2, .iload_n 3, 3, 0, 0, 0, [], []),
  (3, .aload_n 0, 0, 0, 0, 0, [], []),
  (4, .getfield 12, 2, 0, 0, 0, [], [251]),
  (7, .getfield 25, 5, 2, 0, 0, [], [104]),
  (10, .if_icmp .ge 37, 25, 0, 0, 0, [], []),
  (13, .aload_n 0, 0, 0, 0, 0, [], []),
  (14, .getfield 21, 2, 1, 0, 0, [], [256]),
  (17, .getfield 66, 4, 0, 0, 0, [], [236]),
  (20, .iload_n 3, 3, 0, 0, 0, [], []),
  (21, .iaload, 0, 0, 0, 0, [], []),
  (22, .iload_n 1, 1, 0, 0, 0, [], []),
  (23, .if_icmp .ne 18, 23, 0, 0, 0, [], []),
  (26, .aload_n 0, 0, 0, 0, 0, [], []),
  (27, .getfield 12, 2, 0, 0, 0, [], [251]),
  (30, .getfield 46, 5, 3, 0, 0, [], [112]),
  (33, .iload_n 3, 3, 0, 0, 0, [], []),
  (34, .iaload, 0, 0, 0, 0, [], []),
  (35, .iload_n 2, 2, 0, 0, 0, [], []),
  (36, .if_icmp .ne 5, 23, 0, 0, 0, [], []),
  (39, .iconst 1, 0, 0, 1, 0, [], []),
  (40, .ireturn, 0, 0, 0, 0, [], []),
  (41, .iinc 3 1, 3, 0, 1, 0, [], []),
  (44, .goto (-42), 2, 0, 0, 0, [], []),
  (47, .iconst 0, 0, 0, 0, 0, [], []),
  (48, .ireturn, 0, 0, 0, 0, [], [])]
def p_X2_freeWhatDoesNotFit : List Row := [(0, .iconst 0, 0, 0, 0, 0, [], []),
  (1, .istore_n 1, 1, 0, 0, 0, [], []),
  (2, .iload_n 1, 1, 0, 0, 0, [], []),
  (3, .aload_n 0, 0, 0, 0, 0, [], []),
  (4, .getfield 12, 2, 0, 0, 0, [], [251]),
  (7, .getfield 25, 5, 2, 0, 0, [], [104]),
  (10, .if_icmp .ge 51, 31, 0, 0, 0, [], []),
  (13, .aload_n 0, 0, 0, 0, 0, [], []),
  (14, .getfield 21, 2, 1, 0, 0, [], [256]),
  (17, .getfield 66, 4, 0, 0, 0, [], [236]),
  (20, .iload_n 1, 1, 0, 0, 0, [], []),
  (21, .iaload, 0, 0, 0, 0, [], []),
  (22, .bipush (-9), 0, 0, (-9), 0, [], []),
  (24, .if_icmp .eq 31, 29, 0, 0, 0, [], []),
  (27, .aload_n 0, 0, 0, 0, 0, [], []),
  (28, .iload_n 1, 1, 0, 0, 0, [], []),
  (29, .aload_n 0, 0, 0, 0, 0, [], []),
  (30, .getfield 21, 2, 1, 0, 0, [], [256]),
  (33, .getfield 66, 4, 0, 0, 0, [], [236]),
  (36, .iload_n 1, 1, 0, 0, 0, [], []),
  (37, .iaload, 0, 0, 0, 0, [], []),
  (38, .invokevirtual 58, 16, 2, 0, 0, [], [480, 481, 482, 56, 483]),
  (41, .ifCond .ne 14, 29, 0, 0, 0, [], []),
  (44, .aload_n 0, 0, 0, 0, 0, [], []),
  (45, .getfield 21, 2, 1, 0, 0, [], [256]),
  (48, .getfield 66, 4, 0, 0, 0, [], [236]),
  (51, .iload_n 1, 1, 0, 0, 0, [], []),
  (52, .bipush (-9), 0, 0, (-9), 0, [], []),
  (54, .iastore, 0, 0, 0, 0, [], []),
  (55, .iinc 1 1, 1, 0, 1, 0, [], []),
  (58, .goto (-56), 2, 0, 0, 0, [], []),
  (61, .return_, 0, 0, 0, 0, [], [])]
def p_X2_twosIfAllThingsWere : List Row := [(0, .iconst 0, 0, 0, 0, 0, [], []),
  (1, .istore_n 2, 2, 0, 0, 0, [], []),
  (2, .iconst 0, 0, 0, 0, 0, [], []),
  (3, .istore_n 3, 3, 0, 0, 0, [], []),
  (4, .iload_n 3, 3, 0, 0, 0, [], []),
  (5, .aload_n 0, 0, 0, 0, 0, [], []),
  (6, .getfield 12, 2, 0, 0, 0, [], [251]),
  (9, .getfield 25, 5, 2, 0, 0, [], [104]),
  (12, .if_icmp .ge 62, 36, 0, 0, 0, [], []),
  (15, .iconst 0, 0, 0, 0, 0, [], []),
  (16, .istore 4, 4, 0, 0, 0, [], []),
  (18, .iload 4, 4, 0, 0, 0, [], []),
  (20, .aload_n 0, 0, 0, 0, 0, [], []),
  (21, .getfield 12, 2, 0, 0, 0, [], [251]),
  (24, .getfield 29, 5, 7, 0, 0, [], [129]),
  (27, .if_icmp .ge 41, 34, 0, 0, 0, [], []),
  (30, .aload_n 0, 0, 0, 0, 0, [], []),
  (31, .iload_n 3, 3, 0, 0, 0, [], []),
  (32, .iload_n 1, 1, 0, 0, 0, [], []),
  (33, .aload_n 0, 0, 0, 0, 0, [], []),
  (34, .getfield 12, 2, 0, 0, 0, [], [251]),
  (37, .getfield 36, 5, 9, 0, 0, [], [136]),
  (40, .iload 4, 4, 0, 0, 0, [], []),
  (42, .iaload, 0, 0, 0, 0, [], []),
  (43, .aload_n 0, 0, 0, 0, 0, [], []),
  (44, .getfield 21, 2, 1, 0, 0, [], [256]),
  (47, .getfield 39, 4, 2, 0, 0, [], [242]),
  (50, .iload 4, 4, 0, 0, 0, [], []),
  (52, .iaload, 0, 0, 0, 0, [], []),
  (53, .invokevirtual 42, 18, 4, 0, 0, [], [484, 486, 9, 56, 487]),
  (56, .ifCond .eq 6, 32, 0, 0, 0, [], []),
  (59, .iinc 2 1, 2, 0, 1, 0, [], []),
  (62, .iinc 4 1, 4, 0, 1, 0, [], []),
  (65, .goto (-47), 11, 0, 0, 0, [], []),
  (68, .iinc 3 1, 3, 0, 1, 0, [], []),
  (71, .goto (-67), 4, 0, 0, 0, [], []),
  (74, .iload_n 2, 2, 0, 0, 0, [], []),
  (75, .ireturn, 0, 0, 0, 0, [], [])]
def p_X2_thingsFitting : List Row := [(0, .iconst 0, 0, 0, 0, 0, [], []),
  (1, .istore_n 3, 3, 0, 0, 0, [], []),
  (2, .iconst 0, 0, 0, 0, 0, [], []),
  (3, .istore 4, 4, 0, 0, 0, [], []),
  (5, .iload 4, 4, 0, 0, 0, [], []),
  (7, .aload_n 0, 0, 0, 0, 0, [], []),
  (8, .getfield 12, 2, 0, 0, 0, [], [251]),
  (11, .getfield 25, 5, 2, 0, 0, [], [104]),
  (14, .if_icmp .ge 23, 18, 0, 0, 0, [], []),
  (17, .aload_n 0, 0, 0, 0, 0, [], []),
  (18, .iload 4, 4, 0, 0, 0, [], []),
  (20, .iload_n 1, 1, 0, 0, 0, [], []),
  (21, .iload_n 2, 2, 0, 0, 0, [], []),
  (22, .invokevirtual 72, 17, 3, 0, 0, [], [684, 641, 642, 56, 643]),
  (25, .ifCond .eq 6, 16, 0, 0, 0, [], []),
  (28, .iinc 3 1, 3, 0, 1, 0, [], []),
  (31, .iinc 4 1, 4, 0, 1, 0, [], []),
  (34, .goto (-29), 4, 0, 0, 0, [], []),
  (37, .iload_n 3, 3, 0, 0, 0, [], []),
  (38, .ireturn, 0, 0, 0, 0, [], [])]
def p_X2_smallerThan : List Row := [(0, .iconst 0, 0, 0, 0, 0, [], []),
  (1, .istore_n 2, 2, 0, 0, 0, [], []),
  (2, .iconst 0, 0, 0, 0, 0, [], []),
  (3, .istore_n 3, 3, 0, 0, 0, [], []),
  (4, .iload_n 3, 3, 0, 0, 0, [], []),
  (5, .aload_n 0, 0, 0, 0, 0, [], []),
  (6, .getfield 12, 2, 0, 0, 0, [], [251]),
  (9, .getfield 29, 5, 7, 0, 0, [], [129]),
  (12, .if_icmp .ge 57, 37, 0, 0, 0, [], []),
  (15, .aload_n 0, 0, 0, 0, 0, [], []),
  (16, .getfield 12, 2, 0, 0, 0, [], [251]),
  (19, .getfield 36, 5, 9, 0, 0, [], [136]),
  (22, .iload_n 3, 3, 0, 0, 0, [], []),
  (23, .iaload, 0, 0, 0, 0, [], []),
  (24, .aload_n 0, 0, 0, 0, 0, [], []),
  (25, .getfield 21, 2, 1, 0, 0, [], [256]),
  (28, .getfield 39, 4, 2, 0, 0, [], [242]),
  (31, .iload_n 1, 1, 0, 0, 0, [], []),
  (32, .iaload, 0, 0, 0, 0, [], []),
  (33, .imul, 0, 0, 0, 0, [], []),
  (34, .istore 4, 4, 0, 0, 0, [], []),
  (36, .iload 4, 4, 0, 0, 0, [], []),
  (38, .aload_n 0, 0, 0, 0, 0, [], []),
  (39, .getfield 12, 2, 0, 0, 0, [], [251]),
  (42, .getfield 36, 5, 9, 0, 0, [], [136]),
  (45, .iload_n 1, 1, 0, 0, 0, [], []),
  (46, .iaload, 0, 0, 0, 0, [], []),
  (47, .aload_n 0, 0, 0, 0, 0, [], []),
  (48, .getfield 21, 2, 1, 0, 0, [], [256]),
  (51, .getfield 39, 4, 2, 0, 0, [], [242]),
  (54, .iload_n 3, 3, 0, 0, 0, [], []),
  (55, .iaload, 0, 0, 0, 0, [], []),
  (56, .imul, 0, 0, 0, 0, [], []),
  (57, .if_icmp .ge 6, 35, 0, 0, 0, [], []),
  (60, .iinc 2 1, 2, 0, 1, 0, [], []),
  (63, .iinc 3 1, 3, 0, 1, 0, [], []),
  (66, .goto (-62), 4, 0, 0, 0, [], []),
  (69, .iload_n 2, 2, 0, 0, 0, [], []),
  (70, .ireturn, 0, 0, 0, 0, [], [])]
def p_X2_chairs : List Row := [(0, .iconst 0, 0, 0, 0, 0, [], []),
  (1, .istore_n 1, 1, 0, 0, 0, [], []),
  (2, .iconst 0, 0, 0, 0, 0, [], []),
  (3, .istore_n 2, 2, 0, 0, 0, [], []),
  (4, .iload_n 2, 2, 0, 0, 0, [], []),
  (5, .aload_n 0, 0, 0, 0, 0, [], []),
  (6, .getfield 12, 2, 0, 0, 0, [], [251]),
  (9, .getfield 25, 5, 2, 0, 0, [], [104]),
  (12, .if_icmp .ge 24, 18, 0, 0, 0, [], []),
  (15, .aload_n 0, 0, 0, 0, 0, [], []),
  (16, .getfield 12, 2, 0, 0, 0, [], [251]),
  (19, .getfield 46, 5, 3, 0, 0, [], [112]),
  (22, .iload_n 2, 2, 0, 0, 0, [], []),
  (23, .iaload, 0, 0, 0, 0, [], []),
  (24, .ifCond .ne 6, 16, 0, 0, 0, [], []),
  (27, .iinc 1 1, 1, 0, 1, 0, [], []),
  (30, .iinc 2 1, 2, 0, 1, 0, [], []),
  (33, .goto (-29), 4, 0, 0, 0, [], []),
  (36, .iload_n 1, 1, 0, 0, 0, [], []),
  (37, .ireturn, 0, 0, 0, 0, [], [])]
def p_X2_commonScale : List Row := [(0, .lconst 1, 0, 0, 0, 1, [], []),
  (1, .lstore_n 1, 1, 0, 0, 0, [], []),
  (2, .iconst 0, 0, 0, 0, 0, [], []),
  (3, .istore_n 3, 3, 0, 0, 0, [], []),
  (4, .iload_n 3, 3, 0, 0, 0, [], []),
  (5, .aload_n 0, 0, 0, 0, 0, [], []),
  (6, .getfield 12, 2, 0, 0, 0, [], [251]),
  (9, .getfield 29, 5, 7, 0, 0, [], [129]),
  (12, .if_icmp .ge 22, 20, 0, 0, 0, [], []),
  (15, .lload_n 1, 1, 0, 0, 0, [], []),
  (16, .aload_n 0, 0, 0, 0, 0, [], []),
  (17, .getfield 21, 2, 1, 0, 0, [], [256]),
  (20, .getfield 39, 4, 2, 0, 0, [], [242]),
  (23, .iload_n 3, 3, 0, 0, 0, [], []),
  (24, .iaload, 0, 0, 0, 0, [], []),
  (25, .i2l, 0, 0, 0, 0, [], []),
  (26, .lmul, 0, 0, 0, 0, [], []),
  (27, .lstore_n 1, 1, 0, 0, 0, [], []),
  (28, .iinc 3 1, 3, 0, 1, 0, [], []),
  (31, .goto (-27), 4, 0, 0, 0, [], []),
  (34, .lload_n 1, 1, 0, 0, 0, [], []),
  (35, .lreturn, 0, 0, 0, 0, [], [])]
def p_X2_heightOf : List Row := [(0, .aload_n 0, 0, 0, 0, 0, [], []),
  (1, .getfield 21, 2, 1, 0, 0, [], [256]),
  (4, .getfield 39, 4, 2, 0, 0, [], [242]),
  (7, .iload_n 1, 1, 0, 0, 0, [], []),
  (8, .iaload, 0, 0, 0, 0, [], []),
  (9, .istore 4, 4, 0, 0, 0, [], []),
  (11, .iload 4, 4, 0, 0, 0, [], []),
  (13, .ifCond .ne 7, 10, 0, 0, 0, [], []),
  (16, .lconst 0, 0, 0, 0, 0, [], []),
  (17, .goto 19, 21, 0, 0, 0, [], []),
  (20, .aload_n 0, 0, 0, 0, 0, [], []),
  (21, .getfield 12, 2, 0, 0, 0, [], [251]),
  (24, .getfield 36, 5, 9, 0, 0, [], [136]),
  (27, .iload_n 1, 1, 0, 0, 0, [], []),
  (28, .iaload, 0, 0, 0, 0, [], []),
  (29, .i2l, 0, 0, 0, 0, [], []),
  (30, .lload_n 2, 2, 0, 0, 0, [], []),
  (31, .iload 4, 4, 0, 0, 0, [], []),
  (33, .i2l, 0, 0, 0, 0, [], []),
  (34, .ldiv, 0, 0, 0, 0, [], []),
  (35, .lmul, 0, 0, 0, 0, [], []),
  (36, .lreturn, 0, 0, 0, 0, [], [])]
def p_X2_heightOfAll : List Row := [(0, .lconst 0, 0, 0, 0, 0, [], []),
  (1, .lstore_n 3, 3, 0, 0, 0, [], []),
  (2, .iconst 0, 0, 0, 0, 0, [], []),
  (3, .istore 5, 5, 0, 0, 0, [], []),
  (5, .iload 5, 5, 0, 0, 0, [], []),
  (7, .aload_n 0, 0, 0, 0, 0, [], []),
  (8, .getfield 12, 2, 0, 0, 0, [], [251]),
  (11, .getfield 29, 5, 7, 0, 0, [], [129]),
  (14, .if_icmp .ge 19, 18, 0, 0, 0, [], []),
  (17, .lload_n 3, 3, 0, 0, 0, [], []),
  (18, .aload_n 0, 0, 0, 0, 0, [], []),
  (19, .iload 5, 5, 0, 0, 0, [], []),
  (21, .lload_n 1, 1, 0, 0, 0, [], []),
  (22, .invokevirtual 76, 32, 2, 0, 0, [], [730, 731, 732, 56, 733]),
  (25, .ladd, 0, 0, 0, 0, [], []),
  (26, .lstore_n 3, 3, 0, 0, 0, [], []),
  (27, .iinc 5 1, 5, 0, 1, 0, [], []),
  (30, .goto (-25), 4, 0, 0, 0, [], []),
  (33, .lload_n 3, 3, 0, 0, 0, [], []),
  (34, .lreturn, 0, 0, 0, 0, [], [])]
def p_X3_init : List Row := [(0, .aload_n 0, 0, 0, 0, 0, [], []),
  (1, .invokespecial 3, 901, 0, 0, 0, [], [306, 73, 74]),
  (4, .aload_n 0, 0, 0, 0, 0, [], []),
  (5, .iconst 5, 0, 0, 5, 0, [], []),
  (6, .newarray .int, 0, 0, 0, 0, [], [191]),
  (8, .putfield 9, 3, 0, 0, 0, [], [307]),
  (11, .return_, 0, 0, 0, 0, [], [])]
def p_X3_mostPeople : List Row := [(0, .iconst 0, 0, 0, 0, 0, [], []),
  (1, .istore_n 2, 2, 0, 0, 0, [], []),
  (2, .iconst 1, 0, 0, 1, 0, [], []),
  (3, .istore_n 3, 3, 0, 0, 0, [], []),
  (4, .iload_n 3, 3, 0, 0, 0, [], []),
  (5, .iconst 1, 0, 0, 1, 0, [], []),
  (6, .aload_n 1, 1, 0, 0, 0, [], []),
  (7, .getfield 15, 2, 0, 0, 0, [], [253]),
  (10, .getfield 21, 5, 7, 0, 0, [], [127]),
  (13, .ishl, 0, 0, 0, 0, [], []),
  (14, .if_icmp .ge 31, 25, 0, 0, 0, [], []),
  (17, .iload_n 3, 3, 0, 0, 0, [], []),
  (18, .invokestatic 27, 184, 1, 0, 0, [], [586, 550, 66, 551]),
  (21, .iload_n 2, 2, 0, 0, 0, [], []),
  (22, .invokestatic 27, 184, 1, 0, 0, [], [586, 550, 66, 551]),
  (25, .if_icmp .le 14, 23, 0, 0, 0, [], []),
  (28, .aload_n 0, 0, 0, 0, 0, [], []),
  (29, .aload_n 1, 1, 0, 0, 0, [], []),
  (30, .iload_n 3, 3, 0, 0, 0, [], []),
  (31, .invokevirtual 33, 37, 2, 0, 0, [], [587, 589, 11, 60, 590]),
  (34, .ifCond .eq 5, 23, 0, 0, 0, [], []),
  (37, .iload_n 3, 3, 0, 0, 0, [], []),
  (38, .istore_n 2, 2, 0, 0, 0, [], []),
  (39, .iinc 3 1, 3, 0, 1, 0, [], []),
  (42, .goto (-38), 4, 0, 0, 0, [], []),
  (45, .iload_n 2, 2, 0, 0, 0, [], []),
  (46, .ireturn, 0, 0, 0, 0, [], [])]
def p_X3_firstThingOf : List Row := [(0, .aload_n 0, 0, 0, 0, 0, [], []),
  (1, .aload_n 1, 1, 0, 0, 0, [], []),
  (2, .invokevirtual 37, 35, 1, 0, 0, [], [603, 583, 584, 60, 585]),
  (5, .istore 4, 4, 0, 0, 0, [], []),
  (7, .iload 4, 4, 0, 0, 0, [], []),
  (9, .iload_n 2, 2, 0, 0, 0, [], []),
  (10, .ishr, 0, 0, 0, 0, [], []),
  (11, .iconst 1, 0, 0, 1, 0, [], []),
  (12, .iand, 0, 0, 0, 0, [], []),
  (13, .ifCond .eq 19, 19, 0, 0, 0, [], []),
  (16, .aload_n 1, 1, 0, 0, 0, [], []),
  (17, .iload_n 3, 3, 0, 0, 0, [], []),
  (18, .iload 4, 4, 0, 0, 0, [], []),
  (20, .iconst 0, 0, 0, 0, 0, [], []),
  (21, .iconst 0, 0, 0, 0, 0, [], []),
  (22, .aload_n 0, 0, 0, 0, 0, [], []),
  (23, .getfield 9, 3, 0, 0, 0, [], [307]),
  (26, .invokestatic 41, 38, 6, 0, 0, [], [591, 592, 60, 593]),
  (29, .ifCond .ne 6, 21, 0, 0, 0, [], []),
  (32, .bipush (-9), 0, 0, (-9), 0, [], []),
  (34, .ireturn, 0, 0, 0, 0, [], []),
  (35, .aload_n 0, 0, 0, 0, 0, [], []),
  (36, .getfield 9, 3, 0, 0, 0, [], [307]),
  (39, .iload_n 2, 2, 0, 0, 0, [], []),
  (40, .iaload, 0, 0, 0, 0, [], []),
  (41, .ireturn, 0, 0, 0, 0, [], [])]
def p_X3_canHouse : List Row := [(0, .iconst 0, 0, 0, 0, 0, [], []),
  (1, .istore_n 3, 3, 0, 0, 0, [], []),
  (2, .iload_n 3, 3, 0, 0, 0, [], []),
  (3, .iconst 3, 0, 0, 3, 0, [], []),
  (4, .if_icmp .ge 26, 18, 0, 0, 0, [], []),
  (7, .aload_n 1, 1, 0, 0, 0, [], []),
  (8, .iload_n 3, 3, 0, 0, 0, [], []),
  (9, .iload_n 2, 2, 0, 0, 0, [], []),
  (10, .iconst 0, 0, 0, 0, 0, [], []),
  (11, .iconst 0, 0, 0, 0, 0, [], []),
  (12, .aload_n 0, 0, 0, 0, 0, [], []),
  (13, .getfield 9, 3, 0, 0, 0, [], [307]),
  (16, .invokestatic 41, 38, 6, 0, 0, [], [591, 592, 60, 593]),
  (19, .ifCond .ne 5, 16, 0, 0, 0, [], []),
  (22, .iconst 0, 0, 0, 0, 0, [], []),
  (23, .ireturn, 0, 0, 0, 0, [], []),
  (24, .iinc 3 1, 3, 0, 1, 0, [], []),
  (27, .goto (-25), 2, 0, 0, 0, [], []),
  (30, .iconst 1, 0, 0, 1, 0, [], []),
  (31, .ireturn, 0, 0, 0, 0, [], [])]
def p_X3_layFrom : List Row := [(0, .iload_n 3, 3, 0, 0, 0, [], []),
  (1, .aload_n 0, 0, 0, 0, 0, [], []),
  (2, .getfield 15, 2, 0, 0, 0, [], [253]),
  (5, .getfield 21, 5, 7, 0, 0, [], [127]),
  (8, .if_icmp .ge 10, 9, 0, 0, 0, [], []),
  (11, .iload_n 3, 3, 0, 0, 0, [], []),
  (12, .aload 5, 5, 0, 0, 0, [], []),
  (14, .arraylength, 0, 0, 0, 0, [], []),
  (15, .if_icmp .lt 5, 11, 0, 0, 0, [], []),
  (18, .iconst 1, 0, 0, 1, 0, [], []),
  (19, .ireturn, 0, 0, 0, 0, [], []),
  (20, .iload_n 2, 2, 0, 0, 0, [], []),
  (21, .iload_n 3, 3, 0, 0, 0, [], []),
  (22, .ishr, 0, 0, 0, 0, [], []),
  (23, .iconst 1, 0, 0, 1, 0, [], []),
  (24, .iand, 0, 0, 0, 0, [], []),
  (25, .ifCond .ne 17, 27, 0, 0, 0, [], []),
  (28, .aload_n 0, 0, 0, 0, 0, [], []),
  (29, .iload_n 1, 1, 0, 0, 0, [], []),
  (30, .iload_n 2, 2, 0, 0, 0, [], []),
  (31, .iload_n 3, 3, 0, 0, 0, [], []),
  (32, .iconst 1, 0, 0, 1, 0, [], []),
  (33, .iadd, 0, 0, 0, 0, [], []),
  (34, .iload 4, 4, 0, 0, 0, [], []),
  (36, .aload 5, 5, 0, 0, 0, [], []),
  (38, .invokestatic 41, 38, 6, 0, 0, [], [591, 592, 60, 593]),
  (41, .ireturn, 0, 0, 0, 0, [], []),
  (42, .iconst 0, 0, 0, 0, 0, [], []),
  (43, .istore 6, 6, 0, 0, 0, [], []),
  (45, .iload 6, 6, 0, 0, 0, [], []),
  (47, .aload_n 0, 0, 0, 0, 0, [], []),
  (48, .getfield 15, 2, 0, 0, 0, [], [253]),
  (51, .getfield 45, 5, 2, 0, 0, [], [106]),
  (54, .if_icmp .ge 84, 80, 0, 0, 0, [], []),
  (57, .aload_n 0, 0, 0, 0, 0, [], []),
  (58, .getfield 15, 2, 0, 0, 0, [], [253]),
  (61, .getfield 48, 5, 3, 0, 0, [], [111]),
  (64, .iload 6, 6, 0, 0, 0, [], []),
  (66, .iaload, 0, 0, 0, 0, [], []),
  (67, .iload_n 1, 1, 0, 0, 0, [], []),
  (68, .if_icmp .ne 17, 49, 0, 0, 0, [], []),
  (71, .iload 4, 4, 0, 0, 0, [], []),
  (73, .iload 6, 6, 0, 0, 0, [], []),
  (75, .ishr, 0, 0, 0, 0, [], []),
  (76, .iconst 1, 0, 0, 1, 0, [], []),
  (77, .iand, 0, 0, 0, 0, [], []),
  (78, .ifCond .ne 7, 49, 0, 0, 0, [], []),
  (81, .iconst 1, 0, 0, 1, 0, [], []),
  (82, .goto 4, 50, 0, 0, 0, [], []),
  (85, .iconst 0, 0, 0, 0, 0, [], []),
  (86, .istore 7, 7, 0, 0, 0, [], []),
  (88, .iload 7, 7, 0, 0, 0, [], []),
  (90, .ifCond .eq 42, 78, 0, 0, 0, [], []),
  (93, .aload_n 0, 0, 0, 0, 0, [], []),
  (94, .iload 6, 6, 0, 0, 0, [], []),
  (96, .iload_n 3, 3, 0, 0, 0, [], []),
  (97, .invokevirtual 51, 16, 2, 0, 0, [], [594, 481, 482, 56, 483]),
  (100, .ifCond .eq 32, 78, 0, 0, 0, [], []),
  (103, .aload_n 0, 0, 0, 0, 0, [], []),
  (104, .iload_n 1, 1, 0, 0, 0, [], []),
  (105, .iload_n 2, 2, 0, 0, 0, [], []),
  (106, .iload_n 3, 3, 0, 0, 0, [], []),
  (107, .iconst 1, 0, 0, 1, 0, [], []),
  (108, .iadd, 0, 0, 0, 0, [], []),
  (109, .iload 4, 4, 0, 0, 0, [], []),
  (111, .iconst 1, 0, 0, 1, 0, [], []),
  (112, .iload 6, 6, 0, 0, 0, [], []),
  (114, .ishl, 0, 0, 0, 0, [], []),
  (115, .ior, 0, 0, 0, 0, [], []),
  (116, .aload 5, 5, 0, 0, 0, [], []),
  (118, .invokestatic 41, 38, 6, 0, 0, [], [591, 592, 60, 593]),
  (121, .ifCond .eq 11, 78, 0, 0, 0, [], []),
  (124, .aload 5, 5, 0, 0, 0, [], []),
  (126, .iload_n 3, 3, 0, 0, 0, [], []),
  (127, .iload 6, 6, 0, 0, 0, [], []),
  (129, .iastore, 0, 0, 0, 0, [], []),
  (130, .iconst 1, 0, 0, 1, 0, [], []),
  (131, .ireturn, 0, 0, 0, 0, [], []),
  (132, .iinc 6 1, 6, 0, 1, 0, [], []),
  (135, .goto (-90), 29, 0, 0, 0, [], []),
  (138, .iconst 0, 0, 0, 0, 0, [], []),
  (139, .ireturn, 0, 0, 0, 0, [], [])]
def p_X4_init : List Row := [(0, .aload_n 0, 0, 0, 0, 0, [], []),
  (1, .invokespecial 3, 901, 0, 0, 0, [], [233, 73, 74]),
  (4, .aload_n 0, 0, 0, 0, 0, [], []),
  (5, .bipush 6, 0, 0, 6, 0, [], []),
  (7, .newarray .int, 0, 0, 0, 0, [], [191]),
  (9, .putfield 9, 4, 0, 0, 0, [], [234]),
  (12, .aload_n 0, 0, 0, 0, 0, [], []),
  (13, .bipush 6, 0, 0, 6, 0, [], []),
  (15, .newarray .int, 0, 0, 0, 0, [], [191]),
  (17, .putfield 15, 4, 1, 0, 0, [], [237]),
  (20, .aload_n 0, 0, 0, 0, 0, [], []),
  (21, .iconst 5, 0, 0, 5, 0, [], []),
  (22, .newarray .int, 0, 0, 0, 0, [], [191]),
  (24, .putfield 18, 4, 2, 0, 0, [], [241]),
  (27, .return_, 0, 0, 0, 0, [], [])]
def p_X4_beginAsTold : List Row := [(0, .aload_n 0, 0, 0, 0, 0, [], []),
  (1, .getfield 9, 4, 0, 0, 0, [], [234]),
  (4, .bipush (-9), 0, 0, (-9), 0, [], []),
  (6, .invokestatic 21, 187, 2, 0, 0, [], [443, 444, 64, 445]),
  (9, .aload_n 1, 1, 0, 0, 0, [], []),
  (10, .getfield 27, 5, 4, 0, 0, [], [116]),
  (13, .iconst 0, 0, 0, 0, 0, [], []),
  (14, .aload_n 0, 0, 0, 0, 0, [], []),
  (15, .getfield 15, 4, 1, 0, 0, [], [237]),
  (18, .iconst 0, 0, 0, 0, 0, [], []),
  (19, .bipush 6, 0, 0, 6, 0, [], []),
  (21, .invokestatic 30, 900, 5, 0, 0, [], [446, 448, 447, 65]),
  (24, .aload_n 1, 1, 0, 0, 0, [], []),
  (25, .getfield 36, 5, 8, 0, 0, [], [133]),
  (28, .iconst 0, 0, 0, 0, 0, [], []),
  (29, .aload_n 0, 0, 0, 0, 0, [], []),
  (30, .getfield 18, 4, 2, 0, 0, [], [241]),
  (33, .iconst 0, 0, 0, 0, 0, [], []),
  (34, .iconst 5, 0, 0, 5, 0, [], []),
  (35, .invokestatic 30, 900, 5, 0, 0, [], [446, 448, 447, 65]),
  (38, .return_, 0, 0, 0, 0, [], [])]
def p_X4_copyFrom : List Row := [(0, .aload_n 1, 1, 0, 0, 0, [], []),
  (1, .getfield 9, 4, 0, 0, 0, [], [234]),
  (4, .iconst 0, 0, 0, 0, 0, [], []),
  (5, .aload_n 0, 0, 0, 0, 0, [], []),
  (6, .getfield 9, 4, 0, 0, 0, [], [234]),
  (9, .iconst 0, 0, 0, 0, 0, [], []),
  (10, .bipush 6, 0, 0, 6, 0, [], []),
  (12, .invokestatic 30, 900, 5, 0, 0, [], [446, 448, 447, 65]),
  (15, .aload_n 1, 1, 0, 0, 0, [], []),
  (16, .getfield 15, 4, 1, 0, 0, [], [237]),
  (19, .iconst 0, 0, 0, 0, 0, [], []),
  (20, .aload_n 0, 0, 0, 0, 0, [], []),
  (21, .getfield 15, 4, 1, 0, 0, [], [237]),
  (24, .iconst 0, 0, 0, 0, 0, [], []),
  (25, .bipush 6, 0, 0, 6, 0, [], []),
  (27, .invokestatic 30, 900, 5, 0, 0, [], [446, 448, 447, 65]),
  (30, .aload_n 1, 1, 0, 0, 0, [], []),
  (31, .getfield 18, 4, 2, 0, 0, [], [241]),
  (34, .iconst 0, 0, 0, 0, 0, [], []),
  (35, .aload_n 0, 0, 0, 0, 0, [], []),
  (36, .getfield 18, 4, 2, 0, 0, [], [241]),
  (39, .iconst 0, 0, 0, 0, 0, [], []),
  (40, .iconst 5, 0, 0, 5, 0, [], []),
  (41, .invokestatic 30, 900, 5, 0, 0, [], [446, 448, 447, 65]),
  (44, .return_, 0, 0, 0, 0, [], [])]
def p_X5_init : List Row := [(0, .aload_n 0, 0, 0, 0, 0, [], []),
  (1, .invokespecial 3, 901, 0, 0, 0, [], [86, 73, 74]),
  (4, .aload_n 0, 0, 0, 0, 0, [], []),
  (5, .iconst 3, 0, 0, 3, 0, [], []),
  (6, .newarray .int, 0, 0, 0, 0, [], [191]),
  (8, .putfield 9, 5, 0, 0, 0, [], [95]),
  (11, .aload_n 0, 0, 0, 0, 0, [], []),
  (12, .iconst 3, 0, 0, 3, 0, [], []),
  (13, .newarray .int, 0, 0, 0, 0, [], [191]),
  (15, .putfield 15, 5, 1, 0, 0, [], [99]),
  (18, .aload_n 0, 0, 0, 0, 0, [], []),
  (19, .bipush 6, 0, 0, 6, 0, [], []),
  (21, .newarray .int, 0, 0, 0, 0, [], [191]),
  (23, .putfield 18, 5, 3, 0, 0, [], [110]),
  (26, .aload_n 0, 0, 0, 0, 0, [], []),
  (27, .bipush 6, 0, 0, 6, 0, [], []),
  (29, .newarray .int, 0, 0, 0, 0, [], [191]),
  (31, .putfield 21, 5, 4, 0, 0, [], [115]),
  (34, .aload_n 0, 0, 0, 0, 0, [], []),
  (35, .bipush 6, 0, 0, 6, 0, [], []),
  (37, .newarray .int, 0, 0, 0, 0, [], [191]),
  (39, .putfield 24, 5, 5, 0, 0, [], [118]),
  (42, .aload_n 0, 0, 0, 0, 0, [], []),
  (43, .bipush 6, 0, 0, 6, 0, [], []),
  (45, .newarray .int, 0, 0, 0, 0, [], [191]),
  (47, .putfield 27, 5, 6, 0, 0, [], [123]),
  (50, .aload_n 0, 0, 0, 0, 0, [], []),
  (51, .iconst 5, 0, 0, 5, 0, [], []),
  (52, .newarray .int, 0, 0, 0, 0, [], [191]),
  (54, .putfield 30, 5, 8, 0, 0, [], [132]),
  (57, .aload_n 0, 0, 0, 0, 0, [], []),
  (58, .iconst 5, 0, 0, 5, 0, [], []),
  (59, .newarray .int, 0, 0, 0, 0, [], [191]),
  (61, .putfield 33, 5, 9, 0, 0, [], [135]),
  (64, .aload_n 0, 0, 0, 0, 0, [], []),
  (65, .iconst 3, 0, 0, 3, 0, [], []),
  (66, .newarray .int, 0, 0, 0, 0, [], [191]),
  (68, .putfield 36, 5, 11, 0, 0, [], [143]),
  (71, .aload_n 0, 0, 0, 0, 0, [], []),
  (72, .iconst 3, 0, 0, 3, 0, [], []),
  (73, .newarray .int, 0, 0, 0, 0, [], [191]),
  (75, .putfield 39, 5, 12, 0, 0, [], [147]),
  (78, .aload_n 0, 0, 0, 0, 0, [], []),
  (79, .iconst 3, 0, 0, 3, 0, [], []),
  (80, .newarray .int, 0, 0, 0, 0, [], [191]),
  (82, .putfield 42, 5, 13, 0, 0, [], [151]),
  (85, .aload_n 0, 0, 0, 0, 0, [], []),
  (86, .iconst 3, 0, 0, 3, 0, [], []),
  (87, .newarray .int, 0, 0, 0, 0, [], [191]),
  (89, .putfield 45, 5, 14, 0, 0, [], [155]),
  (92, .aload_n 0, 0, 0, 0, 0, [], []),
  (93, .invokevirtual 48, 43, 0, 0, 0, [], [87, 88, 89, 55, 90]),
  (96, .return_, 0, 0, 0, 0, [], [])]
def p_X5_beginAsAtFirst : List Row := [(0, .iconst 0, 0, 0, 0, 0, [], []),
  (1, .istore_n 1, 1, 0, 0, 0, [], []),
  (2, .iload_n 1, 1, 0, 0, 0, [], []),
  (3, .iconst 3, 0, 0, 3, 0, [], []),
  (4, .if_icmp .ge 31, 21, 0, 0, 0, [], []),
  (7, .aload_n 0, 0, 0, 0, 0, [], []),
  (8, .getfield 9, 5, 0, 0, 0, [], [95]),
  (11, .iload_n 1, 1, 0, 0, 0, [], []),
  (12, .getstatic 51, 0, 0, 0, 0, [], [91]),
  (15, .iload_n 1, 1, 0, 0, 0, [], []),
  (16, .iaload, 0, 0, 0, 0, [], []),
  (17, .iastore, 0, 0, 0, 0, [], []),
  (18, .aload_n 0, 0, 0, 0, 0, [], []),
  (19, .getfield 15, 5, 1, 0, 0, [], [99]),
  (22, .iload_n 1, 1, 0, 0, 0, [], []),
  (23, .getstatic 54, 1, 0, 0, 0, [], [93]),
  (26, .iload_n 1, 1, 0, 0, 0, [], []),
  (27, .iaload, 0, 0, 0, 0, [], []),
  (28, .iastore, 0, 0, 0, 0, [], []),
  (29, .iinc 1 1, 1, 0, 1, 0, [], []),
  (32, .goto (-30), 2, 0, 0, 0, [], []),
  (35, .aload_n 0, 0, 0, 0, 0, [], []),
  (36, .iconst 0, 0, 0, 0, 0, [], []),
  (37, .putfield 57, 5, 2, 0, 0, [], [105]),
  (40, .aload_n 0, 0, 0, 0, 0, [], []),
  (41, .iconst 0, 0, 0, 0, 0, [], []),
  (42, .putfield 61, 5, 7, 0, 0, [], [128]),
  (45, .aload_n 0, 0, 0, 0, 0, [], []),
  (46, .iconst 0, 0, 0, 0, 0, [], []),
  (47, .putfield 64, 5, 10, 0, 0, [], [139]),
  (50, .return_, 0, 0, 0, 0, [], [])]
def p_X6_init : List Row := [(0, .aload_n 0, 0, 0, 0, 0, [], []),
  (1, .invokespecial 3, 901, 0, 0, 0, [], [80, 73, 74]),
  (4, .aload_n 0, 0, 0, 0, 0, [], []),
  (5, .sipush 200, 0, 0, 200, 0, [], []),
  (8, .newarray .char, 2, 0, 0, 0, [], [190]),
  (10, .putfield 9, 6, 0, 0, 0, [], [192]),
  (13, .aload_n 0, 0, 0, 0, 0, [], []),
  (14, .new 15, 5, 15, 0, 0, [], [81, 82, 55]),
  (17, .dup, 0, 0, 0, 0, [], []),
  (18, .invokespecial 17, 42, 0, 0, 0, [], [83, 84, 55, 85]),
  (21, .putfield 18, 6, 2, 0, 0, [], [194]),
  (24, .return_, 0, 0, 0, 0, [], [])]
def p_X6_size : List Row := [(0, .aload_n 0, 0, 0, 0, 0, [], []),
  (1, .getfield 22, 6, 1, 0, 0, [], [193]),
  (4, .ireturn, 0, 0, 0, 0, [], [])]
def p_X6_isFull : List Row := [(0, .aload_n 0, 0, 0, 0, 0, [], []),
  (1, .getfield 22, 6, 1, 0, 0, [], [193]),
  (4, .sipush 200, 0, 0, 200, 0, [], []),
  (7, .if_icmp .lt 7, 6, 0, 0, 0, [], []),
  (10, .iconst 1, 0, 0, 1, 0, [], []),
  (11, .goto 4, 7, 0, 0, 0, [], []),
  (14, .iconst 0, 0, 0, 0, 0, [], []),
  (15, .ireturn, 0, 0, 0, 0, [], [])]
def p_X6_add : List Row := [(0, .aload_n 0, 0, 0, 0, 0, [], []),
  (1, .invokevirtual 26, 46, 0, 0, 0, [], [368, 361, 362, 54, 363]),
  (4, .ifCond .ne 23, 15, 0, 0, 0, [], []),
  (7, .aload_n 0, 0, 0, 0, 0, [], []),
  (8, .getfield 9, 6, 0, 0, 0, [], [192]),
  (11, .aload_n 0, 0, 0, 0, 0, [], []),
  (12, .getfield 22, 6, 1, 0, 0, [], [193]),
  (15, .iload_n 1, 1, 0, 0, 0, [], []),
  (16, .castore, 0, 0, 0, 0, [], []),
  (17, .aload_n 0, 0, 0, 0, 0, [], []),
  (18, .dup, 0, 0, 0, 0, [], []),
  (19, .getfield 22, 6, 1, 0, 0, [], [193]),
  (22, .iconst 1, 0, 0, 1, 0, [], []),
  (23, .iadd, 0, 0, 0, 0, [], []),
  (24, .putfield 22, 6, 1, 0, 0, [], [193]),
  (27, .return_, 0, 0, 0, 0, [], [])]
def p_X6_loseAll : List Row := [(0, .aload_n 0, 0, 0, 0, 0, [], []),
  (1, .iconst 0, 0, 0, 0, 0, [], []),
  (2, .putfield 22, 6, 1, 0, 0, [], [193]),
  (5, .return_, 0, 0, 0, 0, [], [])]
def p_X6_readAll : List Row := [(0, .aload_n 0, 0, 0, 0, 0, [], []),
  (1, .getfield 18, 6, 2, 0, 0, [], [194]),
  (4, .invokevirtual 30, 43, 0, 0, 0, [], [389, 88, 89, 55, 90]),
  (7, .aload_n 0, 0, 0, 0, 0, [], []),
  (8, .iconst 0, 0, 0, 0, 0, [], []),
  (9, .putfield 33, 6, 3, 0, 0, [], [195]),
  (12, .aload_n 0, 0, 0, 0, 0, [], []),
  (13, .iconst (-1), 0, 0, (-1), 0, [], []),
  (14, .putfield 36, 6, 7, 0, 0, [], [199]),
  (17, .aload_n 0, 0, 0, 0, 0, [], []),
  (18, .iconst 0, 0, 0, 0, 0, [], []),
  (19, .putfield 39, 6, 8, 0, 0, [], [200]),
  (22, .aload_n 0, 0, 0, 0, 0, [], []),
  (23, .invokevirtual 42, 59, 0, 0, 0, [], [390, 392, 0, 54, 393]),
  (26, .iconst 0, 0, 0, 0, 0, [], []),
  (27, .istore_n 1, 1, 0, 0, 0, [], []),
  (28, .iload_n 1, 1, 0, 0, 0, [], []),
  (29, .sipush 200, 0, 0, 200, 0, [], []),
  (32, .if_icmp .ge 120, 54, 0, 0, 0, [], []),
  (35, .aload_n 0, 0, 0, 0, 0, [], []),
  (36, .getfield 45, 6, 4, 0, 0, [], [196]),
  (39, .bipush 46, 0, 0, 46, 0, [], []),
  (41, .if_icmp .eq 111, 54, 0, 0, 0, [], []),
  (44, .aload_n 0, 0, 0, 0, 0, [], []),
  (45, .getfield 36, 6, 7, 0, 0, [], [199]),
  (48, .iconst (-1), 0, 0, (-1), 0, [], []),
  (49, .if_icmp .ne 103, 54, 0, 0, 0, [], []),
  (52, .aload_n 0, 0, 0, 0, 0, [], []),
  (53, .getfield 45, 6, 4, 0, 0, [], [196]),
  (56, .lookupswitch 72 #[(100, 65), (107, 44), (112, 58), (116, 51)], 42, 44, 0, 0, [(100, 39), (107, 30), (112, 36), (116, 33)], []),
  (100, .aload_n 0, 0, 0, 0, 0, [], []),
  (101, .invokevirtual 49, 52, 0, 0, 0, [], [407, 409, 2, 54, 410]),
  (104, .goto 28, 44, 0, 0, 0, [], []),
  (107, .aload_n 0, 0, 0, 0, 0, [], []),
  (108, .invokevirtual 52, 53, 0, 0, 0, [], [419, 421, 5, 54, 422]),
  (111, .goto 21, 44, 0, 0, 0, [], []),
  (114, .aload_n 0, 0, 0, 0, 0, [], []),
  (115, .invokevirtual 55, 54, 0, 0, 0, [], [423, 425, 6, 54, 426]),
  (118, .goto 14, 44, 0, 0, 0, [], []),
  (121, .aload_n 0, 0, 0, 0, 0, [], []),
  (122, .invokevirtual 58, 55, 0, 0, 0, [], [427, 429, 7, 54, 430]),
  (125, .goto 7, 44, 0, 0, 0, [], []),
  (128, .aload_n 0, 0, 0, 0, 0, [], []),
  (129, .invokevirtual 61, 58, 0, 0, 0, [], [415, 417, 4, 54, 418]),
  (132, .aload_n 0, 0, 0, 0, 0, [], []),
  (133, .invokevirtual 64, 57, 0, 0, 0, [], [431, 433, 8, 54, 434]),
  (136, .aload_n 0, 0, 0, 0, 0, [], []),
  (137, .dup, 0, 0, 0, 0, [], []),
  (138, .getfield 39, 6, 8, 0, 0, [], [200]),
  (141, .iconst 1, 0, 0, 1, 0, [], []),
  (142, .iadd, 0, 0, 0, 0, [], []),
  (143, .putfield 39, 6, 8, 0, 0, [], [200]),
  (146, .iinc 1 1, 1, 0, 1, 0, [], []),
  (149, .goto (-121), 16, 0, 0, 0, [], []),
  (152, .aload_n 0, 0, 0, 0, 0, [], []),
  (153, .getfield 36, 6, 7, 0, 0, [], [199]),
  (156, .ireturn, 0, 0, 0, 0, [], [])]
def p_X6_itemsRead : List Row := [(0, .aload_n 0, 0, 0, 0, 0, [], []),
  (1, .getfield 39, 6, 8, 0, 0, [], [200]),
  (4, .ireturn, 0, 0, 0, 0, [], [])]
def p_X6_giveTaleFor : List Row := [(0, .aload_n 0, 0, 0, 0, 0, [], []),
  (1, .getfield 18, 6, 2, 0, 0, [], [194]),
  (4, .astore_n 2, 2, 0, 0, 0, [], []),
  (5, .aload_n 0, 0, 0, 0, 0, [], []),
  (6, .aload_n 1, 1, 0, 0, 0, [], []),
  (7, .putfield 18, 6, 2, 0, 0, [], [194]),
  (10, .aload_n 2, 2, 0, 0, 0, [], []),
  (11, .areturn, 0, 0, 0, 0, [], [])]
def p_X6_readLaw : List Row := [(0, .aload_n 0, 0, 0, 0, 0, [], []),
  (1, .iconst 0, 0, 0, 0, 0, [], []),
  (2, .iconst 2, 0, 0, 2, 0, [], []),
  (3, .invokevirtual 67, 56, 2, 0, 0, [], [411, 413, 3, 54, 414]),
  (6, .istore_n 1, 1, 0, 0, 0, [], []),
  (7, .aload_n 0, 0, 0, 0, 0, [], []),
  (8, .iconst 0, 0, 0, 0, 0, [], []),
  (9, .bipush 60, 0, 0, 60, 0, [], []),
  (11, .invokevirtual 67, 56, 2, 0, 0, [], [411, 413, 3, 54, 414]),
  (14, .istore_n 2, 2, 0, 0, 0, [], []),
  (15, .aload_n 0, 0, 0, 0, 0, [], []),
  (16, .iload_n 2, 2, 0, 0, 0, [], []),
  (17, .bipush 60, 0, 0, 60, 0, [], []),
  (19, .invokevirtual 67, 56, 2, 0, 0, [], [411, 413, 3, 54, 414]),
  (22, .istore_n 3, 3, 0, 0, 0, [], []),
  (23, .aload_n 0, 0, 0, 0, 0, [], []),
  (24, .getfield 18, 6, 2, 0, 0, [], [194]),
  (27, .getfield 71, 5, 0, 0, 0, [], [98]),
  (30, .iload_n 1, 1, 0, 0, 0, [], []),
  (31, .iload_n 2, 2, 0, 0, 0, [], []),
  (32, .iastore, 0, 0, 0, 0, [], []),
  (33, .aload_n 0, 0, 0, 0, 0, [], []),
  (34, .getfield 18, 6, 2, 0, 0, [], [194]),
  (37, .getfield 75, 5, 1, 0, 0, [], [102]),
  (40, .iload_n 1, 1, 0, 0, 0, [], []),
  (41, .iload_n 3, 3, 0, 0, 0, [], []),
  (42, .iastore, 0, 0, 0, 0, [], []),
  (43, .return_, 0, 0, 0, 0, [], [])]
def p_X6_readThing : List Row := [(0, .aload_n 0, 0, 0, 0, 0, [], []),
  (1, .getfield 18, 6, 2, 0, 0, [], [194]),
  (4, .getfield 78, 5, 2, 0, 0, [], [107]),
  (7, .istore_n 1, 1, 0, 0, 0, [], []),
  (8, .iload_n 1, 1, 0, 0, 0, [], []),
  (9, .bipush 6, 0, 0, 6, 0, [], []),
  (11, .if_icmp .lt 8, 10, 0, 0, 0, [], []),
  (14, .aload_n 0, 0, 0, 0, 0, [], []),
  (15, .invokevirtual 61, 58, 0, 0, 0, [], [415, 417, 4, 54, 418]),
  (18, .return_, 0, 0, 0, 0, [], []),
  (19, .aload_n 0, 0, 0, 0, 0, [], []),
  (20, .getfield 18, 6, 2, 0, 0, [], [194]),
  (23, .getfield 81, 5, 3, 0, 0, [], [114]),
  (26, .iload_n 1, 1, 0, 0, 0, [], []),
  (27, .aload_n 0, 0, 0, 0, 0, [], []),
  (28, .iconst 0, 0, 0, 0, 0, [], []),
  (29, .iconst 2, 0, 0, 2, 0, [], []),
  (30, .invokevirtual 67, 56, 2, 0, 0, [], [411, 413, 3, 54, 414]),
  (33, .iastore, 0, 0, 0, 0, [], []),
  (34, .aload_n 0, 0, 0, 0, 0, [], []),
  (35, .getfield 18, 6, 2, 0, 0, [], [194]),
  (38, .getfield 84, 5, 4, 0, 0, [], [117]),
  (41, .iload_n 1, 1, 0, 0, 0, [], []),
  (42, .aload_n 0, 0, 0, 0, 0, [], []),
  (43, .iconst 1, 0, 0, 1, 0, [], []),
  (44, .bipush 48, 0, 0, 48, 0, [], []),
  (46, .invokevirtual 67, 56, 2, 0, 0, [], [411, 413, 3, 54, 414]),
  (49, .iastore, 0, 0, 0, 0, [], []),
  (50, .aload_n 0, 0, 0, 0, 0, [], []),
  (51, .getfield 18, 6, 2, 0, 0, [], [194]),
  (54, .getfield 87, 5, 5, 0, 0, [], [122]),
  (57, .iload_n 1, 1, 0, 0, 0, [], []),
  (58, .aload_n 0, 0, 0, 0, 0, [], []),
  (59, .iconst 1, 0, 0, 1, 0, [], []),
  (60, .bipush 99, 0, 0, 99, 0, [], []),
  (62, .invokevirtual 67, 56, 2, 0, 0, [], [411, 413, 3, 54, 414]),
  (65, .iastore, 0, 0, 0, 0, [], []),
  (66, .aload_n 0, 0, 0, 0, 0, [], []),
  (67, .getfield 18, 6, 2, 0, 0, [], [194]),
  (70, .getfield 90, 5, 6, 0, 0, [], [126]),
  (73, .iload_n 1, 1, 0, 0, 0, [], []),
  (74, .aload_n 0, 0, 0, 0, 0, [], []),
  (75, .iconst 1, 0, 0, 1, 0, [], []),
  (76, .bipush 9, 0, 0, 9, 0, [], []),
  (78, .invokevirtual 67, 56, 2, 0, 0, [], [411, 413, 3, 54, 414]),
  (81, .iastore, 0, 0, 0, 0, [], []),
  (82, .aload_n 0, 0, 0, 0, 0, [], []),
  (83, .getfield 18, 6, 2, 0, 0, [], [194]),
  (86, .dup, 0, 0, 0, 0, [], []),
  (87, .getfield 78, 5, 2, 0, 0, [], [107]),
  (90, .iconst 1, 0, 0, 1, 0, [], []),
  (91, .iadd, 0, 0, 0, 0, [], []),
  (92, .putfield 78, 5, 2, 0, 0, [], [107]),
  (95, .return_, 0, 0, 0, 0, [], [])]
def p_X6_readPerson : List Row := [(0, .aload_n 0, 0, 0, 0, 0, [], []),
  (1, .getfield 18, 6, 2, 0, 0, [], [194]),
  (4, .getfield 93, 5, 7, 0, 0, [], [130]),
  (7, .istore_n 1, 1, 0, 0, 0, [], []),
  (8, .iload_n 1, 1, 0, 0, 0, [], []),
  (9, .iconst 5, 0, 0, 5, 0, [], []),
  (10, .if_icmp .lt 8, 10, 0, 0, 0, [], []),
  (13, .aload_n 0, 0, 0, 0, 0, [], []),
  (14, .invokevirtual 61, 58, 0, 0, 0, [], [415, 417, 4, 54, 418]),
  (17, .return_, 0, 0, 0, 0, [], []),
  (18, .aload_n 0, 0, 0, 0, 0, [], []),
  (19, .getfield 18, 6, 2, 0, 0, [], [194]),
  (22, .getfield 96, 5, 8, 0, 0, [], [134]),
  (25, .iload_n 1, 1, 0, 0, 0, [], []),
  (26, .aload_n 0, 0, 0, 0, 0, [], []),
  (27, .iconst 1, 0, 0, 1, 0, [], []),
  (28, .bipush 48, 0, 0, 48, 0, [], []),
  (30, .invokevirtual 67, 56, 2, 0, 0, [], [411, 413, 3, 54, 414]),
  (33, .iastore, 0, 0, 0, 0, [], []),
  (34, .aload_n 0, 0, 0, 0, 0, [], []),
  (35, .getfield 18, 6, 2, 0, 0, [], [194]),
  (38, .getfield 99, 5, 9, 0, 0, [], [138]),
  (41, .iload_n 1, 1, 0, 0, 0, [], []),
  (42, .aload_n 0, 0, 0, 0, 0, [], []),
  (43, .iconst 1, 0, 0, 1, 0, [], []),
  (44, .bipush 99, 0, 0, 99, 0, [], []),
  (46, .invokevirtual 67, 56, 2, 0, 0, [], [411, 413, 3, 54, 414]),
  (49, .iastore, 0, 0, 0, 0, [], []),
  (50, .aload_n 0, 0, 0, 0, 0, [], []),
  (51, .getfield 18, 6, 2, 0, 0, [], [194]),
  (54, .dup, 0, 0, 0, 0, [], []),
  (55, .getfield 93, 5, 7, 0, 0, [], [130]),
  (58, .iconst 1, 0, 0, 1, 0, [], []),
  (59, .iadd, 0, 0, 0, 0, [], []),
  (60, .putfield 93, 5, 7, 0, 0, [], [130]),
  (63, .return_, 0, 0, 0, 0, [], [])]
def p_X6_readDoor : List Row := [(0, .aload_n 0, 0, 0, 0, 0, [], []),
  (1, .getfield 18, 6, 2, 0, 0, [], [194]),
  (4, .getfield 102, 5, 10, 0, 0, [], [142]),
  (7, .istore_n 1, 1, 0, 0, 0, [], []),
  (8, .iload_n 1, 1, 0, 0, 0, [], []),
  (9, .iconst 3, 0, 0, 3, 0, [], []),
  (10, .if_icmp .lt 8, 10, 0, 0, 0, [], []),
  (13, .aload_n 0, 0, 0, 0, 0, [], []),
  (14, .invokevirtual 61, 58, 0, 0, 0, [], [415, 417, 4, 54, 418]),
  (17, .return_, 0, 0, 0, 0, [], []),
  (18, .aload_n 0, 0, 0, 0, 0, [], []),
  (19, .getfield 18, 6, 2, 0, 0, [], [194]),
  (22, .getfield 105, 5, 11, 0, 0, [], [146]),
  (25, .iload_n 1, 1, 0, 0, 0, [], []),
  (26, .aload_n 0, 0, 0, 0, 0, [], []),
  (27, .iconst 0, 0, 0, 0, 0, [], []),
  (28, .bipush 60, 0, 0, 60, 0, [], []),
  (30, .invokevirtual 67, 56, 2, 0, 0, [], [411, 413, 3, 54, 414]),
  (33, .iastore, 0, 0, 0, 0, [], []),
  (34, .aload_n 0, 0, 0, 0, 0, [], []),
  (35, .getfield 18, 6, 2, 0, 0, [], [194]),
  (38, .getfield 108, 5, 12, 0, 0, [], [150]),
  (41, .iload_n 1, 1, 0, 0, 0, [], []),
  (42, .aload_n 0, 0, 0, 0, 0, [], []),
  (43, .aload_n 0, 0, 0, 0, 0, [], []),
  (44, .getfield 18, 6, 2, 0, 0, [], [194]),
  (47, .getfield 105, 5, 11, 0, 0, [], [146]),
  (50, .iload_n 1, 1, 0, 0, 0, [], []),
  (51, .iaload, 0, 0, 0, 0, [], []),
  (52, .iconst 1, 0, 0, 1, 0, [], []),
  (53, .iadd, 0, 0, 0, 0, [], []),
  (54, .bipush 99, 0, 0, 99, 0, [], []),
  (56, .invokevirtual 67, 56, 2, 0, 0, [], [411, 413, 3, 54, 414]),
  (59, .iastore, 0, 0, 0, 0, [], []),
  (60, .aload_n 0, 0, 0, 0, 0, [], []),
  (61, .getfield 18, 6, 2, 0, 0, [], [194]),
  (64, .getfield 111, 5, 13, 0, 0, [], [154]),
  (67, .iload_n 1, 1, 0, 0, 0, [], []),
  (68, .aload_n 0, 0, 0, 0, 0, [], []),
  (69, .iconst 1, 0, 0, 1, 0, [], []),
  (70, .bipush 48, 0, 0, 48, 0, [], []),
  (72, .invokevirtual 67, 56, 2, 0, 0, [], [411, 413, 3, 54, 414]),
  (75, .iastore, 0, 0, 0, 0, [], []),
  (76, .aload_n 0, 0, 0, 0, 0, [], []),
  (77, .getfield 18, 6, 2, 0, 0, [], [194]),
  (80, .getfield 114, 5, 14, 0, 0, [], [158]),
  (83, .iload_n 1, 1, 0, 0, 0, [], []),
  (84, .aload_n 0, 0, 0, 0, 0, [], []),
  (85, .iconst 1, 0, 0, 1, 0, [], []),
  (86, .bipush 99, 0, 0, 99, 0, [], []),
  (88, .invokevirtual 67, 56, 2, 0, 0, [], [411, 413, 3, 54, 414]),
  (91, .iastore, 0, 0, 0, 0, [], []),
  (92, .aload_n 0, 0, 0, 0, 0, [], []),
  (93, .getfield 18, 6, 2, 0, 0, [], [194]),
  (96, .dup, 0, 0, 0, 0, [], []),
  (97, .getfield 102, 5, 10, 0, 0, [], [142]),
  (100, .iconst 1, 0, 0, 1, 0, [], []),
  (101, .iadd, 0, 0, 0, 0, [], []),
  (102, .putfield 102, 5, 10, 0, 0, [], [142]),
  (105, .return_, 0, 0, 0, 0, [], [])]
def p_X6_takeNumber : List Row := [(0, .aload_n 0, 0, 0, 0, 0, [], []),
  (1, .invokevirtual 42, 59, 0, 0, 0, [], [390, 392, 0, 54, 393]),
  (4, .aload_n 0, 0, 0, 0, 0, [], []),
  (5, .getfield 45, 6, 4, 0, 0, [], [196]),
  (8, .bipush 48, 0, 0, 48, 0, [], []),
  (10, .if_icmp .ne 24, 17, 0, 0, 0, [], []),
  (13, .aload_n 0, 0, 0, 0, 0, [], []),
  (14, .getfield 117, 6, 6, 0, 0, [], [198]),
  (17, .iload_n 1, 1, 0, 0, 0, [], []),
  (18, .if_icmp .lt 16, 17, 0, 0, 0, [], []),
  (21, .aload_n 0, 0, 0, 0, 0, [], []),
  (22, .getfield 117, 6, 6, 0, 0, [], [198]),
  (25, .iload_n 2, 2, 0, 0, 0, [], []),
  (26, .if_icmp .gt 8, 17, 0, 0, 0, [], []),
  (29, .aload_n 0, 0, 0, 0, 0, [], []),
  (30, .getfield 117, 6, 6, 0, 0, [], [198]),
  (33, .ireturn, 0, 0, 0, 0, [], []),
  (34, .aload_n 0, 0, 0, 0, 0, [], []),
  (35, .invokevirtual 61, 58, 0, 0, 0, [], [415, 417, 4, 54, 418]),
  (38, .iload_n 1, 1, 0, 0, 0, [], []),
  (39, .ireturn, 0, 0, 0, 0, [], [])]
def p_X6_takeEndOfItem : List Row := [(0, .aload_n 0, 0, 0, 0, 0, [], []),
  (1, .invokevirtual 42, 59, 0, 0, 0, [], [390, 392, 0, 54, 393]),
  (4, .aload_n 0, 0, 0, 0, 0, [], []),
  (5, .getfield 45, 6, 4, 0, 0, [], [196]),
  (8, .bipush 59, 0, 0, 59, 0, [], []),
  (10, .if_icmp .eq 7, 8, 0, 0, 0, [], []),
  (13, .aload_n 0, 0, 0, 0, 0, [], []),
  (14, .invokevirtual 61, 58, 0, 0, 0, [], [415, 417, 4, 54, 418]),
  (17, .aload_n 0, 0, 0, 0, 0, [], []),
  (18, .invokevirtual 42, 59, 0, 0, 0, [], [390, 392, 0, 54, 393]),
  (21, .return_, 0, 0, 0, 0, [], [])]
def p_X6_refuseToken : List Row := [(0, .aload_n 0, 0, 0, 0, 0, [], []),
  (1, .getfield 36, 6, 7, 0, 0, [], [199]),
  (4, .iconst (-1), 0, 0, (-1), 0, [], []),
  (5, .if_icmp .ne 11, 8, 0, 0, 0, [], []),
  (8, .aload_n 0, 0, 0, 0, 0, [], []),
  (9, .aload_n 0, 0, 0, 0, 0, [], []),
  (10, .getfield 120, 6, 5, 0, 0, [], [197]),
  (13, .putfield 36, 6, 7, 0, 0, [], [199]),
  (16, .return_, 0, 0, 0, 0, [], [])]
def p_X6_takeToken : List Row := [(0, .aload_n 0, 0, 0, 0, 0, [], []),
  (1, .getfield 33, 6, 3, 0, 0, [], [195]),
  (4, .aload_n 0, 0, 0, 0, 0, [], []),
  (5, .getfield 22, 6, 1, 0, 0, [], [193]),
  (8, .if_icmp .ge 30, 19, 0, 0, 0, [], []),
  (11, .aload_n 0, 0, 0, 0, 0, [], []),
  (12, .getfield 9, 6, 0, 0, 0, [], [192]),
  (15, .aload_n 0, 0, 0, 0, 0, [], []),
  (16, .getfield 33, 6, 3, 0, 0, [], [195]),
  (19, .caload, 0, 0, 0, 0, [], []),
  (20, .bipush 32, 0, 0, 32, 0, [], []),
  (22, .if_icmp .ne 16, 19, 0, 0, 0, [], []),
  (25, .aload_n 0, 0, 0, 0, 0, [], []),
  (26, .dup, 0, 0, 0, 0, [], []),
  (27, .getfield 33, 6, 3, 0, 0, [], [195]),
  (30, .iconst 1, 0, 0, 1, 0, [], []),
  (31, .iadd, 0, 0, 0, 0, [], []),
  (32, .putfield 33, 6, 3, 0, 0, [], [195]),
  (35, .goto (-35), 0, 0, 0, 0, [], []),
  (38, .aload_n 0, 0, 0, 0, 0, [], []),
  (39, .aload_n 0, 0, 0, 0, 0, [], []),
  (40, .getfield 33, 6, 3, 0, 0, [], [195]),
  (43, .putfield 120, 6, 5, 0, 0, [], [197]),
  (46, .aload_n 0, 0, 0, 0, 0, [], []),
  (47, .getfield 33, 6, 3, 0, 0, [], [195]),
  (50, .aload_n 0, 0, 0, 0, 0, [], []),
  (51, .getfield 22, 6, 1, 0, 0, [], [193]),
  (54, .if_icmp .lt 12, 32, 0, 0, 0, [], []),
  (57, .aload_n 0, 0, 0, 0, 0, [], []),
  (58, .bipush 46, 0, 0, 46, 0, [], []),
  (60, .putfield 45, 6, 4, 0, 0, [], [196]),
  (63, .goto 68, 64, 0, 0, 0, [], []),
  (66, .aload_n 0, 0, 0, 0, 0, [], []),
  (67, .getfield 9, 6, 0, 0, 0, [], [192]),
  (70, .aload_n 0, 0, 0, 0, 0, [], []),
  (71, .getfield 33, 6, 3, 0, 0, [], [195]),
  (74, .caload, 0, 0, 0, 0, [], []),
  (75, .invokestatic 123, 61, 1, 0, 0, [], [394, 395, 54, 396]),
  (78, .ifCond .eq 10, 42, 0, 0, 0, [], []),
  (81, .aload_n 0, 0, 0, 0, 0, [], []),
  (82, .invokevirtual 127, 60, 0, 0, 0, [], [397, 399, 1, 54, 400]),
  (85, .goto 46, 64, 0, 0, 0, [], []),
  (88, .aload_n 0, 0, 0, 0, 0, [], []),
  (89, .aload_n 0, 0, 0, 0, 0, [], []),
  (90, .getfield 9, 6, 0, 0, 0, [], [192]),
  (93, .aload_n 0, 0, 0, 0, 0, [], []),
  (94, .getfield 33, 6, 3, 0, 0, [], [195]),
  (97, .caload, 0, 0, 0, 0, [], []),
  (98, .invokestatic 130, 62, 1, 0, 0, [], [404, 405, 54, 406]),
  (101, .ifCond .eq 15, 56, 0, 0, 0, [], []),
  (104, .aload_n 0, 0, 0, 0, 0, [], []),
  (105, .getfield 9, 6, 0, 0, 0, [], [192]),
  (108, .aload_n 0, 0, 0, 0, 0, [], []),
  (109, .getfield 33, 6, 3, 0, 0, [], [195]),
  (112, .caload, 0, 0, 0, 0, [], []),
  (113, .goto 5, 57, 0, 0, 0, [], []),
  (116, .bipush 63, 0, 0, 63, 0, [], []),
  (118, .putfield 45, 6, 4, 0, 0, [], [196]),
  (121, .aload_n 0, 0, 0, 0, 0, [], []),
  (122, .dup, 0, 0, 0, 0, [], []),
  (123, .getfield 33, 6, 3, 0, 0, [], [195]),
  (126, .iconst 1, 0, 0, 1, 0, [], []),
  (127, .iadd, 0, 0, 0, 0, [], []),
  (128, .putfield 33, 6, 3, 0, 0, [], [195]),
  (131, .return_, 0, 0, 0, 0, [], [])]
def p_X6_takeDigits : List Row := [(0, .aload_n 0, 0, 0, 0, 0, [], []),
  (1, .iconst 0, 0, 0, 0, 0, [], []),
  (2, .putfield 117, 6, 6, 0, 0, [], [198]),
  (5, .aload_n 0, 0, 0, 0, 0, [], []),
  (6, .getfield 33, 6, 3, 0, 0, [], [195]),
  (9, .aload_n 0, 0, 0, 0, 0, [], []),
  (10, .getfield 22, 6, 1, 0, 0, [], [193]),
  (13, .if_icmp .ge 60, 38, 0, 0, 0, [], []),
  (16, .aload_n 0, 0, 0, 0, 0, [], []),
  (17, .getfield 9, 6, 0, 0, 0, [], [192]),
  (20, .aload_n 0, 0, 0, 0, 0, [], []),
  (21, .getfield 33, 6, 3, 0, 0, [], [195]),
  (24, .caload, 0, 0, 0, 0, [], []),
  (25, .invokestatic 123, 61, 1, 0, 0, [], [394, 395, 54, 396]),
  (28, .ifCond .eq 45, 38, 0, 0, 0, [], []),
  (31, .aload_n 0, 0, 0, 0, 0, [], []),
  (32, .bipush 10, 0, 0, 10, 0, [], []),
  (34, .aload_n 0, 0, 0, 0, 0, [], []),
  (35, .getfield 117, 6, 6, 0, 0, [], [198]),
  (38, .imul, 0, 0, 0, 0, [], []),
  (39, .aload_n 0, 0, 0, 0, 0, [], []),
  (40, .getfield 9, 6, 0, 0, 0, [], [192]),
  (43, .aload_n 0, 0, 0, 0, 0, [], []),
  (44, .getfield 33, 6, 3, 0, 0, [], [195]),
  (47, .caload, 0, 0, 0, 0, [], []),
  (48, .iadd, 0, 0, 0, 0, [], []),
  (49, .bipush 48, 0, 0, 48, 0, [], []),
  (51, .isub, 0, 0, 0, 0, [], []),
  (52, .bipush 100, 0, 0, 100, 0, [], []),
  (54, .invokestatic 133, 186, 2, 0, 0, [], [401, 402, 63, 403]),
  (57, .putfield 117, 6, 6, 0, 0, [], [198]),
  (60, .aload_n 0, 0, 0, 0, 0, [], []),
  (61, .dup, 0, 0, 0, 0, [], []),
  (62, .getfield 33, 6, 3, 0, 0, [], [195]),
  (65, .iconst 1, 0, 0, 1, 0, [], []),
  (66, .iadd, 0, 0, 0, 0, [], []),
  (67, .putfield 33, 6, 3, 0, 0, [], [195]),
  (70, .goto (-65), 3, 0, 0, 0, [], []),
  (73, .aload_n 0, 0, 0, 0, 0, [], []),
  (74, .getfield 9, 6, 0, 0, 0, [], [192]),
  (77, .aload_n 0, 0, 0, 0, 0, [], []),
  (78, .getfield 120, 6, 5, 0, 0, [], [197]),
  (81, .caload, 0, 0, 0, 0, [], []),
  (82, .bipush 48, 0, 0, 48, 0, [], []),
  (84, .if_icmp .ne 20, 54, 0, 0, 0, [], []),
  (87, .aload_n 0, 0, 0, 0, 0, [], []),
  (88, .getfield 33, 6, 3, 0, 0, [], [195]),
  (91, .aload_n 0, 0, 0, 0, 0, [], []),
  (92, .getfield 120, 6, 5, 0, 0, [], [197]),
  (95, .isub, 0, 0, 0, 0, [], []),
  (96, .iconst 1, 0, 0, 1, 0, [], []),
  (97, .if_icmp .le 7, 54, 0, 0, 0, [], []),
  (100, .iconst 1, 0, 0, 1, 0, [], []),
  (101, .goto 4, 55, 0, 0, 0, [], []),
  (104, .iconst 0, 0, 0, 0, 0, [], []),
  (105, .istore_n 1, 1, 0, 0, 0, [], []),
  (106, .aload_n 0, 0, 0, 0, 0, [], []),
  (107, .iload_n 1, 1, 0, 0, 0, [], []),
  (108, .ifCond .ne 12, 63, 0, 0, 0, [], []),
  (111, .aload_n 0, 0, 0, 0, 0, [], []),
  (112, .getfield 117, 6, 6, 0, 0, [], [198]),
  (115, .bipush 99, 0, 0, 99, 0, [], []),
  (117, .if_icmp .le 8, 65, 0, 0, 0, [], []),
  (120, .bipush 63, 0, 0, 63, 0, [], []),
  (122, .goto 5, 66, 0, 0, 0, [], []),
  (125, .bipush 48, 0, 0, 48, 0, [], []),
  (127, .putfield 45, 6, 4, 0, 0, [], [196]),
  (130, .return_, 0, 0, 0, 0, [], [])]
def p_X6_isDigit : List Row := [(0, .iload_n 0, 0, 0, 0, 0, [], []),
  (1, .bipush 48, 0, 0, 48, 0, [], []),
  (3, .if_icmp .lt 13, 8, 0, 0, 0, [], []),
  (6, .iload_n 0, 0, 0, 0, 0, [], []),
  (7, .bipush 57, 0, 0, 57, 0, [], []),
  (9, .if_icmp .gt 7, 8, 0, 0, 0, [], []),
  (12, .iconst 1, 0, 0, 1, 0, [], []),
  (13, .goto 4, 9, 0, 0, 0, [], []),
  (16, .iconst 0, 0, 0, 0, 0, [], []),
  (17, .ireturn, 0, 0, 0, 0, [], [])]
def p_X6_isOwnToken : List Row := [(0, .iload_n 0, 0, 0, 0, 0, [], []),
  (1, .bipush 107, 0, 0, 107, 0, [], []),
  (3, .if_icmp .eq 27, 15, 0, 0, 0, [], []),
  (6, .iload_n 0, 0, 0, 0, 0, [], []),
  (7, .bipush 116, 0, 0, 116, 0, [], []),
  (9, .if_icmp .eq 21, 15, 0, 0, 0, [], []),
  (12, .iload_n 0, 0, 0, 0, 0, [], []),
  (13, .bipush 112, 0, 0, 112, 0, [], []),
  (15, .if_icmp .eq 15, 15, 0, 0, 0, [], []),
  (18, .iload_n 0, 0, 0, 0, 0, [], []),
  (19, .bipush 100, 0, 0, 100, 0, [], []),
  (21, .if_icmp .eq 9, 15, 0, 0, 0, [], []),
  (24, .iload_n 0, 0, 0, 0, 0, [], []),
  (25, .bipush 59, 0, 0, 59, 0, [], []),
  (27, .if_icmp .ne 7, 17, 0, 0, 0, [], []),
  (30, .iconst 1, 0, 0, 1, 0, [], []),
  (31, .goto 4, 18, 0, 0, 0, [], []),
  (34, .iconst 0, 0, 0, 0, 0, [], []),
  (35, .ireturn, 0, 0, 0, 0, [], [])]
def p_X7_init : List Row := [(0, .aload_n 0, 0, 0, 0, 0, [], []),
  (1, .invokespecial 3, 901, 0, 0, 0, [], [289, 73, 74]),
  (4, .aload_n 0, 0, 0, 0, 0, [], []),
  (5, .bipush 6, 0, 0, 6, 0, [], []),
  (7, .newarray .int, 0, 0, 0, 0, [], [191]),
  (9, .putfield 9, 7, 0, 0, 0, [], [290]),
  (12, .aload_n 0, 0, 0, 0, 0, [], []),
  (13, .bipush 6, 0, 0, 6, 0, [], []),
  (15, .newarray .boolean, 1, 0, 0, 0, [], [300]),
  (17, .putfield 15, 7, 1, 0, 0, [], [291]),
  (20, .return_, 0, 0, 0, 0, [], [])]
def p_X7_size : List Row := [(0, .aload_n 0, 0, 0, 0, 0, [], []),
  (1, .getfield 19, 7, 2, 0, 0, [], [292]),
  (4, .ireturn, 0, 0, 0, 0, [], [])]
def p_X7_isFull : List Row := [(0, .aload_n 0, 0, 0, 0, 0, [], []),
  (1, .getfield 19, 7, 2, 0, 0, [], [292]),
  (4, .bipush 6, 0, 0, 6, 0, [], []),
  (6, .if_icmp .lt 7, 6, 0, 0, 0, [], []),
  (9, .iconst 1, 0, 0, 1, 0, [], []),
  (10, .goto 4, 7, 0, 0, 0, [], []),
  (13, .iconst 0, 0, 0, 0, 0, [], []),
  (14, .ireturn, 0, 0, 0, 0, [], [])]
def p_X7_loseAll : List Row := [(0, .aload_n 0, 0, 0, 0, 0, [], []),
  (1, .iconst 0, 0, 0, 0, 0, [], []),
  (2, .putfield 19, 7, 2, 0, 0, [], [292]),
  (5, .return_, 0, 0, 0, 0, [], [])]
def p_X7_add : List Row := [(0, .aload_n 0, 0, 0, 0, 0, [], []),
  (1, .invokevirtual 23, 65, 0, 0, 0, [], [616, 609, 610, 59, 611]),
  (4, .ifCond .ne 33, 21, 0, 0, 0, [], []),
  (7, .aload_n 0, 0, 0, 0, 0, [], []),
  (8, .getfield 9, 7, 0, 0, 0, [], [290]),
  (11, .aload_n 0, 0, 0, 0, 0, [], []),
  (12, .getfield 19, 7, 2, 0, 0, [], [292]),
  (15, .iload_n 1, 1, 0, 0, 0, [], []),
  (16, .iastore, 0, 0, 0, 0, [], []),
  (17, .aload_n 0, 0, 0, 0, 0, [], []),
  (18, .getfield 15, 7, 1, 0, 0, [], [291]),
  (21, .aload_n 0, 0, 0, 0, 0, [], []),
  (22, .getfield 19, 7, 2, 0, 0, [], [292]),
  (25, .iload_n 2, 2, 0, 0, 0, [], []),
  (26, .bastore, 0, 0, 0, 0, [], []),
  (27, .aload_n 0, 0, 0, 0, 0, [], []),
  (28, .dup, 0, 0, 0, 0, [], []),
  (29, .getfield 19, 7, 2, 0, 0, [], [292]),
  (32, .iconst 1, 0, 0, 1, 0, [], []),
  (33, .iadd, 0, 0, 0, 0, [], []),
  (34, .putfield 19, 7, 2, 0, 0, [], [292]),
  (37, .return_, 0, 0, 0, 0, [], [])]
def p_X7_allow : List Row := [(0, .iconst 0, 0, 0, 0, 0, [], []),
  (1, .istore 4, 4, 0, 0, 0, [], []),
  (3, .iload 4, 4, 0, 0, 0, [], []),
  (5, .aload_n 0, 0, 0, 0, 0, [], []),
  (6, .getfield 19, 7, 2, 0, 0, [], [292]),
  (9, .if_icmp .ge 34, 23, 0, 0, 0, [], []),
  (12, .aload_n 1, 1, 0, 0, 0, [], []),
  (13, .aload_n 0, 0, 0, 0, 0, [], []),
  (14, .getfield 9, 7, 0, 0, 0, [], [290]),
  (17, .iload 4, 4, 0, 0, 0, [], []),
  (19, .iaload, 0, 0, 0, 0, [], []),
  (20, .iload_n 2, 2, 0, 0, 0, [], []),
  (21, .iload_n 3, 3, 0, 0, 0, [], []),
  (22, .invokevirtual 27, 17, 3, 0, 0, [], [640, 641, 642, 56, 643]),
  (25, .aload_n 0, 0, 0, 0, 0, [], []),
  (26, .getfield 15, 7, 1, 0, 0, [], [291]),
  (29, .iload 4, 4, 0, 0, 0, [], []),
  (31, .baload, 0, 0, 0, 0, [], []),
  (32, .if_icmp .eq 5, 21, 0, 0, 0, [], []),
  (35, .iconst 0, 0, 0, 0, 0, [], []),
  (36, .ireturn, 0, 0, 0, 0, [], []),
  (37, .iinc 4 1, 4, 0, 1, 0, [], []),
  (40, .goto (-37), 2, 0, 0, 0, [], []),
  (43, .iconst 1, 0, 0, 1, 0, [], []),
  (44, .ireturn, 0, 0, 0, 0, [], [])]
def p_X7_scalesLeft : List Row := [(0, .iconst 0, 0, 0, 0, 0, [], []),
  (1, .istore_n 3, 3, 0, 0, 0, [], []),
  (2, .iconst 1, 0, 0, 1, 0, [], []),
  (3, .istore 4, 4, 0, 0, 0, [], []),
  (5, .iload 4, 4, 0, 0, 0, [], []),
  (7, .bipush 48, 0, 0, 48, 0, [], []),
  (9, .if_icmp .gt 23, 16, 0, 0, 0, [], []),
  (12, .aload_n 0, 0, 0, 0, 0, [], []),
  (13, .aload_n 1, 1, 0, 0, 0, [], []),
  (14, .iload_n 2, 2, 0, 0, 0, [], []),
  (15, .iload 4, 4, 0, 0, 0, [], []),
  (17, .invokevirtual 33, 68, 3, 0, 0, [], [636, 638, 12, 59, 639]),
  (20, .ifCond .eq 6, 14, 0, 0, 0, [], []),
  (23, .iinc 3 1, 3, 0, 1, 0, [], []),
  (26, .iinc 4 1, 4, 0, 1, 0, [], []),
  (29, .goto (-24), 4, 0, 0, 0, [], []),
  (32, .iload_n 3, 3, 0, 0, 0, [], []),
  (33, .ireturn, 0, 0, 0, 0, [], [])]
def p_X7_leastScale : List Row := [(0, .iconst 1, 0, 0, 1, 0, [], []),
  (1, .istore_n 3, 3, 0, 0, 0, [], []),
  (2, .iload_n 3, 3, 0, 0, 0, [], []),
  (3, .bipush 48, 0, 0, 48, 0, [], []),
  (5, .if_icmp .gt 21, 15, 0, 0, 0, [], []),
  (8, .aload_n 0, 0, 0, 0, 0, [], []),
  (9, .aload_n 1, 1, 0, 0, 0, [], []),
  (10, .iload_n 2, 2, 0, 0, 0, [], []),
  (11, .iload_n 3, 3, 0, 0, 0, [], []),
  (12, .invokevirtual 33, 68, 3, 0, 0, [], [636, 638, 12, 59, 639]),
  (15, .ifCond .eq 5, 13, 0, 0, 0, [], []),
  (18, .iload_n 3, 3, 0, 0, 0, [], []),
  (19, .ireturn, 0, 0, 0, 0, [], []),
  (20, .iinc 3 1, 3, 0, 1, 0, [], []),
  (23, .goto (-21), 2, 0, 0, 0, [], []),
  (26, .bipush (-9), 0, 0, (-9), 0, [], []),
  (28, .ireturn, 0, 0, 0, 0, [], [])]
def p_X7_leftAtWorst : List Row := [(0, .iconst 0, 0, 0, 0, 0, [], []),
  (1, .istore 4, 4, 0, 0, 0, [], []),
  (3, .iconst 0, 0, 0, 0, 0, [], []),
  (4, .istore 5, 5, 0, 0, 0, [], []),
  (6, .iconst 1, 0, 0, 1, 0, [], []),
  (7, .istore 6, 6, 0, 0, 0, [], []),
  (9, .iload 6, 6, 0, 0, 0, [], []),
  (11, .bipush 48, 0, 0, 48, 0, [], []),
  (13, .if_icmp .gt 40, 26, 0, 0, 0, [], []),
  (16, .aload_n 0, 0, 0, 0, 0, [], []),
  (17, .aload_n 1, 1, 0, 0, 0, [], []),
  (18, .iload_n 2, 2, 0, 0, 0, [], []),
  (19, .iload 6, 6, 0, 0, 0, [], []),
  (21, .invokevirtual 33, 68, 3, 0, 0, [], [636, 638, 12, 59, 639]),
  (24, .ifCond .eq 23, 24, 0, 0, 0, [], []),
  (27, .aload_n 1, 1, 0, 0, 0, [], []),
  (28, .iload_n 3, 3, 0, 0, 0, [], []),
  (29, .iload_n 2, 2, 0, 0, 0, [], []),
  (30, .iload 6, 6, 0, 0, 0, [], []),
  (32, .invokevirtual 27, 17, 3, 0, 0, [], [640, 641, 642, 56, 643]),
  (35, .ifCond .eq 9, 23, 0, 0, 0, [], []),
  (38, .iinc 4 1, 4, 0, 1, 0, [], []),
  (41, .goto 6, 24, 0, 0, 0, [], []),
  (44, .iinc 5 1, 5, 0, 1, 0, [], []),
  (47, .iinc 6 1, 6, 0, 1, 0, [], []),
  (50, .goto (-41), 6, 0, 0, 0, [], []),
  (53, .iload 4, 4, 0, 0, 0, [], []),
  (55, .iload 5, 5, 0, 0, 0, [], []),
  (57, .invokestatic 37, 185, 2, 0, 0, [], [660, 661, 63, 662]),
  (60, .ireturn, 0, 0, 0, 0, [], [])]
def p_X7_bestToTry : List Row := [(0, .bipush (-9), 0, 0, (-9), 0, [], []),
  (2, .istore_n 3, 3, 0, 0, 0, [], []),
  (3, .bipush 49, 0, 0, 49, 0, [], []),
  (5, .istore 4, 4, 0, 0, 0, [], []),
  (7, .iconst 0, 0, 0, 0, 0, [], []),
  (8, .istore 5, 5, 0, 0, 0, [], []),
  (10, .iload 5, 5, 0, 0, 0, [], []),
  (12, .aload_n 1, 1, 0, 0, 0, [], []),
  (13, .getfield 43, 2, 0, 0, 0, [], [255]),
  (16, .getfield 47, 5, 2, 0, 0, [], [108]),
  (19, .if_icmp .ge 33, 26, 0, 0, 0, [], []),
  (22, .aload_n 0, 0, 0, 0, 0, [], []),
  (23, .aload_n 1, 1, 0, 0, 0, [], []),
  (24, .iload_n 2, 2, 0, 0, 0, [], []),
  (25, .iload 5, 5, 0, 0, 0, [], []),
  (27, .invokevirtual 52, 71, 3, 0, 0, [], [656, 657, 658, 59, 659]),
  (30, .istore 6, 6, 0, 0, 0, [], []),
  (32, .iload 6, 6, 0, 0, 0, [], []),
  (34, .iload 4, 4, 0, 0, 0, [], []),
  (36, .if_icmp .ge 10, 24, 0, 0, 0, [], []),
  (39, .iload 5, 5, 0, 0, 0, [], []),
  (41, .istore_n 3, 3, 0, 0, 0, [], []),
  (42, .iload 6, 6, 0, 0, 0, [], []),
  (44, .istore 4, 4, 0, 0, 0, [], []),
  (46, .iinc 5 1, 5, 0, 1, 0, [], []),
  (49, .goto (-39), 6, 0, 0, 0, [], []),
  (52, .iload_n 3, 3, 0, 0, 0, [], []),
  (53, .ireturn, 0, 0, 0, 0, [], [])]
def p_X8_init : List Row := [(0, .aload_n 0, 0, 0, 0, 0, [], []),
  (1, .invokespecial 1, 901, 0, 0, 0, [], [72, 73, 74]),
  (4, .aload_n 0, 0, 0, 0, 0, [], []),
  (5, .new 7, 6, 9, 0, 0, [], [75, 76, 54]),
  (8, .dup, 0, 0, 0, 0, [], []),
  (9, .invokespecial 9, 44, 0, 1, 0, [], [77, 78, 54, 79]),
  (12, .putfield 10, 8, 0, 0, 0, [], [325]),
  (15, .aload_n 0, 0, 0, 0, 0, [], []),
  (16, .new 16, 2, 2, 0, 0, [], [220, 221, 56]),
  (19, .dup, 0, 0, 0, 0, [], []),
  (20, .invokespecial 18, 13, 0, 1, 0, [], [222, 223, 56, 224]),
  (23, .putfield 19, 8, 1, 0, 0, [], [326]),
  (26, .aload_n 0, 0, 0, 0, 0, [], []),
  (27, .new 23, 1, 3, 0, 0, [], [264, 265, 58]),
  (30, .dup, 0, 0, 0, 0, [], []),
  (31, .invokespecial 25, 8, 0, 0, 0, [], [266, 267, 58, 268]),
  (34, .putfield 26, 8, 2, 0, 0, [], [327]),
  (37, .aload_n 0, 0, 0, 0, 0, [], []),
  (38, .iconst 2, 0, 0, 2, 0, [], []),
  (39, .anewarray 30, 3, 0, 0, 0, [], [283, 271]),
  (42, .putfield 32, 8, 3, 0, 0, [], [328]),
  (45, .aload_n 0, 0, 0, 0, 0, [], []),
  (46, .iconst 2, 0, 0, 2, 0, [], []),
  (47, .newarray .boolean, 1, 0, 0, 0, [], [300]),
  (49, .putfield 36, 8, 4, 0, 0, [], [329]),
  (52, .aload_n 0, 0, 0, 0, 0, [], []),
  (53, .new 40, 7, 3, 0, 0, [], [284, 285, 59]),
  (56, .dup, 0, 0, 0, 0, [], []),
  (57, .invokespecial 42, 63, 0, 1, 0, [], [286, 287, 59, 288]),
  (60, .putfield 43, 8, 5, 0, 0, [], [330]),
  (63, .aload_n 0, 0, 0, 0, 0, [], []),
  (64, .new 47, 3, 1, 0, 0, [], [301, 302, 60]),
  (67, .dup, 0, 0, 0, 0, [], []),
  (68, .invokespecial 49, 34, 0, 1, 0, [], [303, 304, 60, 305]),
  (71, .putfield 50, 8, 6, 0, 0, [], [331]),
  (74, .aload_n 0, 0, 0, 0, 0, [], []),
  (75, .new 54, 0, 2, 0, 0, [], [311, 312, 61]),
  (78, .dup, 0, 0, 0, 0, [], []),
  (79, .invokespecial 56, 0, 0, 1, 0, [], [313, 314, 61, 315]),
  (82, .putfield 57, 8, 7, 0, 0, [], [332]),
  (85, .aload_n 0, 0, 0, 0, 0, [], []),
  (86, .bipush 49, 0, 0, 49, 0, [], []),
  (88, .newarray .int, 0, 0, 0, 0, [], [191]),
  (90, .putfield 61, 8, 8, 0, 0, [], [333]),
  (93, .iconst 0, 0, 0, 0, 0, [], []),
  (94, .istore_n 1, 1, 0, 0, 0, [], []),
  (95, .iload_n 1, 1, 0, 0, 0, [], []),
  (96, .iconst 2, 0, 0, 2, 0, [], []),
  (97, .if_icmp .ge 22, 58, 0, 0, 0, [], []),
  (100, .aload_n 0, 0, 0, 0, 0, [], []),
  (101, .getfield 32, 8, 3, 0, 0, [], [328]),
  (104, .iload_n 1, 1, 0, 0, 0, [], []),
  (105, .new 30, 4, 3, 0, 0, [], [283, 229, 57]),
  (108, .dup, 0, 0, 0, 0, [], []),
  (109, .invokespecial 65, 39, 0, 1, 0, [], [324, 231, 57, 232]),
  (112, .aastore, 0, 0, 0, 0, [], []),
  (113, .iinc 1 1, 1, 0, 1, 0, [], []),
  (116, .goto (-21), 46, 0, 0, 0, [], []),
  (119, .return_, 0, 0, 0, 0, [], [])]
def p_X8_type : List Row := [(0, .iload_n 1, 1, 0, 0, 0, [], []),
  (1, .ifCond .lt 10, 5, 0, 0, 0, [], []),
  (4, .iload_n 1, 1, 0, 0, 0, [], []),
  (5, .sipush 255, 0, 0, 255, 0, [], []),
  (8, .if_icmp .le 5, 7, 0, 0, 0, [], []),
  (11, .iconst (-1), 0, 0, (-1), 0, [], []),
  (12, .ireturn, 0, 0, 0, 0, [], []),
  (13, .aload_n 0, 0, 0, 0, 0, [], []),
  (14, .getfield 10, 8, 0, 0, 0, [], [325]),
  (17, .invokevirtual 66, 46, 0, 0, 0, [], [360, 361, 362, 54, 363]),
  (20, .ifCond .eq 6, 13, 0, 0, 0, [], []),
  (23, .bipush (-3), 0, 0, (-3), 0, [], []),
  (25, .ireturn, 0, 0, 0, 0, [], []),
  (26, .aload_n 0, 0, 0, 0, 0, [], []),
  (27, .getfield 10, 8, 0, 0, 0, [], [325]),
  (30, .iload_n 1, 1, 0, 0, 0, [], []),
  (31, .i2c, 0, 0, 0, 0, [], []),
  (32, .invokevirtual 70, 47, 1, 0, 0, [], [364, 365, 366, 54, 367]),
  (35, .aload_n 0, 0, 0, 0, 0, [], []),
  (36, .getfield 10, 8, 0, 0, 0, [], [325]),
  (39, .invokevirtual 74, 45, 0, 0, 0, [], [369, 370, 371, 54, 372]),
  (42, .ireturn, 0, 0, 0, 0, [], [])]
def p_X8_clear : List Row := [(0, .aload_n 0, 0, 0, 0, 0, [], []),
  (1, .getfield 10, 8, 0, 0, 0, [], [325]),
  (4, .invokevirtual 74, 45, 0, 0, 0, [], [369, 370, 371, 54, 372]),
  (7, .istore_n 1, 1, 0, 0, 0, [], []),
  (8, .aload_n 0, 0, 0, 0, 0, [], []),
  (9, .getfield 10, 8, 0, 0, 0, [], [325]),
  (12, .invokevirtual 78, 48, 0, 0, 0, [], [377, 378, 379, 54, 380]),
  (15, .iload_n 1, 1, 0, 0, 0, [], []),
  (16, .ireturn, 0, 0, 0, 0, [], [])]
def p_X8_house : List Row := [(0, .aload_n 0, 0, 0, 0, 0, [], []),
  (1, .getfield 10, 8, 0, 0, 0, [], [325]),
  (4, .invokevirtual 81, 49, 0, 0, 0, [], [385, 386, 387, 54, 388]),
  (7, .istore_n 1, 1, 0, 0, 0, [], []),
  (8, .iload_n 1, 1, 0, 0, 0, [], []),
  (9, .iconst (-1), 0, 0, (-1), 0, [], []),
  (10, .if_icmp .eq 8, 11, 0, 0, 0, [], []),
  (13, .bipush (-10), 0, 0, (-10), 0, [], []),
  (15, .iload_n 1, 1, 0, 0, 0, [], []),
  (16, .isub, 0, 0, 0, 0, [], []),
  (17, .ireturn, 0, 0, 0, 0, [], []),
  (18, .aload_n 0, 0, 0, 0, 0, [], []),
  (19, .getfield 19, 8, 1, 0, 0, [], [326]),
  (22, .aload_n 0, 0, 0, 0, 0, [], []),
  (23, .getfield 10, 8, 0, 0, 0, [], [325]),
  (26, .aload_n 0, 0, 0, 0, 0, [], []),
  (27, .getfield 19, 8, 1, 0, 0, [], [326]),
  (30, .getfield 84, 2, 0, 0, 0, [], [254]),
  (33, .invokevirtual 88, 51, 1, 0, 0, [], [435, 436, 437, 54, 438]),
  (36, .putfield 84, 2, 0, 0, 0, [], [254]),
  (39, .aload_n 0, 0, 0, 0, 0, [], []),
  (40, .getfield 19, 8, 1, 0, 0, [], [326]),
  (43, .getfield 92, 2, 1, 0, 0, [], [257]),
  (46, .aload_n 0, 0, 0, 0, 0, [], []),
  (47, .getfield 19, 8, 1, 0, 0, [], [326]),
  (50, .getfield 84, 2, 0, 0, 0, [], [254]),
  (53, .invokevirtual 96, 40, 1, 0, 0, [], [439, 440, 441, 57, 442]),
  (56, .aload_n 0, 0, 0, 0, 0, [], []),
  (57, .getfield 26, 8, 2, 0, 0, [], [327]),
  (60, .invokevirtual 100, 10, 0, 0, 0, [], [449, 450, 451, 58, 452]),
  (63, .aload_n 0, 0, 0, 0, 0, [], []),
  (64, .getfield 43, 8, 5, 0, 0, [], [330]),
  (67, .invokevirtual 101, 66, 0, 0, 0, [], [453, 454, 455, 59, 456]),
  (70, .iconst 0, 0, 0, 0, 0, [], []),
  (71, .istore_n 2, 2, 0, 0, 0, [], []),
  (72, .iload_n 2, 2, 0, 0, 0, [], []),
  (73, .iconst 2, 0, 0, 2, 0, [], []),
  (74, .if_icmp .ge 16, 45, 0, 0, 0, [], []),
  (77, .aload_n 0, 0, 0, 0, 0, [], []),
  (78, .getfield 36, 8, 4, 0, 0, [], [329]),
  (81, .iload_n 2, 2, 0, 0, 0, [], []),
  (82, .iconst 0, 0, 0, 0, 0, [], []),
  (83, .bastore, 0, 0, 0, 0, [], []),
  (84, .iinc 2 1, 2, 0, 1, 0, [], []),
  (87, .goto (-15), 35, 0, 0, 0, [], []),
  (90, .aload_n 0, 0, 0, 0, 0, [], []),
  (91, .getfield 10, 8, 0, 0, 0, [], [325]),
  (94, .invokevirtual 78, 48, 0, 0, 0, [], [377, 378, 379, 54, 380]),
  (97, .aload_n 0, 0, 0, 0, 0, [], []),
  (98, .getfield 10, 8, 0, 0, 0, [], [325]),
  (101, .invokevirtual 102, 50, 0, 0, 0, [], [457, 458, 459, 54, 460]),
  (104, .ireturn, 0, 0, 0, 0, [], [])]
def p_X8_use : List Row := [(0, .iload_n 1, 1, 0, 0, 0, [], []),
  (1, .invokestatic 105, 112, 1, 0, 0, [], [465, 466, 53, 467]),
  (4, .ifCond .ne 5, 5, 0, 0, 0, [], []),
  (7, .iconst (-1), 0, 0, (-1), 0, [], []),
  (8, .ireturn, 0, 0, 0, 0, [], []),
  (9, .iload_n 2, 2, 0, 0, 0, [], []),
  (10, .lookupswitch 52 #[(0, 26), (1, 39)], 21, 26, 0, 0, [(0, 7), (1, 14)], []),
  (36, .aload_n 0, 0, 0, 0, 0, [], []),
  (37, .getfield 19, 8, 1, 0, 0, [], [326]),
  (40, .getfield 84, 2, 0, 0, 0, [], [254]),
  (43, .getfield 109, 5, 0, 0, 0, [], [96]),
  (46, .iload_n 1, 1, 0, 0, 0, [], []),
  (47, .iaload, 0, 0, 0, 0, [], []),
  (48, .ireturn, 0, 0, 0, 0, [], []),
  (49, .aload_n 0, 0, 0, 0, 0, [], []),
  (50, .getfield 19, 8, 1, 0, 0, [], [326]),
  (53, .getfield 84, 2, 0, 0, 0, [], [254]),
  (56, .getfield 114, 5, 1, 0, 0, [], [100]),
  (59, .iload_n 1, 1, 0, 0, 0, [], []),
  (60, .iaload, 0, 0, 0, 0, [], []),
  (61, .ireturn, 0, 0, 0, 0, [], []),
  (62, .iconst (-1), 0, 0, (-1), 0, [], []),
  (63, .ireturn, 0, 0, 0, 0, [], [])]
def p_X8_thing : List Row := [(0, .aload_n 0, 0, 0, 0, 0, [], []),
  (1, .getfield 19, 8, 1, 0, 0, [], [326]),
  (4, .iload_n 1, 1, 0, 0, 0, [], []),
  (5, .invokevirtual 117, 14, 1, 0, 0, [], [472, 473, 474, 56, 475]),
  (8, .ifCond .ne 5, 7, 0, 0, 0, [], []),
  (11, .iconst (-1), 0, 0, (-1), 0, [], []),
  (12, .ireturn, 0, 0, 0, 0, [], []),
  (13, .iload_n 2, 2, 0, 0, 0, [], []),
  (14, .tableswitch 112 0 5 #[38, 51, 64, 77, 90, 103], 49, 38, 0, 0, [(0, 9), (1, 16), (2, 23), (3, 30), (4, 37), (5, 44)], []),
  (52, .aload_n 0, 0, 0, 0, 0, [], []),
  (53, .getfield 19, 8, 1, 0, 0, [], [326]),
  (56, .getfield 84, 2, 0, 0, 0, [], [254]),
  (59, .getfield 120, 5, 3, 0, 0, [], [113]),
  (62, .iload_n 1, 1, 0, 0, 0, [], []),
  (63, .iaload, 0, 0, 0, 0, [], []),
  (64, .ireturn, 0, 0, 0, 0, [], []),
  (65, .aload_n 0, 0, 0, 0, 0, [], []),
  (66, .getfield 19, 8, 1, 0, 0, [], [326]),
  (69, .getfield 92, 2, 1, 0, 0, [], [257]),
  (72, .getfield 123, 4, 1, 0, 0, [], [239]),
  (75, .iload_n 1, 1, 0, 0, 0, [], []),
  (76, .iaload, 0, 0, 0, 0, [], []),
  (77, .ireturn, 0, 0, 0, 0, [], []),
  (78, .aload_n 0, 0, 0, 0, 0, [], []),
  (79, .getfield 19, 8, 1, 0, 0, [], [326]),
  (82, .getfield 84, 2, 0, 0, 0, [], [254]),
  (85, .getfield 126, 5, 5, 0, 0, [], [120]),
  (88, .iload_n 1, 1, 0, 0, 0, [], []),
  (89, .iaload, 0, 0, 0, 0, [], []),
  (90, .ireturn, 0, 0, 0, 0, [], []),
  (91, .aload_n 0, 0, 0, 0, 0, [], []),
  (92, .getfield 19, 8, 1, 0, 0, [], [326]),
  (95, .getfield 84, 2, 0, 0, 0, [], [254]),
  (98, .getfield 129, 5, 6, 0, 0, [], [125]),
  (101, .iload_n 1, 1, 0, 0, 0, [], []),
  (102, .iaload, 0, 0, 0, 0, [], []),
  (103, .ireturn, 0, 0, 0, 0, [], []),
  (104, .aload_n 0, 0, 0, 0, 0, [], []),
  (105, .getfield 19, 8, 1, 0, 0, [], [326]),
  (108, .getfield 92, 2, 1, 0, 0, [], [257]),
  (111, .getfield 132, 4, 0, 0, 0, [], [235]),
  (114, .iload_n 1, 1, 0, 0, 0, [], []),
  (115, .iaload, 0, 0, 0, 0, [], []),
  (116, .ireturn, 0, 0, 0, 0, [], []),
  (117, .aload_n 0, 0, 0, 0, 0, [], []),
  (118, .getfield 19, 8, 1, 0, 0, [], [326]),
  (121, .iload_n 1, 1, 0, 0, 0, [], []),
  (122, .invokevirtual 135, 19, 1, 0, 0, [], [476, 477, 478, 56, 479]),
  (125, .ireturn, 0, 0, 0, 0, [], []),
  (126, .iconst (-1), 0, 0, (-1), 0, [], []),
  (127, .ireturn, 0, 0, 0, 0, [], [])]
def p_X8_person : List Row := [(0, .aload_n 0, 0, 0, 0, 0, [], []),
  (1, .getfield 19, 8, 1, 0, 0, [], [326]),
  (4, .iload_n 1, 1, 0, 0, 0, [], []),
  (5, .invokevirtual 139, 15, 1, 0, 0, [], [492, 493, 494, 56, 495]),
  (8, .ifCond .ne 5, 7, 0, 0, 0, [], []),
  (11, .iconst (-1), 0, 0, (-1), 0, [], []),
  (12, .ireturn, 0, 0, 0, 0, [], []),
  (13, .iload_n 2, 2, 0, 0, 0, [], []),
  (14, .tableswitch 74 0 3 #[30, 43, 56, 65], 33, 30, 0, 0, [(0, 9), (1, 16), (2, 23), (3, 28)], []),
  (44, .aload_n 0, 0, 0, 0, 0, [], []),
  (45, .getfield 19, 8, 1, 0, 0, [], [326]),
  (48, .getfield 92, 2, 1, 0, 0, [], [257]),
  (51, .getfield 142, 4, 2, 0, 0, [], [243]),
  (54, .iload_n 1, 1, 0, 0, 0, [], []),
  (55, .iaload, 0, 0, 0, 0, [], []),
  (56, .ireturn, 0, 0, 0, 0, [], []),
  (57, .aload_n 0, 0, 0, 0, 0, [], []),
  (58, .getfield 19, 8, 1, 0, 0, [], [326]),
  (61, .getfield 84, 2, 0, 0, 0, [], [254]),
  (64, .getfield 145, 5, 9, 0, 0, [], [137]),
  (67, .iload_n 1, 1, 0, 0, 0, [], []),
  (68, .iaload, 0, 0, 0, 0, [], []),
  (69, .ireturn, 0, 0, 0, 0, [], []),
  (70, .aload_n 0, 0, 0, 0, 0, [], []),
  (71, .getfield 19, 8, 1, 0, 0, [], [326]),
  (74, .iload_n 1, 1, 0, 0, 0, [], []),
  (75, .invokevirtual 148, 22, 1, 0, 0, [], [496, 497, 498, 56, 499]),
  (78, .ireturn, 0, 0, 0, 0, [], []),
  (79, .aload_n 0, 0, 0, 0, 0, [], []),
  (80, .getfield 19, 8, 1, 0, 0, [], [326]),
  (83, .iload_n 1, 1, 0, 0, 0, [], []),
  (84, .invokevirtual 151, 29, 1, 0, 0, [], [500, 501, 502, 56, 503]),
  (87, .ireturn, 0, 0, 0, 0, [], []),
  (88, .iconst (-1), 0, 0, (-1), 0, [], []),
  (89, .ireturn, 0, 0, 0, 0, [], [])]
def p_X8_door : List Row := [(0, .iload_n 1, 1, 0, 0, 0, [], []),
  (1, .ifCond .lt 17, 8, 0, 0, 0, [], []),
  (4, .iload_n 1, 1, 0, 0, 0, [], []),
  (5, .aload_n 0, 0, 0, 0, 0, [], []),
  (6, .getfield 19, 8, 1, 0, 0, [], [326]),
  (9, .getfield 84, 2, 0, 0, 0, [], [254]),
  (12, .getfield 154, 5, 10, 0, 0, [], [141]),
  (15, .if_icmp .lt 5, 10, 0, 0, 0, [], []),
  (18, .iconst (-1), 0, 0, (-1), 0, [], []),
  (19, .ireturn, 0, 0, 0, 0, [], []),
  (20, .iload_n 2, 2, 0, 0, 0, [], []),
  (21, .tableswitch 83 0 3 #[31, 44, 57, 70], 40, 31, 0, 0, [(0, 12), (1, 19), (2, 26), (3, 33)], []),
  (52, .aload_n 0, 0, 0, 0, 0, [], []),
  (53, .getfield 19, 8, 1, 0, 0, [], [326]),
  (56, .getfield 84, 2, 0, 0, 0, [], [254]),
  (59, .getfield 158, 5, 11, 0, 0, [], [145]),
  (62, .iload_n 1, 1, 0, 0, 0, [], []),
  (63, .iaload, 0, 0, 0, 0, [], []),
  (64, .ireturn, 0, 0, 0, 0, [], []),
  (65, .aload_n 0, 0, 0, 0, 0, [], []),
  (66, .getfield 19, 8, 1, 0, 0, [], [326]),
  (69, .getfield 84, 2, 0, 0, 0, [], [254]),
  (72, .getfield 161, 5, 12, 0, 0, [], [149]),
  (75, .iload_n 1, 1, 0, 0, 0, [], []),
  (76, .iaload, 0, 0, 0, 0, [], []),
  (77, .ireturn, 0, 0, 0, 0, [], []),
  (78, .aload_n 0, 0, 0, 0, 0, [], []),
  (79, .getfield 19, 8, 1, 0, 0, [], [326]),
  (82, .getfield 84, 2, 0, 0, 0, [], [254]),
  (85, .getfield 164, 5, 13, 0, 0, [], [153]),
  (88, .iload_n 1, 1, 0, 0, 0, [], []),
  (89, .iaload, 0, 0, 0, 0, [], []),
  (90, .ireturn, 0, 0, 0, 0, [], []),
  (91, .aload_n 0, 0, 0, 0, 0, [], []),
  (92, .getfield 19, 8, 1, 0, 0, [], [326]),
  (95, .getfield 84, 2, 0, 0, 0, [], [254]),
  (98, .getfield 167, 5, 14, 0, 0, [], [157]),
  (101, .iload_n 1, 1, 0, 0, 0, [], []),
  (102, .iaload, 0, 0, 0, 0, [], []),
  (103, .ireturn, 0, 0, 0, 0, [], []),
  (104, .iconst (-1), 0, 0, (-1), 0, [], []),
  (105, .ireturn, 0, 0, 0, 0, [], [])]
def p_X8_now : List Row := [(0, .iload_n 1, 1, 0, 0, 0, [], []),
  (1, .tableswitch 74 0 5 #[39, 47, 47, 47, 58, 66], 21, 39, 0, 0, [(0, 2), (1, 6), (2, 6), (3, 6), (4, 13), (5, 17)], []),
  (40, .aload_n 0, 0, 0, 0, 0, [], []),
  (41, .getfield 19, 8, 1, 0, 0, [], [326]),
  (44, .invokevirtual 170, 20, 0, 0, 0, [], [512, 513, 514, 56, 515]),
  (47, .ireturn, 0, 0, 0, 0, [], []),
  (48, .aload_n 0, 0, 0, 0, 0, [], []),
  (49, .getfield 19, 8, 1, 0, 0, [], [326]),
  (52, .iload_n 1, 1, 0, 0, 0, [], []),
  (53, .iconst 1, 0, 0, 1, 0, [], []),
  (54, .isub, 0, 0, 0, 0, [], []),
  (55, .invokevirtual 173, 21, 1, 0, 0, [], [517, 518, 519, 56, 520]),
  (58, .ireturn, 0, 0, 0, 0, [], []),
  (59, .aload_n 0, 0, 0, 0, 0, [], []),
  (60, .getfield 19, 8, 1, 0, 0, [], [326]),
  (63, .invokevirtual 176, 23, 0, 0, 0, [], [521, 522, 523, 56, 524]),
  (66, .ireturn, 0, 0, 0, 0, [], []),
  (67, .aload_n 0, 0, 0, 0, 0, [], []),
  (68, .getfield 26, 8, 2, 0, 0, [], [327]),
  (71, .invokevirtual 179, 9, 0, 0, 0, [], [525, 526, 527, 58, 528]),
  (74, .ireturn, 0, 0, 0, 0, [], []),
  (75, .iconst (-1), 0, 0, (-1), 0, [], []),
  (76, .ireturn, 0, 0, 0, 0, [], [])]
def p_X8_lays : List Row := [(0, .aload_n 0, 0, 0, 0, 0, [], []),
  (1, .getfield 19, 8, 1, 0, 0, [], [326]),
  (4, .iload_n 1, 1, 0, 0, 0, [], []),
  (5, .invokevirtual 117, 14, 1, 0, 0, [], [472, 473, 474, 56, 475]),
  (8, .ifCond .eq 14, 10, 0, 0, 0, [], []),
  (11, .aload_n 0, 0, 0, 0, 0, [], []),
  (12, .getfield 19, 8, 1, 0, 0, [], [326]),
  (15, .iload_n 2, 2, 0, 0, 0, [], []),
  (16, .invokevirtual 139, 15, 1, 0, 0, [], [492, 493, 494, 56, 495]),
  (19, .ifCond .ne 5, 12, 0, 0, 0, [], []),
  (22, .iconst (-1), 0, 0, (-1), 0, [], []),
  (23, .ireturn, 0, 0, 0, 0, [], []),
  (24, .aload_n 0, 0, 0, 0, 0, [], []),
  (25, .getfield 19, 8, 1, 0, 0, [], [326]),
  (28, .iload_n 1, 1, 0, 0, 0, [], []),
  (29, .iload_n 2, 2, 0, 0, 0, [], []),
  (30, .invokevirtual 180, 24, 2, 0, 0, [], [533, 534, 535, 56, 536]),
  (33, .ifCond .ne 6, 20, 0, 0, 0, [], []),
  (36, .bipush (-2), 0, 0, (-2), 0, [], []),
  (38, .ireturn, 0, 0, 0, 0, [], []),
  (39, .aload_n 0, 0, 0, 0, 0, [], []),
  (40, .getfield 26, 8, 2, 0, 0, [], [327]),
  (43, .aload_n 0, 0, 0, 0, 0, [], []),
  (44, .getfield 19, 8, 1, 0, 0, [], [326]),
  (47, .getfield 92, 2, 1, 0, 0, [], [257]),
  (50, .invokevirtual 184, 11, 1, 0, 0, [], [541, 542, 543, 58, 544]),
  (53, .aload_n 0, 0, 0, 0, 0, [], []),
  (54, .getfield 19, 8, 1, 0, 0, [], [326]),
  (57, .getfield 92, 2, 1, 0, 0, [], [257]),
  (60, .getfield 132, 4, 0, 0, 0, [], [235]),
  (63, .iload_n 1, 1, 0, 0, 0, [], []),
  (64, .iload_n 2, 2, 0, 0, 0, [], []),
  (65, .iastore, 0, 0, 0, 0, [], []),
  (66, .aload_n 0, 0, 0, 0, 0, [], []),
  (67, .getfield 19, 8, 1, 0, 0, [], [326]),
  (70, .iload_n 2, 2, 0, 0, 0, [], []),
  (71, .invokevirtual 148, 22, 1, 0, 0, [], [496, 497, 498, 56, 499]),
  (74, .invokestatic 188, 184, 1, 0, 0, [], [549, 550, 66, 551]),
  (77, .ireturn, 0, 0, 0, 0, [], [])]
def p_X8_takes : List Row := [(0, .aload_n 0, 0, 0, 0, 0, [], []),
  (1, .getfield 19, 8, 1, 0, 0, [], [326]),
  (4, .iload_n 1, 1, 0, 0, 0, [], []),
  (5, .invokevirtual 117, 14, 1, 0, 0, [], [472, 473, 474, 56, 475]),
  (8, .ifCond .ne 5, 7, 0, 0, 0, [], []),
  (11, .iconst (-1), 0, 0, (-1), 0, [], []),
  (12, .ireturn, 0, 0, 0, 0, [], []),
  (13, .aload_n 0, 0, 0, 0, 0, [], []),
  (14, .getfield 19, 8, 1, 0, 0, [], [326]),
  (17, .getfield 92, 2, 1, 0, 0, [], [257]),
  (20, .getfield 132, 4, 0, 0, 0, [], [235]),
  (23, .iload_n 1, 1, 0, 0, 0, [], []),
  (24, .iaload, 0, 0, 0, 0, [], []),
  (25, .istore_n 2, 2, 0, 0, 0, [], []),
  (26, .iload_n 2, 2, 0, 0, 0, [], []),
  (27, .bipush (-9), 0, 0, (-9), 0, [], []),
  (29, .if_icmp .ne 6, 19, 0, 0, 0, [], []),
  (32, .bipush (-2), 0, 0, (-2), 0, [], []),
  (34, .ireturn, 0, 0, 0, 0, [], []),
  (35, .aload_n 0, 0, 0, 0, 0, [], []),
  (36, .getfield 26, 8, 2, 0, 0, [], [327]),
  (39, .aload_n 0, 0, 0, 0, 0, [], []),
  (40, .getfield 19, 8, 1, 0, 0, [], [326]),
  (43, .getfield 92, 2, 1, 0, 0, [], [257]),
  (46, .invokevirtual 184, 11, 1, 0, 0, [], [541, 542, 543, 58, 544]),
  (49, .aload_n 0, 0, 0, 0, 0, [], []),
  (50, .getfield 19, 8, 1, 0, 0, [], [326]),
  (53, .getfield 92, 2, 1, 0, 0, [], [257]),
  (56, .getfield 132, 4, 0, 0, 0, [], [235]),
  (59, .iload_n 1, 1, 0, 0, 0, [], []),
  (60, .bipush (-9), 0, 0, (-9), 0, [], []),
  (62, .iastore, 0, 0, 0, 0, [], []),
  (63, .iload_n 2, 2, 0, 0, 0, [], []),
  (64, .ireturn, 0, 0, 0, 0, [], [])]
def p_X8_rescales : List Row := [(0, .iload_n 1, 1, 0, 0, 0, [], []),
  (1, .iconst 1, 0, 0, 1, 0, [], []),
  (2, .if_icmp .ne 14, 8, 0, 0, 0, [], []),
  (5, .aload_n 0, 0, 0, 0, 0, [], []),
  (6, .getfield 19, 8, 1, 0, 0, [], [326]),
  (9, .iload_n 2, 2, 0, 0, 0, [], []),
  (10, .invokevirtual 117, 14, 1, 0, 0, [], [472, 473, 474, 56, 475]),
  (13, .goto 23, 18, 0, 0, 0, [], []),
  (16, .iload_n 1, 1, 0, 0, 0, [], []),
  (17, .ifCond .ne 18, 17, 0, 0, 0, [], []),
  (20, .aload_n 0, 0, 0, 0, 0, [], []),
  (21, .getfield 19, 8, 1, 0, 0, [], [326]),
  (24, .iload_n 2, 2, 0, 0, 0, [], []),
  (25, .invokevirtual 139, 15, 1, 0, 0, [], [492, 493, 494, 56, 495]),
  (28, .ifCond .eq 7, 17, 0, 0, 0, [], []),
  (31, .iconst 1, 0, 0, 1, 0, [], []),
  (32, .goto 4, 18, 0, 0, 0, [], []),
  (35, .iconst 0, 0, 0, 0, 0, [], []),
  (36, .istore 4, 4, 0, 0, 0, [], []),
  (38, .iload 4, 4, 0, 0, 0, [], []),
  (40, .ifCond .eq 14, 27, 0, 0, 0, [], []),
  (43, .iload_n 3, 3, 0, 0, 0, [], []),
  (44, .iconst 1, 0, 0, 1, 0, [], []),
  (45, .if_icmp .lt 9, 27, 0, 0, 0, [], []),
  (48, .iload_n 3, 3, 0, 0, 0, [], []),
  (49, .bipush 48, 0, 0, 48, 0, [], []),
  (51, .if_icmp .le 5, 29, 0, 0, 0, [], []),
  (54, .iconst (-1), 0, 0, (-1), 0, [], []),
  (55, .ireturn, 0, 0, 0, 0, [], []),
  (56, .aload_n 0, 0, 0, 0, 0, [], []),
  (57, .getfield 26, 8, 2, 0, 0, [], [327]),
  (60, .aload_n 0, 0, 0, 0, 0, [], []),
  (61, .getfield 19, 8, 1, 0, 0, [], [326]),
  (64, .getfield 92, 2, 1, 0, 0, [], [257]),
  (67, .invokevirtual 184, 11, 1, 0, 0, [], [541, 542, 543, 58, 544]),
  (70, .iload_n 1, 1, 0, 0, 0, [], []),
  (71, .iconst 1, 0, 0, 1, 0, [], []),
  (72, .if_icmp .ne 16, 43, 0, 0, 0, [], []),
  (75, .aload_n 0, 0, 0, 0, 0, [], []),
  (76, .getfield 19, 8, 1, 0, 0, [], [326]),
  (79, .getfield 92, 2, 1, 0, 0, [], [257]),
  (82, .getfield 123, 4, 1, 0, 0, [], [239]),
  (85, .goto 13, 47, 0, 0, 0, [], []),
  (88, .aload_n 0, 0, 0, 0, 0, [], []),
  (89, .getfield 19, 8, 1, 0, 0, [], [326]),
  (92, .getfield 92, 2, 1, 0, 0, [], [257]),
  (95, .getfield 142, 4, 2, 0, 0, [], [243]),
  (98, .astore 5, 5, 0, 0, 0, [], []),
  (100, .aload 5, 5, 0, 0, 0, [], []),
  (102, .iload_n 2, 2, 0, 0, 0, [], []),
  (103, .iaload, 0, 0, 0, 0, [], []),
  (104, .istore 6, 6, 0, 0, 0, [], []),
  (106, .aload 5, 5, 0, 0, 0, [], []),
  (108, .iload_n 2, 2, 0, 0, 0, [], []),
  (109, .iload_n 3, 3, 0, 0, 0, [], []),
  (110, .iastore, 0, 0, 0, 0, [], []),
  (111, .aload_n 0, 0, 0, 0, 0, [], []),
  (112, .getfield 19, 8, 1, 0, 0, [], [326]),
  (115, .invokevirtual 193, 26, 0, 0, 0, [], [563, 564, 565, 56, 566]),
  (118, .iload 6, 6, 0, 0, 0, [], []),
  (120, .ireturn, 0, 0, 0, 0, [], [])]
def p_X8_undo : List Row := [(0, .aload_n 0, 0, 0, 0, 0, [], []),
  (1, .getfield 26, 8, 2, 0, 0, [], [327]),
  (4, .invokevirtual 179, 9, 0, 0, 0, [], [525, 526, 527, 58, 528]),
  (7, .ifCond .ne 6, 6, 0, 0, 0, [], []),
  (10, .bipush (-2), 0, 0, (-2), 0, [], []),
  (12, .ireturn, 0, 0, 0, 0, [], []),
  (13, .aload_n 0, 0, 0, 0, 0, [], []),
  (14, .getfield 26, 8, 2, 0, 0, [], [327]),
  (17, .aload_n 0, 0, 0, 0, 0, [], []),
  (18, .getfield 19, 8, 1, 0, 0, [], [326]),
  (21, .getfield 92, 2, 1, 0, 0, [], [257]),
  (24, .invokevirtual 196, 12, 1, 0, 0, [], [571, 572, 573, 58, 574]),
  (27, .aload_n 0, 0, 0, 0, 0, [], []),
  (28, .getfield 26, 8, 2, 0, 0, [], [327]),
  (31, .invokevirtual 179, 9, 0, 0, 0, [], [525, 526, 527, 58, 528]),
  (34, .ireturn, 0, 0, 0, 0, [], [])]
def p_X8_housed : List Row := [(0, .iload_n 1, 1, 0, 0, 0, [], []),
  (1, .invokestatic 199, 111, 1, 0, 0, [], [579, 580, 53, 581]),
  (4, .ifCond .ne 5, 5, 0, 0, 0, [], []),
  (7, .iconst (-1), 0, 0, (-1), 0, [], []),
  (8, .ireturn, 0, 0, 0, 0, [], []),
  (9, .aload_n 0, 0, 0, 0, 0, [], []),
  (10, .getfield 50, 8, 6, 0, 0, [], [331]),
  (13, .aload_n 0, 0, 0, 0, 0, [], []),
  (14, .getfield 19, 8, 1, 0, 0, [], [326]),
  (17, .invokevirtual 202, 35, 1, 0, 0, [], [582, 583, 584, 60, 585]),
  (20, .istore_n 2, 2, 0, 0, 0, [], []),
  (21, .iload_n 1, 1, 0, 0, 0, [], []),
  (22, .ifCond .ne 10, 16, 0, 0, 0, [], []),
  (25, .iload_n 2, 2, 0, 0, 0, [], []),
  (26, .invokestatic 188, 184, 1, 0, 0, [], [549, 550, 66, 551]),
  (29, .goto 4, 17, 0, 0, 0, [], []),
  (32, .iload_n 2, 2, 0, 0, 0, [], []),
  (33, .ireturn, 0, 0, 0, 0, [], [])]
def p_X8_laying : List Row := [(0, .aload_n 0, 0, 0, 0, 0, [], []),
  (1, .getfield 19, 8, 1, 0, 0, [], [326]),
  (4, .iload_n 1, 1, 0, 0, 0, [], []),
  (5, .invokevirtual 139, 15, 1, 0, 0, [], [492, 493, 494, 56, 495]),
  (8, .ifCond .eq 10, 8, 0, 0, 0, [], []),
  (11, .iload_n 2, 2, 0, 0, 0, [], []),
  (12, .invokestatic 105, 112, 1, 0, 0, [], [465, 466, 53, 467]),
  (15, .ifCond .ne 5, 10, 0, 0, 0, [], []),
  (18, .iconst (-1), 0, 0, (-1), 0, [], []),
  (19, .ireturn, 0, 0, 0, 0, [], []),
  (20, .aload_n 0, 0, 0, 0, 0, [], []),
  (21, .getfield 50, 8, 6, 0, 0, [], [331]),
  (24, .aload_n 0, 0, 0, 0, 0, [], []),
  (25, .getfield 19, 8, 1, 0, 0, [], [326]),
  (28, .iload_n 1, 1, 0, 0, 0, [], []),
  (29, .iload_n 2, 2, 0, 0, 0, [], []),
  (30, .invokevirtual 206, 36, 3, 0, 0, [], [599, 600, 601, 60, 602]),
  (33, .ireturn, 0, 0, 0, 0, [], [])]
def p_X8_tries : List Row := [(0, .aload_n 0, 0, 0, 0, 0, [], []),
  (1, .getfield 19, 8, 1, 0, 0, [], [326]),
  (4, .iload_n 1, 1, 0, 0, 0, [], []),
  (5, .invokevirtual 117, 14, 1, 0, 0, [], [472, 473, 474, 56, 475]),
  (8, .ifCond .eq 10, 8, 0, 0, 0, [], []),
  (11, .iload_n 2, 2, 0, 0, 0, [], []),
  (12, .invokestatic 199, 111, 1, 0, 0, [], [579, 580, 53, 581]),
  (15, .ifCond .ne 5, 10, 0, 0, 0, [], []),
  (18, .iconst (-1), 0, 0, (-1), 0, [], []),
  (19, .ireturn, 0, 0, 0, 0, [], []),
  (20, .aload_n 0, 0, 0, 0, 0, [], []),
  (21, .getfield 43, 8, 5, 0, 0, [], [330]),
  (24, .invokevirtual 210, 65, 0, 0, 0, [], [608, 609, 610, 59, 611]),
  (27, .ifCond .eq 6, 16, 0, 0, 0, [], []),
  (30, .bipush (-3), 0, 0, (-3), 0, [], []),
  (32, .ireturn, 0, 0, 0, 0, [], []),
  (33, .aload_n 0, 0, 0, 0, 0, [], []),
  (34, .getfield 43, 8, 5, 0, 0, [], [330]),
  (37, .iload_n 1, 1, 0, 0, 0, [], []),
  (38, .iload_n 2, 2, 0, 0, 0, [], []),
  (39, .iconst 1, 0, 0, 1, 0, [], []),
  (40, .if_icmp .ne 7, 24, 0, 0, 0, [], []),
  (43, .iconst 1, 0, 0, 1, 0, [], []),
  (44, .goto 4, 25, 0, 0, 0, [], []),
  (47, .iconst 0, 0, 0, 0, 0, [], []),
  (48, .invokevirtual 211, 67, 2, 0, 0, [], [612, 613, 614, 59, 615]),
  (51, .aload_n 0, 0, 0, 0, 0, [], []),
  (52, .getfield 43, 8, 5, 0, 0, [], [330]),
  (55, .invokevirtual 214, 64, 0, 0, 0, [], [617, 618, 619, 59, 620]),
  (58, .ireturn, 0, 0, 0, 0, [], [])]
def p_X8_forget : List Row := [(0, .aload_n 0, 0, 0, 0, 0, [], []),
  (1, .getfield 43, 8, 5, 0, 0, [], [330]),
  (4, .invokevirtual 214, 64, 0, 0, 0, [], [617, 618, 619, 59, 620]),
  (7, .istore_n 1, 1, 0, 0, 0, [], []),
  (8, .aload_n 0, 0, 0, 0, 0, [], []),
  (9, .getfield 43, 8, 5, 0, 0, [], [330]),
  (12, .invokevirtual 101, 66, 0, 0, 0, [], [453, 454, 455, 59, 456]),
  (15, .iload_n 1, 1, 0, 0, 0, [], []),
  (16, .ireturn, 0, 0, 0, 0, [], [])]
def p_X8_mayBe : List Row := [(0, .iload_n 1, 1, 0, 0, 0, [], []),
  (1, .invokestatic 215, 113, 1, 0, 0, [], [629, 630, 53, 631]),
  (4, .ifCond .eq 10, 6, 0, 0, 0, [], []),
  (7, .iload_n 2, 2, 0, 0, 0, [], []),
  (8, .invokestatic 199, 111, 1, 0, 0, [], [579, 580, 53, 581]),
  (11, .ifCond .ne 5, 8, 0, 0, 0, [], []),
  (14, .iconst (-1), 0, 0, (-1), 0, [], []),
  (15, .ireturn, 0, 0, 0, 0, [], []),
  (16, .iload_n 2, 2, 0, 0, 0, [], []),
  (17, .ifCond .ne 18, 17, 0, 0, 0, [], []),
  (20, .aload_n 0, 0, 0, 0, 0, [], []),
  (21, .getfield 43, 8, 5, 0, 0, [], [330]),
  (24, .aload_n 0, 0, 0, 0, 0, [], []),
  (25, .getfield 19, 8, 1, 0, 0, [], [326]),
  (28, .iload_n 1, 1, 0, 0, 0, [], []),
  (29, .invokevirtual 218, 69, 2, 0, 0, [], [632, 633, 634, 59, 635]),
  (32, .goto 15, 23, 0, 0, 0, [], []),
  (35, .aload_n 0, 0, 0, 0, 0, [], []),
  (36, .getfield 43, 8, 5, 0, 0, [], [330]),
  (39, .aload_n 0, 0, 0, 0, 0, [], []),
  (40, .getfield 19, 8, 1, 0, 0, [], [326]),
  (43, .iload_n 1, 1, 0, 0, 0, [], []),
  (44, .invokevirtual 222, 70, 2, 0, 0, [], [644, 645, 646, 59, 647]),
  (47, .ireturn, 0, 0, 0, 0, [], [])]
def p_X8_next : List Row := [(0, .iload_n 1, 1, 0, 0, 0, [], []),
  (1, .invokestatic 215, 113, 1, 0, 0, [], [629, 630, 53, 631]),
  (4, .ifCond .eq 10, 6, 0, 0, 0, [], []),
  (7, .iload_n 2, 2, 0, 0, 0, [], []),
  (8, .invokestatic 199, 111, 1, 0, 0, [], [579, 580, 53, 581]),
  (11, .ifCond .ne 5, 8, 0, 0, 0, [], []),
  (14, .iconst (-1), 0, 0, (-1), 0, [], []),
  (15, .ireturn, 0, 0, 0, 0, [], []),
  (16, .aload_n 0, 0, 0, 0, 0, [], []),
  (17, .getfield 43, 8, 5, 0, 0, [], [330]),
  (20, .aload_n 0, 0, 0, 0, 0, [], []),
  (21, .getfield 19, 8, 1, 0, 0, [], [326]),
  (24, .iload_n 1, 1, 0, 0, 0, [], []),
  (25, .invokevirtual 225, 72, 2, 0, 0, [], [652, 653, 654, 59, 655]),
  (28, .istore_n 3, 3, 0, 0, 0, [], []),
  (29, .iload_n 3, 3, 0, 0, 0, [], []),
  (30, .bipush (-9), 0, 0, (-9), 0, [], []),
  (32, .if_icmp .eq 7, 20, 0, 0, 0, [], []),
  (35, .iload_n 2, 2, 0, 0, 0, [], []),
  (36, .ifCond .ne 5, 22, 0, 0, 0, [], []),
  (39, .iload_n 3, 3, 0, 0, 0, [], []),
  (40, .ireturn, 0, 0, 0, 0, [], []),
  (41, .aload_n 0, 0, 0, 0, 0, [], []),
  (42, .getfield 43, 8, 5, 0, 0, [], [330]),
  (45, .aload_n 0, 0, 0, 0, 0, [], []),
  (46, .getfield 19, 8, 1, 0, 0, [], [326]),
  (49, .iload_n 1, 1, 0, 0, 0, [], []),
  (50, .iload_n 3, 3, 0, 0, 0, [], []),
  (51, .invokevirtual 228, 71, 3, 0, 0, [], [663, 657, 658, 59, 659]),
  (54, .ireturn, 0, 0, 0, 0, [], [])]
def p_X8_bestScale : List Row := [(0, .iload_n 1, 1, 0, 0, 0, [], []),
  (1, .invokestatic 199, 111, 1, 0, 0, [], [579, 580, 53, 581]),
  (4, .ifCond .ne 5, 5, 0, 0, 0, [], []),
  (7, .iconst (-1), 0, 0, (-1), 0, [], []),
  (8, .ireturn, 0, 0, 0, 0, [], []),
  (9, .iconst 1, 0, 0, 1, 0, [], []),
  (10, .istore_n 2, 2, 0, 0, 0, [], []),
  (11, .iload_n 2, 2, 0, 0, 0, [], []),
  (12, .bipush 48, 0, 0, 48, 0, [], []),
  (14, .if_icmp .gt 23, 20, 0, 0, 0, [], []),
  (17, .aload_n 0, 0, 0, 0, 0, [], []),
  (18, .getfield 61, 8, 8, 0, 0, [], [333]),
  (21, .iload_n 2, 2, 0, 0, 0, [], []),
  (22, .aload_n 0, 0, 0, 0, 0, [], []),
  (23, .getfield 19, 8, 1, 0, 0, [], [326]),
  (26, .iload_n 2, 2, 0, 0, 0, [], []),
  (27, .invokevirtual 231, 27, 1, 0, 0, [], [668, 669, 670, 56, 671]),
  (30, .iastore, 0, 0, 0, 0, [], []),
  (31, .iinc 2 1, 2, 0, 1, 0, [], []),
  (34, .goto (-23), 7, 0, 0, 0, [], []),
  (37, .aload_n 0, 0, 0, 0, 0, [], []),
  (38, .invokevirtual 234, 94, 0, 0, 0, [], [672, 674, 13, 53, 675]),
  (41, .istore_n 2, 2, 0, 0, 0, [], []),
  (42, .iload_n 1, 1, 0, 0, 0, [], []),
  (43, .ifCond .ne 7, 27, 0, 0, 0, [], []),
  (46, .iload_n 2, 2, 0, 0, 0, [], []),
  (47, .goto 9, 31, 0, 0, 0, [], []),
  (50, .aload_n 0, 0, 0, 0, 0, [], []),
  (51, .getfield 61, 8, 8, 0, 0, [], [333]),
  (54, .iload_n 2, 2, 0, 0, 0, [], []),
  (55, .iaload, 0, 0, 0, 0, [], []),
  (56, .ireturn, 0, 0, 0, 0, [], [])]
def p_X8_oneMore : List Row := [(0, .iload_n 1, 1, 0, 0, 0, [], []),
  (1, .invokestatic 215, 113, 1, 0, 0, [], [629, 630, 53, 631]),
  (4, .ifCond .eq 10, 6, 0, 0, 0, [], []),
  (7, .iload_n 2, 2, 0, 0, 0, [], []),
  (8, .invokestatic 199, 111, 1, 0, 0, [], [579, 580, 53, 581]),
  (11, .ifCond .ne 5, 8, 0, 0, 0, [], []),
  (14, .iconst (-1), 0, 0, (-1), 0, [], []),
  (15, .ireturn, 0, 0, 0, 0, [], []),
  (16, .iconst 1, 0, 0, 1, 0, [], []),
  (17, .istore_n 3, 3, 0, 0, 0, [], []),
  (18, .iload_n 3, 3, 0, 0, 0, [], []),
  (19, .bipush 48, 0, 0, 48, 0, [], []),
  (21, .if_icmp .gt 24, 24, 0, 0, 0, [], []),
  (24, .aload_n 0, 0, 0, 0, 0, [], []),
  (25, .getfield 61, 8, 8, 0, 0, [], [333]),
  (28, .iload_n 3, 3, 0, 0, 0, [], []),
  (29, .aload_n 0, 0, 0, 0, 0, [], []),
  (30, .getfield 19, 8, 1, 0, 0, [], [326]),
  (33, .iload_n 1, 1, 0, 0, 0, [], []),
  (34, .iload_n 3, 3, 0, 0, 0, [], []),
  (35, .invokevirtual 237, 28, 2, 0, 0, [], [680, 681, 682, 56, 683]),
  (38, .iastore, 0, 0, 0, 0, [], []),
  (39, .iinc 3 1, 3, 0, 1, 0, [], []),
  (42, .goto (-24), 10, 0, 0, 0, [], []),
  (45, .aload_n 0, 0, 0, 0, 0, [], []),
  (46, .invokevirtual 234, 94, 0, 0, 0, [], [672, 674, 13, 53, 675]),
  (49, .istore_n 3, 3, 0, 0, 0, [], []),
  (50, .iload_n 2, 2, 0, 0, 0, [], []),
  (51, .ifCond .ne 7, 31, 0, 0, 0, [], []),
  (54, .iload_n 3, 3, 0, 0, 0, [], []),
  (55, .goto 9, 35, 0, 0, 0, [], []),
  (58, .aload_n 0, 0, 0, 0, 0, [], []),
  (59, .getfield 61, 8, 8, 0, 0, [], [333]),
  (62, .iload_n 3, 3, 0, 0, 0, [], []),
  (63, .iaload, 0, 0, 0, 0, [], []),
  (64, .ireturn, 0, 0, 0, 0, [], [])]
def p_X8_scaleOfMost : List Row := [(0, .iconst 1, 0, 0, 1, 0, [], []),
  (1, .istore_n 1, 1, 0, 0, 0, [], []),
  (2, .iconst 2, 0, 0, 2, 0, [], []),
  (3, .istore_n 2, 2, 0, 0, 0, [], []),
  (4, .iload_n 2, 2, 0, 0, 0, [], []),
  (5, .bipush 48, 0, 0, 48, 0, [], []),
  (7, .if_icmp .gt 26, 20, 0, 0, 0, [], []),
  (10, .aload_n 0, 0, 0, 0, 0, [], []),
  (11, .getfield 61, 8, 8, 0, 0, [], [333]),
  (14, .iload_n 2, 2, 0, 0, 0, [], []),
  (15, .iaload, 0, 0, 0, 0, [], []),
  (16, .aload_n 0, 0, 0, 0, 0, [], []),
  (17, .getfield 61, 8, 8, 0, 0, [], [333]),
  (20, .iload_n 1, 1, 0, 0, 0, [], []),
  (21, .iaload, 0, 0, 0, 0, [], []),
  (22, .if_icmp .le 5, 18, 0, 0, 0, [], []),
  (25, .iload_n 2, 2, 0, 0, 0, [], []),
  (26, .istore_n 1, 1, 0, 0, 0, [], []),
  (27, .iinc 2 1, 2, 0, 1, 0, [], []),
  (30, .goto (-26), 4, 0, 0, 0, [], []),
  (33, .iload_n 1, 1, 0, 0, 0, [], []),
  (34, .ireturn, 0, 0, 0, 0, [], [])]
def p_X8_carried : List Row := [(0, .iload_n 1, 1, 0, 0, 0, [], []),
  (1, .iconst (-1), 0, 0, (-1), 0, [], []),
  (2, .if_icmp .ge 5, 5, 0, 0, 0, [], []),
  (5, .iconst (-1), 0, 0, (-1), 0, [], []),
  (6, .ireturn, 0, 0, 0, 0, [], []),
  (7, .aload_n 0, 0, 0, 0, 0, [], []),
  (8, .getfield 57, 8, 7, 0, 0, [], [332]),
  (11, .aload_n 0, 0, 0, 0, 0, [], []),
  (12, .getfield 19, 8, 1, 0, 0, [], [326]),
  (15, .invokevirtual 241, 1, 1, 0, 0, [], [689, 690, 691, 61, 692]),
  (18, .istore_n 2, 2, 0, 0, 0, [], []),
  (19, .iload_n 2, 2, 0, 0, 0, [], []),
  (20, .bipush (-9), 0, 0, (-9), 0, [], []),
  (22, .if_icmp .eq 8, 17, 0, 0, 0, [], []),
  (25, .iload_n 1, 1, 0, 0, 0, [], []),
  (26, .iconst (-1), 0, 0, (-1), 0, [], []),
  (27, .if_icmp .ne 5, 19, 0, 0, 0, [], []),
  (30, .iload_n 2, 2, 0, 0, 0, [], []),
  (31, .ireturn, 0, 0, 0, 0, [], []),
  (32, .iload_n 1, 1, 0, 0, 0, [], []),
  (33, .aload_n 0, 0, 0, 0, 0, [], []),
  (34, .getfield 19, 8, 1, 0, 0, [], [326]),
  (37, .getfield 84, 2, 0, 0, 0, [], [254]),
  (40, .getfield 244, 5, 2, 0, 0, [], [109]),
  (43, .if_icmp .lt 6, 27, 0, 0, 0, [], []),
  (46, .bipush (-5), 0, 0, (-5), 0, [], []),
  (48, .ireturn, 0, 0, 0, 0, [], []),
  (49, .aload_n 0, 0, 0, 0, 0, [], []),
  (50, .getfield 57, 8, 7, 0, 0, [], [332]),
  (53, .aload_n 0, 0, 0, 0, 0, [], []),
  (54, .getfield 19, 8, 1, 0, 0, [], [326]),
  (57, .iload_n 2, 2, 0, 0, 0, [], []),
  (58, .iload_n 1, 1, 0, 0, 0, [], []),
  (59, .invokevirtual 247, 2, 3, 0, 0, [], [701, 702, 703, 61, 704]),
  (62, .ireturn, 0, 0, 0, 0, [], [])]
def p_X8_mean : List Row := [(0, .iload_n 1, 1, 0, 0, 0, [], []),
  (1, .invokestatic 199, 111, 1, 0, 0, [], [579, 580, 53, 581]),
  (4, .ifCond .ne 7, 5, 0, 0, 0, [], []),
  (7, .ldc2_w 250, 0, 0, 0, (-1), [], [720]),
  (10, .lreturn, 0, 0, 0, 0, [], []),
  (11, .aload_n 0, 0, 0, 0, 0, [], []),
  (12, .getfield 19, 8, 1, 0, 0, [], [326]),
  (15, .invokevirtual 252, 31, 0, 0, 0, [], [721, 722, 723, 56, 724]),
  (18, .lstore_n 2, 2, 0, 0, 0, [], []),
  (19, .aload_n 0, 0, 0, 0, 0, [], []),
  (20, .getfield 19, 8, 1, 0, 0, [], [326]),
  (23, .getfield 84, 2, 0, 0, 0, [], [254]),
  (26, .getfield 256, 5, 7, 0, 0, [], [131]),
  (29, .iconst 1, 0, 0, 1, 0, [], []),
  (30, .invokestatic 259, 185, 2, 0, 0, [], [725, 661, 63, 662]),
  (33, .istore 4, 4, 0, 0, 0, [], []),
  (35, .aload_n 0, 0, 0, 0, 0, [], []),
  (36, .getfield 19, 8, 1, 0, 0, [], [326]),
  (39, .lload_n 2, 2, 0, 0, 0, [], []),
  (40, .invokevirtual 264, 33, 1, 0, 0, [], [726, 727, 728, 56, 729]),
  (43, .lload_n 2, 2, 0, 0, 0, [], []),
  (44, .iload 4, 4, 0, 0, 0, [], []),
  (46, .i2l, 0, 0, 0, 0, [], []),
  (47, .lmul, 0, 0, 0, 0, [], []),
  (48, .iload_n 1, 1, 0, 0, 0, [], []),
  (49, .invokestatic 268, 114, 3, 0, 0, [], [734, 735, 53, 736]),
  (52, .lreturn, 0, 0, 0, 0, [], [])]
def p_X8_turnsOfAll : List Row := [(0, .aload_n 0, 0, 0, 0, 0, [], []),
  (1, .getfield 19, 8, 1, 0, 0, [], [326]),
  (4, .getfield 84, 2, 0, 0, 0, [], [254]),
  (7, .getfield 256, 5, 7, 0, 0, [], [131]),
  (10, .istore_n 1, 1, 0, 0, 0, [], []),
  (11, .aload_n 0, 0, 0, 0, 0, [], []),
  (12, .getfield 19, 8, 1, 0, 0, [], [326]),
  (15, .invokevirtual 272, 30, 0, 0, 0, [], [744, 745, 746, 56, 747]),
  (18, .iload_n 1, 1, 0, 0, 0, [], []),
  (19, .invokestatic 275, 186, 2, 0, 0, [], [748, 402, 63, 403]),
  (22, .istore_n 2, 2, 0, 0, 0, [], []),
  (23, .iload_n 2, 2, 0, 0, 0, [], []),
  (24, .ifCond .ne 6, 15, 0, 0, 0, [], []),
  (27, .bipush (-9), 0, 0, (-9), 0, [], []),
  (29, .ireturn, 0, 0, 0, 0, [], []),
  (30, .iload_n 1, 1, 0, 0, 0, [], []),
  (31, .i2l, 0, 0, 0, 0, [], []),
  (32, .iload_n 2, 2, 0, 0, 0, [], []),
  (33, .i2l, 0, 0, 0, 0, [], []),
  (34, .iconst 0, 0, 0, 0, 0, [], []),
  (35, .invokestatic 268, 114, 3, 0, 0, [], [734, 735, 53, 736]),
  (38, .l2i, 0, 0, 0, 0, [], []),
  (39, .ireturn, 0, 0, 0, 0, [], [])]
def p_X8_share : List Row := [(0, .aload_n 0, 0, 0, 0, 0, [], []),
  (1, .getfield 19, 8, 1, 0, 0, [], [326]),
  (4, .iload_n 1, 1, 0, 0, 0, [], []),
  (5, .invokevirtual 139, 15, 1, 0, 0, [], [492, 493, 494, 56, 495]),
  (8, .ifCond .eq 15, 11, 0, 0, 0, [], []),
  (11, .iload_n 2, 2, 0, 0, 0, [], []),
  (12, .iconst 1, 0, 0, 1, 0, [], []),
  (13, .if_icmp .lt 10, 11, 0, 0, 0, [], []),
  (16, .iload_n 2, 2, 0, 0, 0, [], []),
  (17, .sipush 999, 0, 0, 999, 0, [], []),
  (20, .if_icmp .le 5, 13, 0, 0, 0, [], []),
  (23, .iconst (-1), 0, 0, (-1), 0, [], []),
  (24, .ireturn, 0, 0, 0, 0, [], []),
  (25, .aload_n 0, 0, 0, 0, 0, [], []),
  (26, .getfield 19, 8, 1, 0, 0, [], [326]),
  (29, .invokevirtual 252, 31, 0, 0, 0, [], [721, 722, 723, 56, 724]),
  (32, .lstore_n 3, 3, 0, 0, 0, [], []),
  (33, .aload_n 0, 0, 0, 0, 0, [], []),
  (34, .getfield 19, 8, 1, 0, 0, [], [326]),
  (37, .lload_n 3, 3, 0, 0, 0, [], []),
  (38, .invokevirtual 264, 33, 1, 0, 0, [], [726, 727, 728, 56, 729]),
  (41, .lstore 5, 5, 0, 0, 0, [], []),
  (43, .lload 5, 5, 0, 0, 0, [], []),
  (45, .lconst 0, 0, 0, 0, 0, [], []),
  (46, .lcmp, 0, 0, 0, 0, [], []),
  (47, .ifCond .ne 5, 28, 0, 0, 0, [], []),
  (50, .iconst 0, 0, 0, 0, 0, [], []),
  (51, .ireturn, 0, 0, 0, 0, [], []),
  (52, .iload_n 2, 2, 0, 0, 0, [], []),
  (53, .i2l, 0, 0, 0, 0, [], []),
  (54, .aload_n 0, 0, 0, 0, 0, [], []),
  (55, .getfield 19, 8, 1, 0, 0, [], [326]),
  (58, .iload_n 1, 1, 0, 0, 0, [], []),
  (59, .lload_n 3, 3, 0, 0, 0, [], []),
  (60, .invokevirtual 278, 32, 2, 0, 0, [], [753, 731, 732, 56, 733]),
  (63, .lmul, 0, 0, 0, 0, [], []),
  (64, .lload 5, 5, 0, 0, 0, [], []),
  (66, .ldiv, 0, 0, 0, 0, [], []),
  (67, .l2i, 0, 0, 0, 0, [], []),
  (68, .ireturn, 0, 0, 0, 0, [], [])]
def p_X8_odds : List Row := [(0, .iload_n 1, 1, 0, 0, 0, [], []),
  (1, .ifCond .lt 26, 13, 0, 0, 0, [], []),
  (4, .iload_n 1, 1, 0, 0, 0, [], []),
  (5, .bipush 10, 0, 0, 10, 0, [], []),
  (7, .if_icmp .gt 20, 13, 0, 0, 0, [], []),
  (10, .iload_n 2, 2, 0, 0, 0, [], []),
  (11, .ifCond .lt 16, 13, 0, 0, 0, [], []),
  (14, .iload_n 2, 2, 0, 0, 0, [], []),
  (15, .bipush 6, 0, 0, 6, 0, [], []),
  (17, .if_icmp .gt 10, 13, 0, 0, 0, [], []),
  (20, .iload_n 3, 3, 0, 0, 0, [], []),
  (21, .invokestatic 199, 111, 1, 0, 0, [], [579, 580, 53, 581]),
  (24, .ifCond .ne 5, 15, 0, 0, 0, [], []),
  (27, .iconst (-1), 0, 0, (-1), 0, [], []),
  (28, .ireturn, 0, 0, 0, 0, [], []),
  (29, .aload_n 0, 0, 0, 0, 0, [], []),
  (30, .getfield 19, 8, 1, 0, 0, [], [326]),
  (33, .invokevirtual 170, 20, 0, 0, 0, [], [512, 513, 514, 56, 515]),
  (36, .invokestatic 188, 184, 1, 0, 0, [], [549, 550, 66, 551]),
  (39, .istore 4, 4, 0, 0, 0, [], []),
  (41, .lconst 0, 0, 0, 0, 0, [], []),
  (42, .lstore 5, 5, 0, 0, 0, [], []),
  (44, .iconst 0, 0, 0, 0, 0, [], []),
  (45, .istore 7, 7, 0, 0, 0, [], []),
  (47, .iload 7, 7, 0, 0, 0, [], []),
  (49, .iload 4, 4, 0, 0, 0, [], []),
  (51, .if_icmp .gt 47, 50, 0, 0, 0, [], []),
  (54, .iload 7, 7, 0, 0, 0, [], []),
  (56, .iload_n 2, 2, 0, 0, 0, [], []),
  (57, .if_icmp .gt 41, 50, 0, 0, 0, [], []),
  (60, .lload 5, 5, 0, 0, 0, [], []),
  (62, .iload 4, 4, 0, 0, 0, [], []),
  (64, .iload 7, 7, 0, 0, 0, [], []),
  (66, .invokestatic 282, 116, 2, 0, 0, [], [758, 759, 53, 760]),
  (69, .iload_n 1, 1, 0, 0, 0, [], []),
  (70, .iload 7, 7, 0, 0, 0, [], []),
  (72, .invokestatic 286, 117, 2, 0, 0, [], [761, 762, 53, 763]),
  (75, .lmul, 0, 0, 0, 0, [], []),
  (76, .bipush 10, 0, 0, 10, 0, [], []),
  (78, .iload_n 1, 1, 0, 0, 0, [], []),
  (79, .isub, 0, 0, 0, 0, [], []),
  (80, .iload 4, 4, 0, 0, 0, [], []),
  (82, .iload 7, 7, 0, 0, 0, [], []),
  (84, .isub, 0, 0, 0, 0, [], []),
  (85, .invokestatic 286, 117, 2, 0, 0, [], [761, 762, 53, 763]),
  (88, .lmul, 0, 0, 0, 0, [], []),
  (89, .ladd, 0, 0, 0, 0, [], []),
  (90, .lstore 5, 5, 0, 0, 0, [], []),
  (92, .iinc 7 1, 7, 0, 1, 0, [], []),
  (95, .goto (-48), 24, 0, 0, 0, [], []),
  (98, .lload 5, 5, 0, 0, 0, [], []),
  (100, .bipush 10, 0, 0, 10, 0, [], []),
  (102, .iload 4, 4, 0, 0, 0, [], []),
  (104, .invokestatic 286, 117, 2, 0, 0, [], [761, 762, 53, 763]),
  (107, .iload_n 3, 3, 0, 0, 0, [], []),
  (108, .invokestatic 268, 114, 3, 0, 0, [], [734, 735, 53, 736]),
  (111, .l2i, 0, 0, 0, 0, [], []),
  (112, .ireturn, 0, 0, 0, 0, [], [])]
def p_X8_rate : List Row := [(0, .aload_n 0, 0, 0, 0, 0, [], []),
  (1, .getfield 19, 8, 1, 0, 0, [], [326]),
  (4, .iload_n 2, 2, 0, 0, 0, [], []),
  (5, .invokevirtual 117, 14, 1, 0, 0, [], [472, 473, 474, 56, 475]),
  (8, .ifCond .ne 7, 7, 0, 0, 0, [], []),
  (11, .ldc_w 289, 0, 0, (-1000000), 0, [], [768]),
  (14, .ireturn, 0, 0, 0, 0, [], []),
  (15, .iload_n 1, 1, 0, 0, 0, [], []),
  (16, .tableswitch 76 0 5 #[40, 46, 52, 58, 64, 70], 33, 40, 0, 0, [(0, 9), (1, 13), (2, 17), (3, 21), (4, 25), (5, 29)], []),
  (56, .aload_n 0, 0, 0, 0, 0, [], []),
  (57, .iload_n 2, 2, 0, 0, 0, [], []),
  (58, .invokevirtual 290, 105, 1, 0, 0, [], [769, 771, 16, 53, 772]),
  (61, .ireturn, 0, 0, 0, 0, [], []),
  (62, .aload_n 0, 0, 0, 0, 0, [], []),
  (63, .iload_n 2, 2, 0, 0, 0, [], []),
  (64, .invokevirtual 293, 106, 1, 0, 0, [], [773, 775, 17, 53, 776]),
  (67, .ireturn, 0, 0, 0, 0, [], []),
  (68, .aload_n 0, 0, 0, 0, 0, [], []),
  (69, .iload_n 2, 2, 0, 0, 0, [], []),
  (70, .invokevirtual 296, 107, 1, 0, 0, [], [778, 780, 18, 53, 781]),
  (73, .ireturn, 0, 0, 0, 0, [], []),
  (74, .aload_n 0, 0, 0, 0, 0, [], []),
  (75, .iload_n 2, 2, 0, 0, 0, [], []),
  (76, .invokevirtual 299, 108, 1, 0, 0, [], [783, 785, 19, 53, 786]),
  (79, .ireturn, 0, 0, 0, 0, [], []),
  (80, .aload_n 0, 0, 0, 0, 0, [], []),
  (81, .iload_n 2, 2, 0, 0, 0, [], []),
  (82, .invokevirtual 302, 109, 1, 0, 0, [], [788, 790, 20, 53, 791]),
  (85, .ireturn, 0, 0, 0, 0, [], []),
  (86, .aload_n 0, 0, 0, 0, 0, [], []),
  (87, .iload_n 2, 2, 0, 0, 0, [], []),
  (88, .invokevirtual 305, 110, 1, 0, 0, [], [793, 795, 21, 53, 796]),
  (91, .ireturn, 0, 0, 0, 0, [], []),
  (92, .ldc_w 289, 0, 0, (-1000000), 0, [], [768]),
  (95, .ireturn, 0, 0, 0, 0, [], [])]
def p_X8_keep : List Row := [(0, .iload_n 1, 1, 0, 0, 0, [], []),
  (1, .invokestatic 199, 111, 1, 0, 0, [], [579, 580, 53, 581]),
  (4, .ifCond .ne 5, 5, 0, 0, 0, [], []),
  (7, .iconst (-1), 0, 0, (-1), 0, [], []),
  (8, .ireturn, 0, 0, 0, 0, [], []),
  (9, .aload_n 0, 0, 0, 0, 0, [], []),
  (10, .getfield 32, 8, 3, 0, 0, [], [328]),
  (13, .iload_n 1, 1, 0, 0, 0, [], []),
  (14, .aaload, 0, 0, 0, 0, [], []),
  (15, .aload_n 0, 0, 0, 0, 0, [], []),
  (16, .getfield 19, 8, 1, 0, 0, [], [326]),
  (19, .getfield 92, 2, 1, 0, 0, [], [257]),
  (22, .invokevirtual 308, 41, 1, 0, 0, [], [802, 546, 547, 57, 548]),
  (25, .aload_n 0, 0, 0, 0, 0, [], []),
  (26, .getfield 36, 8, 4, 0, 0, [], [329]),
  (29, .iload_n 1, 1, 0, 0, 0, [], []),
  (30, .iconst 1, 0, 0, 1, 0, [], []),
  (31, .bastore, 0, 0, 0, 0, [], []),
  (32, .aload_n 0, 0, 0, 0, 0, [], []),
  (33, .getfield 19, 8, 1, 0, 0, [], [326]),
  (36, .invokevirtual 176, 23, 0, 0, 0, [], [521, 522, 523, 56, 524]),
  (39, .invokestatic 188, 184, 1, 0, 0, [], [549, 550, 66, 551]),
  (42, .ireturn, 0, 0, 0, 0, [], [])]
def p_X8_back : List Row := [(0, .iload_n 1, 1, 0, 0, 0, [], []),
  (1, .invokestatic 199, 111, 1, 0, 0, [], [579, 580, 53, 581]),
  (4, .ifCond .ne 5, 5, 0, 0, 0, [], []),
  (7, .iconst (-1), 0, 0, (-1), 0, [], []),
  (8, .ireturn, 0, 0, 0, 0, [], []),
  (9, .aload_n 0, 0, 0, 0, 0, [], []),
  (10, .getfield 36, 8, 4, 0, 0, [], [329]),
  (13, .iload_n 1, 1, 0, 0, 0, [], []),
  (14, .baload, 0, 0, 0, 0, [], []),
  (15, .ifCond .ne 6, 12, 0, 0, 0, [], []),
  (18, .bipush (-2), 0, 0, (-2), 0, [], []),
  (20, .ireturn, 0, 0, 0, 0, [], []),
  (21, .aload_n 0, 0, 0, 0, 0, [], []),
  (22, .getfield 19, 8, 1, 0, 0, [], [326]),
  (25, .getfield 92, 2, 1, 0, 0, [], [257]),
  (28, .aload_n 0, 0, 0, 0, 0, [], []),
  (29, .getfield 32, 8, 3, 0, 0, [], [328]),
  (32, .iload_n 1, 1, 0, 0, 0, [], []),
  (33, .aaload, 0, 0, 0, 0, [], []),
  (34, .invokevirtual 308, 41, 1, 0, 0, [], [802, 546, 547, 57, 548]),
  (37, .aload_n 0, 0, 0, 0, 0, [], []),
  (38, .getfield 26, 8, 2, 0, 0, [], [327]),
  (41, .invokevirtual 100, 10, 0, 0, 0, [], [449, 450, 451, 58, 452]),
  (44, .aload_n 0, 0, 0, 0, 0, [], []),
  (45, .getfield 19, 8, 1, 0, 0, [], [326]),
  (48, .invokevirtual 176, 23, 0, 0, 0, [], [521, 522, 523, 56, 524]),
  (51, .invokestatic 188, 184, 1, 0, 0, [], [549, 550, 66, 551]),
  (54, .ireturn, 0, 0, 0, 0, [], [])]
def p_X8_count : List Row := [(0, .iload_n 1, 1, 0, 0, 0, [], []),
  (1, .tableswitch 84 0 4 #[35, 46, 57, 68, 76], 25, 35, 0, 0, [(0, 2), (1, 7), (2, 12), (3, 17), (4, 21)], []),
  (36, .aload_n 0, 0, 0, 0, 0, [], []),
  (37, .getfield 19, 8, 1, 0, 0, [], [326]),
  (40, .getfield 84, 2, 0, 0, 0, [], [254]),
  (43, .getfield 244, 5, 2, 0, 0, [], [109]),
  (46, .ireturn, 0, 0, 0, 0, [], []),
  (47, .aload_n 0, 0, 0, 0, 0, [], []),
  (48, .getfield 19, 8, 1, 0, 0, [], [326]),
  (51, .getfield 84, 2, 0, 0, 0, [], [254]),
  (54, .getfield 256, 5, 7, 0, 0, [], [131]),
  (57, .ireturn, 0, 0, 0, 0, [], []),
  (58, .aload_n 0, 0, 0, 0, 0, [], []),
  (59, .getfield 19, 8, 1, 0, 0, [], [326]),
  (62, .getfield 84, 2, 0, 0, 0, [], [254]),
  (65, .getfield 154, 5, 10, 0, 0, [], [141]),
  (68, .ireturn, 0, 0, 0, 0, [], []),
  (69, .aload_n 0, 0, 0, 0, 0, [], []),
  (70, .getfield 43, 8, 5, 0, 0, [], [330]),
  (73, .invokevirtual 214, 64, 0, 0, 0, [], [617, 618, 619, 59, 620]),
  (76, .ireturn, 0, 0, 0, 0, [], []),
  (77, .aload_n 0, 0, 0, 0, 0, [], []),
  (78, .getfield 10, 8, 0, 0, 0, [], [325]),
  (81, .invokevirtual 74, 45, 0, 0, 0, [], [369, 370, 371, 54, 372]),
  (84, .ireturn, 0, 0, 0, 0, [], []),
  (85, .iconst (-1), 0, 0, (-1), 0, [], []),
  (86, .ireturn, 0, 0, 0, 0, [], [])]
def p_X8_trace : List Row := [(0, .aload_n 0, 0, 0, 0, 0, [], []),
  (1, .getfield 311, 8, 9, 0, 0, [], [334]),
  (4, .lreturn, 0, 0, 0, 0, [], [])]
def p_X8_rateOfThing : List Row := [(0, .aload_n 0, 0, 0, 0, 0, [], []),
  (1, .dup, 0, 0, 0, 0, [], []),
  (2, .getfield 311, 8, 9, 0, 0, [], [334]),
  (5, .lconst 1, 0, 0, 0, 1, [], []),
  (6, .ladd, 0, 0, 0, 0, [], []),
  (7, .putfield 311, 8, 9, 0, 0, [], [334]),
  (10, .aload_n 0, 0, 0, 0, 0, [], []),
  (11, .getfield 19, 8, 1, 0, 0, [], [326]),
  (14, .getfield 84, 2, 0, 0, 0, [], [254]),
  (17, .getfield 126, 5, 5, 0, 0, [], [120]),
  (20, .iload_n 1, 1, 0, 0, 0, [], []),
  (21, .iaload, 0, 0, 0, 0, [], []),
  (22, .ireturn, 0, 0, 0, 0, [], [])]
def p_X8_rateOfTurned : List Row := [(0, .aload_n 0, 0, 0, 0, 0, [], []),
  (1, .dup, 0, 0, 0, 0, [], []),
  (2, .getfield 311, 8, 9, 0, 0, [], [334]),
  (5, .ldc2_w 315, 0, 0, 0, 10, [], [777]),
  (8, .ladd, 0, 0, 0, 0, [], []),
  (9, .putfield 311, 8, 9, 0, 0, [], [334]),
  (12, .aload_n 0, 0, 0, 0, 0, [], []),
  (13, .iload_n 1, 1, 0, 0, 0, [], []),
  (14, .invokevirtual 290, 105, 1, 0, 0, [], [769, 771, 16, 53, 772]),
  (17, .aload_n 0, 0, 0, 0, 0, [], []),
  (18, .getfield 19, 8, 1, 0, 0, [], [326]),
  (21, .getfield 92, 2, 1, 0, 0, [], [257]),
  (24, .getfield 123, 4, 1, 0, 0, [], [239]),
  (27, .iload_n 1, 1, 0, 0, 0, [], []),
  (28, .iaload, 0, 0, 0, 0, [], []),
  (29, .iadd, 0, 0, 0, 0, [], []),
  (30, .ireturn, 0, 0, 0, 0, [], [])]
def p_X8_rateOfGlued : List Row := [(0, .aload_n 0, 0, 0, 0, 0, [], []),
  (1, .dup, 0, 0, 0, 0, [], []),
  (2, .getfield 311, 8, 9, 0, 0, [], [334]),
  (5, .ldc2_w 317, 0, 0, 0, 100, [], [782]),
  (8, .ladd, 0, 0, 0, 0, [], []),
  (9, .putfield 311, 8, 9, 0, 0, [], [334]),
  (12, .aload_n 0, 0, 0, 0, 0, [], []),
  (13, .iload_n 1, 1, 0, 0, 0, [], []),
  (14, .invokevirtual 290, 105, 1, 0, 0, [], [769, 771, 16, 53, 772]),
  (17, .aload_n 0, 0, 0, 0, 0, [], []),
  (18, .getfield 19, 8, 1, 0, 0, [], [326]),
  (21, .getfield 84, 2, 0, 0, 0, [], [254]),
  (24, .getfield 129, 5, 6, 0, 0, [], [125]),
  (27, .iload_n 1, 1, 0, 0, 0, [], []),
  (28, .iaload, 0, 0, 0, 0, [], []),
  (29, .isub, 0, 0, 0, 0, [], []),
  (30, .ireturn, 0, 0, 0, 0, [], [])]
def p_X8_rateOfCarved : List Row := [(0, .aload_n 0, 0, 0, 0, 0, [], []),
  (1, .dup, 0, 0, 0, 0, [], []),
  (2, .getfield 311, 8, 9, 0, 0, [], [334]),
  (5, .ldc2_w 319, 0, 0, 0, 1000, [], [787]),
  (8, .ladd, 0, 0, 0, 0, [], []),
  (9, .putfield 311, 8, 9, 0, 0, [], [334]),
  (12, .iconst 2, 0, 0, 2, 0, [], []),
  (13, .aload_n 0, 0, 0, 0, 0, [], []),
  (14, .iload_n 1, 1, 0, 0, 0, [], []),
  (15, .invokevirtual 293, 106, 1, 0, 0, [], [773, 775, 17, 53, 776]),
  (18, .imul, 0, 0, 0, 0, [], []),
  (19, .ireturn, 0, 0, 0, 0, [], [])]
def p_X8_rateOfSoup : List Row := [(0, .aload_n 0, 0, 0, 0, 0, [], []),
  (1, .dup, 0, 0, 0, 0, [], []),
  (2, .getfield 311, 8, 9, 0, 0, [], [334]),
  (5, .ldc2_w 321, 0, 0, 0, 10000, [], [792]),
  (8, .ladd, 0, 0, 0, 0, [], []),
  (9, .putfield 311, 8, 9, 0, 0, [], [334]),
  (12, .aload_n 0, 0, 0, 0, 0, [], []),
  (13, .iload_n 1, 1, 0, 0, 0, [], []),
  (14, .invokevirtual 296, 107, 1, 0, 0, [], [778, 780, 18, 53, 781]),
  (17, .iload_n 1, 1, 0, 0, 0, [], []),
  (18, .iadd, 0, 0, 0, 0, [], []),
  (19, .ireturn, 0, 0, 0, 0, [], [])]
def p_X8_rateOfReal : List Row := [(0, .aload_n 0, 0, 0, 0, 0, [], []),
  (1, .dup, 0, 0, 0, 0, [], []),
  (2, .getfield 311, 8, 9, 0, 0, [], [334]),
  (5, .ldc2_w 323, 0, 0, 0, 100000, [], [797]),
  (8, .ladd, 0, 0, 0, 0, [], []),
  (9, .putfield 311, 8, 9, 0, 0, [], [334]),
  (12, .aload_n 0, 0, 0, 0, 0, [], []),
  (13, .iload_n 1, 1, 0, 0, 0, [], []),
  (14, .invokevirtual 290, 105, 1, 0, 0, [], [769, 771, 16, 53, 772]),
  (17, .aload_n 0, 0, 0, 0, 0, [], []),
  (18, .getfield 19, 8, 1, 0, 0, [], [326]),
  (21, .iload_n 1, 1, 0, 0, 0, [], []),
  (22, .invokevirtual 135, 19, 1, 0, 0, [], [476, 477, 478, 56, 479]),
  (25, .invokestatic 188, 184, 1, 0, 0, [], [549, 550, 66, 551]),
  (28, .iadd, 0, 0, 0, 0, [], []),
  (29, .ireturn, 0, 0, 0, 0, [], [])]
def p_X8_isFirstOrSecond : List Row := [(0, .iload_n 0, 0, 0, 0, 0, [], []),
  (1, .ifCond .eq 8, 5, 0, 0, 0, [], []),
  (4, .iload_n 0, 0, 0, 0, 0, [], []),
  (5, .iconst 1, 0, 0, 1, 0, [], []),
  (6, .if_icmp .ne 7, 7, 0, 0, 0, [], []),
  (9, .iconst 1, 0, 0, 1, 0, [], []),
  (10, .goto 4, 8, 0, 0, 0, [], []),
  (13, .iconst 0, 0, 0, 0, 0, [], []),
  (14, .ireturn, 0, 0, 0, 0, [], [])]
def p_X8_isUse : List Row := [(0, .iload_n 0, 0, 0, 0, 0, [], []),
  (1, .ifCond .lt 12, 7, 0, 0, 0, [], []),
  (4, .iload_n 0, 0, 0, 0, 0, [], []),
  (5, .iconst 3, 0, 0, 3, 0, [], []),
  (6, .if_icmp .ge 7, 7, 0, 0, 0, [], []),
  (9, .iconst 1, 0, 0, 1, 0, [], []),
  (10, .goto 4, 8, 0, 0, 0, [], []),
  (13, .iconst 0, 0, 0, 0, 0, [], []),
  (14, .ireturn, 0, 0, 0, 0, [], [])]
def p_X8_isSize : List Row := [(0, .iload_n 0, 0, 0, 0, 0, [], []),
  (1, .iconst 1, 0, 0, 1, 0, [], []),
  (2, .if_icmp .lt 13, 8, 0, 0, 0, [], []),
  (5, .iload_n 0, 0, 0, 0, 0, [], []),
  (6, .bipush 99, 0, 0, 99, 0, [], []),
  (8, .if_icmp .gt 7, 8, 0, 0, 0, [], []),
  (11, .iconst 1, 0, 0, 1, 0, [], []),
  (12, .goto 4, 9, 0, 0, 0, [], []),
  (15, .iconst 0, 0, 0, 0, 0, [], []),
  (16, .ireturn, 0, 0, 0, 0, [], [])]
def p_X8_inLowestTerms : List Row := [(0, .lload_n 0, 0, 0, 0, 0, [], []),
  (1, .lload_n 2, 2, 0, 0, 0, [], []),
  (2, .invokestatic 325, 115, 2, 0, 0, [], [737, 738, 53, 739]),
  (5, .lstore 5, 5, 0, 0, 0, [], []),
  (7, .lload 5, 5, 0, 0, 0, [], []),
  (9, .lconst 0, 0, 0, 0, 0, [], []),
  (10, .lcmp, 0, 0, 0, 0, [], []),
  (11, .ifCond .ne 5, 10, 0, 0, 0, [], []),
  (14, .lconst 0, 0, 0, 0, 0, [], []),
  (15, .lreturn, 0, 0, 0, 0, [], []),
  (16, .iload 4, 4, 0, 0, 0, [], []),
  (18, .ifCond .ne 7, 14, 0, 0, 0, [], []),
  (21, .lload_n 0, 0, 0, 0, 0, [], []),
  (22, .goto 4, 15, 0, 0, 0, [], []),
  (25, .lload_n 2, 2, 0, 0, 0, [], []),
  (26, .lload 5, 5, 0, 0, 0, [], []),
  (28, .ldiv, 0, 0, 0, 0, [], []),
  (29, .lreturn, 0, 0, 0, 0, [], [])]
def p_X8_greatestDivisor : List Row := [(0, .iconst 0, 0, 0, 0, 0, [], []),
  (1, .istore 4, 4, 0, 0, 0, [], []),
  (3, .iload 4, 4, 0, 0, 0, [], []),
  (5, .sipush 200, 0, 0, 200, 0, [], []),
  (8, .if_icmp .ge 25, 19, 0, 0, 0, [], []),
  (11, .lload_n 2, 2, 0, 0, 0, [], []),
  (12, .lconst 0, 0, 0, 0, 0, [], []),
  (13, .lcmp, 0, 0, 0, 0, [], []),
  (14, .ifCond .eq 19, 19, 0, 0, 0, [], []),
  (17, .lload_n 0, 0, 0, 0, 0, [], []),
  (18, .lload_n 2, 2, 0, 0, 0, [], []),
  (19, .lrem, 0, 0, 0, 0, [], []),
  (20, .lstore 5, 5, 0, 0, 0, [], []),
  (22, .lload_n 2, 2, 0, 0, 0, [], []),
  (23, .lstore_n 0, 0, 0, 0, 0, [], []),
  (24, .lload 5, 5, 0, 0, 0, [], []),
  (26, .lstore_n 2, 2, 0, 0, 0, [], []),
  (27, .iinc 4 1, 4, 0, 1, 0, [], []),
  (30, .goto (-27), 2, 0, 0, 0, [], []),
  (33, .lload_n 0, 0, 0, 0, 0, [], []),
  (34, .lreturn, 0, 0, 0, 0, [], [])]
def p_X8_waysToChoose : List Row := [(0, .lconst 1, 0, 0, 0, 1, [], []),
  (1, .lstore_n 2, 2, 0, 0, 0, [], []),
  (2, .iconst 1, 0, 0, 1, 0, [], []),
  (3, .istore 4, 4, 0, 0, 0, [], []),
  (5, .iload 4, 4, 0, 0, 0, [], []),
  (7, .iload_n 1, 1, 0, 0, 0, [], []),
  (8, .if_icmp .gt 23, 21, 0, 0, 0, [], []),
  (11, .lload_n 2, 2, 0, 0, 0, [], []),
  (12, .iload_n 0, 0, 0, 0, 0, [], []),
  (13, .iload 4, 4, 0, 0, 0, [], []),
  (15, .isub, 0, 0, 0, 0, [], []),
  (16, .iconst 1, 0, 0, 1, 0, [], []),
  (17, .iadd, 0, 0, 0, 0, [], []),
  (18, .i2l, 0, 0, 0, 0, [], []),
  (19, .lmul, 0, 0, 0, 0, [], []),
  (20, .iload 4, 4, 0, 0, 0, [], []),
  (22, .i2l, 0, 0, 0, 0, [], []),
  (23, .ldiv, 0, 0, 0, 0, [], []),
  (24, .lstore_n 2, 2, 0, 0, 0, [], []),
  (25, .iinc 4 1, 4, 0, 1, 0, [], []),
  (28, .goto (-23), 4, 0, 0, 0, [], []),
  (31, .lload_n 2, 2, 0, 0, 0, [], []),
  (32, .lreturn, 0, 0, 0, 0, [], [])]
def p_X8_power : List Row := [(0, .lconst 1, 0, 0, 0, 1, [], []),
  (1, .lstore_n 2, 2, 0, 0, 0, [], []),
  (2, .iconst 0, 0, 0, 0, 0, [], []),
  (3, .istore 4, 4, 0, 0, 0, [], []),
  (5, .iload 4, 4, 0, 0, 0, [], []),
  (7, .iload_n 1, 1, 0, 0, 0, [], []),
  (8, .if_icmp .ge 14, 14, 0, 0, 0, [], []),
  (11, .lload_n 2, 2, 0, 0, 0, [], []),
  (12, .iload_n 0, 0, 0, 0, 0, [], []),
  (13, .i2l, 0, 0, 0, 0, [], []),
  (14, .lmul, 0, 0, 0, 0, [], []),
  (15, .lstore_n 2, 2, 0, 0, 0, [], []),
  (16, .iinc 4 1, 4, 0, 1, 0, [], []),
  (19, .goto (-14), 4, 0, 0, 0, [], []),
  (22, .lload_n 2, 2, 0, 0, 0, [], []),
  (23, .lreturn, 0, 0, 0, 0, [], [])]
def p_X9_init : List Row := [(0, .aload_n 0, 0, 0, 0, 0, [], []),
  (1, .invokespecial 1, 901, 0, 0, 0, [], [820, 73, 74]),
  (4, .aload_n 0, 0, 0, 0, 0, [], []),
  (5, .sipush 200, 0, 0, 200, 0, [], []),
  (8, .newarray .int, 0, 0, 0, 0, [], [191]),
  (10, .putfield 7, 9, 2, 0, 0, [], [827]),
  (13, .aload_n 0, 0, 0, 0, 0, [], []),
  (14, .bipush 6, 0, 0, 6, 0, [], []),
  (16, .newarray .int, 0, 0, 0, 0, [], [191]),
  (18, .putfield 13, 9, 9, 0, 0, [], [834]),
  (21, .aload_n 0, 0, 0, 0, 0, [], []),
  (22, .bipush 48, 0, 0, 48, 0, [], []),
  (24, .newarray .int, 0, 0, 0, 0, [], [191]),
  (26, .putfield 16, 9, 10, 0, 0, [], [835]),
  (29, .aload_n 0, 0, 0, 0, 0, [], []),
  (30, .bipush 20, 0, 0, 20, 0, [], []),
  (32, .newarray .int, 0, 0, 0, 0, [], [191]),
  (34, .putfield 19, 9, 11, 0, 0, [], [836]),
  (37, .aload_n 0, 0, 0, 0, 0, [], []),
  (38, .bipush 24, 0, 0, 24, 0, [], []),
  (40, .newarray .int, 0, 0, 0, 0, [], [191]),
  (42, .putfield 22, 9, 12, 0, 0, [], [837]),
  (45, .aload_n 0, 0, 0, 0, 0, [], []),
  (46, .bipush 12, 0, 0, 12, 0, [], []),
  (48, .newarray .int, 0, 0, 0, 0, [], [191]),
  (50, .putfield 25, 9, 13, 0, 0, [], [838]),
  (53, .aload_n 0, 0, 0, 0, 0, [], []),
  (54, .bipush 17, 0, 0, 17, 0, [], []),
  (56, .newarray .int, 0, 0, 0, 0, [], [191]),
  (58, .putfield 28, 9, 14, 0, 0, [], [839]),
  (61, .aload_n 0, 0, 0, 0, 0, [], []),
  (62, .bipush 34, 0, 0, 34, 0, [], []),
  (64, .newarray .int, 0, 0, 0, 0, [], [191]),
  (66, .putfield 31, 9, 15, 0, 0, [], [840]),
  (69, .aload_n 0, 0, 0, 0, 0, [], []),
  (70, .iconst 2, 0, 0, 2, 0, [], []),
  (71, .newarray .boolean, 1, 0, 0, 0, [], [300]),
  (73, .putfield 34, 9, 16, 0, 0, [], [841]),
  (76, .aload_n 0, 0, 0, 0, 0, [], []),
  (77, .sipush 170, 0, 0, 170, 0, [], []),
  (80, .newarray .int, 0, 0, 0, 0, [], [191]),
  (82, .putfield 38, 9, 17, 0, 0, [], [842]),
  (85, .aload_n 0, 0, 0, 0, 0, [], []),
  (86, .bipush 6, 0, 0, 6, 0, [], []),
  (88, .newarray .int, 0, 0, 0, 0, [], [191]),
  (90, .putfield 41, 9, 19, 0, 0, [], [844]),
  (93, .aload_n 0, 0, 0, 0, 0, [], []),
  (94, .bipush 6, 0, 0, 6, 0, [], []),
  (96, .newarray .int, 0, 0, 0, 0, [], [191]),
  (98, .putfield 44, 9, 20, 0, 0, [], [845]),
  (101, .aload_n 0, 0, 0, 0, 0, [], []),
  (102, .bipush 15, 0, 0, 15, 0, [], []),
  (104, .newarray .int, 0, 0, 0, 0, [], [191]),
  (106, .putfield 47, 9, 22, 0, 0, [], [847]),
  (109, .aload_n 0, 0, 0, 0, 0, [], []),
  (110, .bipush 6, 0, 0, 6, 0, [], []),
  (112, .newarray .int, 0, 0, 0, 0, [], [191]),
  (114, .putfield 50, 9, 23, 0, 0, [], [848]),
  (117, .aload_n 0, 0, 0, 0, 0, [], []),
  (118, .bipush 6, 0, 0, 6, 0, [], []),
  (120, .newarray .int, 0, 0, 0, 0, [], [191]),
  (122, .putfield 53, 9, 24, 0, 0, [], [849]),
  (125, .aload_n 0, 0, 0, 0, 0, [], []),
  (126, .iconst 0, 0, 0, 0, 0, [], []),
  (127, .invokevirtual 56, 119, 1, 0, 0, [], [821, 823, 22, 62, 824]),
  (130, .return_, 0, 0, 0, 0, [], [])]
def p_X9_firstLaws : List Row := [(0, .aload_n 0, 0, 0, 0, 0, [], []),
  (1, .getfield 25, 9, 13, 0, 0, [], [838]),
  (4, .iload_n 1, 1, 0, 0, 0, [], []),
  (5, .iconst 4, 0, 0, 4, 0, [], []),
  (6, .iastore, 0, 0, 0, 0, [], []),
  (7, .aload_n 0, 0, 0, 0, 0, [], []),
  (8, .getfield 25, 9, 13, 0, 0, [], [838]),
  (11, .iload_n 1, 1, 0, 0, 0, [], []),
  (12, .iconst 1, 0, 0, 1, 0, [], []),
  (13, .iadd, 0, 0, 0, 0, [], []),
  (14, .bipush 6, 0, 0, 6, 0, [], []),
  (16, .iastore, 0, 0, 0, 0, [], []),
  (17, .aload_n 0, 0, 0, 0, 0, [], []),
  (18, .getfield 25, 9, 13, 0, 0, [], [838]),
  (21, .iload_n 1, 1, 0, 0, 0, [], []),
  (22, .iconst 2, 0, 0, 2, 0, [], []),
  (23, .iadd, 0, 0, 0, 0, [], []),
  (24, .bipush 20, 0, 0, 20, 0, [], []),
  (26, .iastore, 0, 0, 0, 0, [], []),
  (27, .aload_n 0, 0, 0, 0, 0, [], []),
  (28, .getfield 25, 9, 13, 0, 0, [], [838]),
  (31, .iload_n 1, 1, 0, 0, 0, [], []),
  (32, .iconst 3, 0, 0, 3, 0, [], []),
  (33, .iadd, 0, 0, 0, 0, [], []),
  (34, .bipush 24, 0, 0, 24, 0, [], []),
  (36, .iastore, 0, 0, 0, 0, [], []),
  (37, .aload_n 0, 0, 0, 0, 0, [], []),
  (38, .getfield 25, 9, 13, 0, 0, [], [838]),
  (41, .iload_n 1, 1, 0, 0, 0, [], []),
  (42, .iconst 4, 0, 0, 4, 0, [], []),
  (43, .iadd, 0, 0, 0, 0, [], []),
  (44, .bipush 21, 0, 0, 21, 0, [], []),
  (46, .iastore, 0, 0, 0, 0, [], []),
  (47, .aload_n 0, 0, 0, 0, 0, [], []),
  (48, .getfield 25, 9, 13, 0, 0, [], [838]),
  (51, .iload_n 1, 1, 0, 0, 0, [], []),
  (52, .iconst 5, 0, 0, 5, 0, [], []),
  (53, .iadd, 0, 0, 0, 0, [], []),
  (54, .bipush 40, 0, 0, 40, 0, [], []),
  (56, .iastore, 0, 0, 0, 0, [], []),
  (57, .return_, 0, 0, 0, 0, [], [])]
def p_X9_in : List Row := [(0, .iload_n 0, 0, 0, 0, 0, [], []),
  (1, .iload_n 1, 1, 0, 0, 0, [], []),
  (2, .if_icmp .lt 12, 8, 0, 0, 0, [], []),
  (5, .iload_n 0, 0, 0, 0, 0, [], []),
  (6, .iload_n 2, 2, 0, 0, 0, [], []),
  (7, .if_icmp .gt 7, 8, 0, 0, 0, [], []),
  (10, .iconst 1, 0, 0, 1, 0, [], []),
  (11, .goto 4, 9, 0, 0, 0, [], []),
  (14, .iconst 0, 0, 0, 0, 0, [], []),
  (15, .ireturn, 0, 0, 0, 0, [], [])]
def p_X9_ones : List Row := [(0, .iconst 0, 0, 0, 0, 0, [], []),
  (1, .istore_n 1, 1, 0, 0, 0, [], []),
  (2, .iconst 0, 0, 0, 0, 0, [], []),
  (3, .istore_n 2, 2, 0, 0, 0, [], []),
  (4, .iload_n 2, 2, 0, 0, 0, [], []),
  (5, .bipush 6, 0, 0, 6, 0, [], []),
  (7, .if_icmp .ge 17, 17, 0, 0, 0, [], []),
  (10, .iload_n 1, 1, 0, 0, 0, [], []),
  (11, .iload_n 0, 0, 0, 0, 0, [], []),
  (12, .iload_n 2, 2, 0, 0, 0, [], []),
  (13, .ishr, 0, 0, 0, 0, [], []),
  (14, .iconst 1, 0, 0, 1, 0, [], []),
  (15, .iand, 0, 0, 0, 0, [], []),
  (16, .iadd, 0, 0, 0, 0, [], []),
  (17, .istore_n 1, 1, 0, 0, 0, [], []),
  (18, .iinc 2 1, 2, 0, 1, 0, [], []),
  (21, .goto (-17), 4, 0, 0, 0, [], []),
  (24, .iload_n 1, 1, 0, 0, 0, [], []),
  (25, .ireturn, 0, 0, 0, 0, [], [])]
def p_X9_type : List Row := [(0, .aload_n 0, 0, 0, 0, 0, [], []),
  (1, .iconst 0, 0, 0, 0, 0, [], []),
  (2, .putfield 60, 9, 0, 0, 0, [], [825]),
  (5, .iload_n 1, 1, 0, 0, 0, [], []),
  (6, .iconst 0, 0, 0, 0, 0, [], []),
  (7, .sipush 255, 0, 0, 255, 0, [], []),
  (10, .invokestatic 64, 120, 3, 0, 0, [], [905, 906, 62, 907]),
  (13, .ifCond .ne 5, 10, 0, 0, 0, [], []),
  (16, .iconst (-1), 0, 0, (-1), 0, [], []),
  (17, .ireturn, 0, 0, 0, 0, [], []),
  (18, .aload_n 0, 0, 0, 0, 0, [], []),
  (19, .getfield 68, 9, 3, 0, 0, [], [828]),
  (22, .sipush 200, 0, 0, 200, 0, [], []),
  (25, .if_icmp .ne 6, 16, 0, 0, 0, [], []),
  (28, .bipush (-3), 0, 0, (-3), 0, [], []),
  (30, .ireturn, 0, 0, 0, 0, [], []),
  (31, .aload_n 0, 0, 0, 0, 0, [], []),
  (32, .getfield 7, 9, 2, 0, 0, [], [827]),
  (35, .aload_n 0, 0, 0, 0, 0, [], []),
  (36, .getfield 68, 9, 3, 0, 0, [], [828]),
  (39, .iload_n 1, 1, 0, 0, 0, [], []),
  (40, .iastore, 0, 0, 0, 0, [], []),
  (41, .aload_n 0, 0, 0, 0, 0, [], []),
  (42, .dup, 0, 0, 0, 0, [], []),
  (43, .getfield 68, 9, 3, 0, 0, [], [828]),
  (46, .iconst 1, 0, 0, 1, 0, [], []),
  (47, .iadd, 0, 0, 0, 0, [], []),
  (48, .putfield 68, 9, 3, 0, 0, [], [828]),
  (51, .aload_n 0, 0, 0, 0, 0, [], []),
  (52, .getfield 68, 9, 3, 0, 0, [], [828]),
  (55, .ireturn, 0, 0, 0, 0, [], [])]
def p_X9_clear : List Row := [(0, .aload_n 0, 0, 0, 0, 0, [], []),
  (1, .iconst 0, 0, 0, 0, 0, [], []),
  (2, .putfield 60, 9, 0, 0, 0, [], [825]),
  (5, .aload_n 0, 0, 0, 0, 0, [], []),
  (6, .getfield 68, 9, 3, 0, 0, [], [828]),
  (9, .istore_n 1, 1, 0, 0, 0, [], []),
  (10, .aload_n 0, 0, 0, 0, 0, [], []),
  (11, .iconst 0, 0, 0, 0, 0, [], []),
  (12, .putfield 68, 9, 3, 0, 0, [], [828]),
  (15, .iload_n 1, 1, 0, 0, 0, [], []),
  (16, .ireturn, 0, 0, 0, 0, [], [])]
def p_X9_letterAt : List Row := [(0, .iload_n 1, 1, 0, 0, 0, [], []),
  (1, .aload_n 0, 0, 0, 0, 0, [], []),
  (2, .getfield 68, 9, 3, 0, 0, [], [828]),
  (5, .if_icmp .ge 12, 9, 0, 0, 0, [], []),
  (8, .aload_n 0, 0, 0, 0, 0, [], []),
  (9, .getfield 7, 9, 2, 0, 0, [], [827]),
  (12, .iload_n 1, 1, 0, 0, 0, [], []),
  (13, .iaload, 0, 0, 0, 0, [], []),
  (14, .goto 4, 10, 0, 0, 0, [], []),
  (17, .iconst (-1), 0, 0, (-1), 0, [], []),
  (18, .ireturn, 0, 0, 0, 0, [], [])]
def p_X9_advances : List Row := [(0, .aload_n 0, 0, 0, 0, 0, [], []),
  (1, .aload_n 0, 0, 0, 0, 0, [], []),
  (2, .getfield 71, 9, 4, 0, 0, [], [829]),
  (5, .invokevirtual 74, 124, 1, 0, 0, [], [920, 922, 24, 62, 923]),
  (8, .bipush 32, 0, 0, 32, 0, [], []),
  (10, .if_icmp .ne 16, 13, 0, 0, 0, [], []),
  (13, .aload_n 0, 0, 0, 0, 0, [], []),
  (14, .dup, 0, 0, 0, 0, [], []),
  (15, .getfield 71, 9, 4, 0, 0, [], [829]),
  (18, .iconst 1, 0, 0, 1, 0, [], []),
  (19, .iadd, 0, 0, 0, 0, [], []),
  (20, .putfield 71, 9, 4, 0, 0, [], [829]),
  (23, .goto (-23), 0, 0, 0, 0, [], []),
  (26, .aload_n 0, 0, 0, 0, 0, [], []),
  (27, .aload_n 0, 0, 0, 0, 0, [], []),
  (28, .getfield 71, 9, 4, 0, 0, [], [829]),
  (31, .putfield 78, 9, 6, 0, 0, [], [831]),
  (34, .aload_n 0, 0, 0, 0, 0, [], []),
  (35, .aload_n 0, 0, 0, 0, 0, [], []),
  (36, .getfield 71, 9, 4, 0, 0, [], [829]),
  (39, .invokevirtual 74, 124, 1, 0, 0, [], [920, 922, 24, 62, 923]),
  (42, .istore_n 1, 1, 0, 0, 0, [], []),
  (43, .iload_n 1, 1, 0, 0, 0, [], []),
  (44, .ifCond .ge 11, 28, 0, 0, 0, [], []),
  (47, .aload_n 0, 0, 0, 0, 0, [], []),
  (48, .iconst 0, 0, 0, 0, 0, [], []),
  (49, .putfield 81, 9, 5, 0, 0, [], [830]),
  (52, .goto 187, 122, 0, 0, 0, [], []),
  (55, .iload_n 1, 1, 0, 0, 0, [], []),
  (56, .bipush 48, 0, 0, 48, 0, [], []),
  (58, .bipush 57, 0, 0, 57, 0, [], []),
  (60, .invokestatic 64, 120, 3, 0, 0, [], [905, 906, 62, 907]),
  (63, .ifCond .eq 118, 91, 0, 0, 0, [], []),
  (66, .aload_n 0, 0, 0, 0, 0, [], []),
  (67, .iconst 0, 0, 0, 0, 0, [], []),
  (68, .putfield 84, 9, 7, 0, 0, [], [832]),
  (71, .aload_n 0, 0, 0, 0, 0, [], []),
  (72, .aload_n 0, 0, 0, 0, 0, [], []),
  (73, .getfield 71, 9, 4, 0, 0, [], [829]),
  (76, .invokevirtual 74, 124, 1, 0, 0, [], [920, 922, 24, 62, 923]),
  (79, .bipush 48, 0, 0, 48, 0, [], []),
  (81, .bipush 57, 0, 0, 57, 0, [], []),
  (83, .invokestatic 64, 120, 3, 0, 0, [], [905, 906, 62, 907]),
  (86, .ifCond .eq 55, 71, 0, 0, 0, [], []),
  (89, .aload_n 0, 0, 0, 0, 0, [], []),
  (90, .aload_n 0, 0, 0, 0, 0, [], []),
  (91, .getfield 84, 9, 7, 0, 0, [], [832]),
  (94, .bipush 99, 0, 0, 99, 0, [], []),
  (96, .if_icmp .le 10, 52, 0, 0, 0, [], []),
  (99, .aload_n 0, 0, 0, 0, 0, [], []),
  (100, .getfield 84, 9, 7, 0, 0, [], [832]),
  (103, .goto 22, 63, 0, 0, 0, [], []),
  (106, .bipush 10, 0, 0, 10, 0, [], []),
  (108, .aload_n 0, 0, 0, 0, 0, [], []),
  (109, .getfield 84, 9, 7, 0, 0, [], [832]),
  (112, .imul, 0, 0, 0, 0, [], []),
  (113, .aload_n 0, 0, 0, 0, 0, [], []),
  (114, .aload_n 0, 0, 0, 0, 0, [], []),
  (115, .getfield 71, 9, 4, 0, 0, [], [829]),
  (118, .invokevirtual 74, 124, 1, 0, 0, [], [920, 922, 24, 62, 923]),
  (121, .iadd, 0, 0, 0, 0, [], []),
  (122, .bipush 48, 0, 0, 48, 0, [], []),
  (124, .isub, 0, 0, 0, 0, [], []),
  (125, .putfield 84, 9, 7, 0, 0, [], [832]),
  (128, .aload_n 0, 0, 0, 0, 0, [], []),
  (129, .dup, 0, 0, 0, 0, [], []),
  (130, .getfield 71, 9, 4, 0, 0, [], [829]),
  (133, .iconst 1, 0, 0, 1, 0, [], []),
  (134, .iadd, 0, 0, 0, 0, [], []),
  (135, .putfield 71, 9, 4, 0, 0, [], [829]),
  (138, .goto (-67), 36, 0, 0, 0, [], []),
  (141, .aload_n 0, 0, 0, 0, 0, [], []),
  (142, .aload_n 0, 0, 0, 0, 0, [], []),
  (143, .getfield 84, 9, 7, 0, 0, [], [832]),
  (146, .bipush 99, 0, 0, 99, 0, [], []),
  (148, .if_icmp .gt 22, 86, 0, 0, 0, [], []),
  (151, .iload_n 1, 1, 0, 0, 0, [], []),
  (152, .bipush 48, 0, 0, 48, 0, [], []),
  (154, .if_icmp .ne 20, 88, 0, 0, 0, [], []),
  (157, .aload_n 0, 0, 0, 0, 0, [], []),
  (158, .getfield 71, 9, 4, 0, 0, [], [829]),
  (161, .aload_n 0, 0, 0, 0, 0, [], []),
  (162, .getfield 78, 9, 6, 0, 0, [], [831]),
  (165, .isub, 0, 0, 0, 0, [], []),
  (166, .iconst 1, 0, 0, 1, 0, [], []),
  (167, .if_icmp .le 7, 88, 0, 0, 0, [], []),
  (170, .iconst 4, 0, 0, 4, 0, [], []),
  (171, .goto 4, 89, 0, 0, 0, [], []),
  (174, .iconst 2, 0, 0, 2, 0, [], []),
  (175, .putfield 81, 9, 5, 0, 0, [], [830]),
  (178, .goto 61, 122, 0, 0, 0, [], []),
  (181, .aload_n 0, 0, 0, 0, 0, [], []),
  (182, .dup, 0, 0, 0, 0, [], []),
  (183, .getfield 71, 9, 4, 0, 0, [], [829]),
  (186, .iconst 1, 0, 0, 1, 0, [], []),
  (187, .iadd, 0, 0, 0, 0, [], []),
  (188, .putfield 71, 9, 4, 0, 0, [], [829]),
  (191, .aload_n 0, 0, 0, 0, 0, [], []),
  (192, .iload_n 1, 1, 0, 0, 0, [], []),
  (193, .putfield 84, 9, 7, 0, 0, [], [832]),
  (196, .aload_n 0, 0, 0, 0, 0, [], []),
  (197, .iload_n 1, 1, 0, 0, 0, [], []),
  (198, .bipush 59, 0, 0, 59, 0, [], []),
  (200, .if_icmp .ne 7, 106, 0, 0, 0, [], []),
  (203, .iconst 3, 0, 0, 3, 0, [], []),
  (204, .goto 32, 121, 0, 0, 0, [], []),
  (207, .iload_n 1, 1, 0, 0, 0, [], []),
  (208, .bipush 107, 0, 0, 107, 0, [], []),
  (210, .if_icmp .eq 21, 118, 0, 0, 0, [], []),
  (213, .iload_n 1, 1, 0, 0, 0, [], []),
  (214, .bipush 116, 0, 0, 116, 0, [], []),
  (216, .if_icmp .eq 15, 118, 0, 0, 0, [], []),
  (219, .iload_n 1, 1, 0, 0, 0, [], []),
  (220, .bipush 112, 0, 0, 112, 0, [], []),
  (222, .if_icmp .eq 9, 118, 0, 0, 0, [], []),
  (225, .iload_n 1, 1, 0, 0, 0, [], []),
  (226, .bipush 100, 0, 0, 100, 0, [], []),
  (228, .if_icmp .ne 7, 120, 0, 0, 0, [], []),
  (231, .iconst 1, 0, 0, 1, 0, [], []),
  (232, .goto 4, 121, 0, 0, 0, [], []),
  (235, .iconst 4, 0, 0, 4, 0, [], []),
  (236, .putfield 81, 9, 5, 0, 0, [], [830]),
  (239, .return_, 0, 0, 0, 0, [], [])]
def p_X9_isWell : List Row := [(0, .aload_n 0, 0, 0, 0, 0, [], []),
  (1, .getfield 87, 9, 8, 0, 0, [], [833]),
  (4, .ifCond .ge 7, 5, 0, 0, 0, [], []),
  (7, .iconst 1, 0, 0, 1, 0, [], []),
  (8, .goto 4, 6, 0, 0, 0, [], []),
  (11, .iconst 0, 0, 0, 0, 0, [], []),
  (12, .ireturn, 0, 0, 0, 0, [], [])]
def p_X9_takes : List Row := [(0, .aload_n 0, 0, 0, 0, 0, [], []),
  (1, .invokevirtual 90, 126, 0, 0, 0, [], [924, 926, 25, 62, 927]),
  (4, .ifCond .ne 5, 5, 0, 0, 0, [], []),
  (7, .iconst 0, 0, 0, 0, 0, [], []),
  (8, .ireturn, 0, 0, 0, 0, [], []),
  (9, .iload_n 1, 1, 0, 0, 0, [], []),
  (10, .ifCond .ne 13, 13, 0, 0, 0, [], []),
  (13, .aload_n 0, 0, 0, 0, 0, [], []),
  (14, .aload_n 0, 0, 0, 0, 0, [], []),
  (15, .getfield 78, 9, 6, 0, 0, [], [831]),
  (18, .putfield 87, 9, 8, 0, 0, [], [833]),
  (21, .iconst 0, 0, 0, 0, 0, [], []),
  (22, .ireturn, 0, 0, 0, 0, [], []),
  (23, .aload_n 0, 0, 0, 0, 0, [], []),
  (24, .getfield 84, 9, 7, 0, 0, [], [832]),
  (27, .istore_n 2, 2, 0, 0, 0, [], []),
  (28, .aload_n 0, 0, 0, 0, 0, [], []),
  (29, .invokevirtual 94, 125, 0, 0, 0, [], [916, 918, 23, 62, 919]),
  (32, .iload_n 2, 2, 0, 0, 0, [], []),
  (33, .ireturn, 0, 0, 0, 0, [], [])]
def p_X9_number : List Row := [(0, .aload_n 0, 0, 0, 0, 0, [], []),
  (1, .aload_n 0, 0, 0, 0, 0, [], []),
  (2, .getfield 81, 9, 5, 0, 0, [], [830]),
  (5, .iconst 2, 0, 0, 2, 0, [], []),
  (6, .if_icmp .ne 19, 13, 0, 0, 0, [], []),
  (9, .aload_n 0, 0, 0, 0, 0, [], []),
  (10, .getfield 84, 9, 7, 0, 0, [], [832]),
  (13, .iload_n 1, 1, 0, 0, 0, [], []),
  (14, .iload_n 2, 2, 0, 0, 0, [], []),
  (15, .invokestatic 64, 120, 3, 0, 0, [], [905, 906, 62, 907]),
  (18, .ifCond .eq 7, 13, 0, 0, 0, [], []),
  (21, .iconst 1, 0, 0, 1, 0, [], []),
  (22, .goto 4, 14, 0, 0, 0, [], []),
  (25, .iconst 0, 0, 0, 0, 0, [], []),
  (26, .invokevirtual 97, 127, 1, 0, 0, [], [932, 934, 27, 62, 935]),
  (29, .ireturn, 0, 0, 0, 0, [], [])]
def p_X9_mayBegin : List Row := [(0, .aload_n 0, 0, 0, 0, 0, [], []),
  (1, .getfield 84, 9, 7, 0, 0, [], [832]),
  (4, .bipush 107, 0, 0, 107, 0, [], []),
  (6, .if_icmp .eq 58, 32, 0, 0, 0, [], []),
  (9, .aload_n 0, 0, 0, 0, 0, [], []),
  (10, .getfield 84, 9, 7, 0, 0, [], [832]),
  (13, .bipush 116, 0, 0, 116, 0, [], []),
  (15, .if_icmp .ne 17, 15, 0, 0, 0, [], []),
  (18, .aload_n 0, 0, 0, 0, 0, [], []),
  (19, .getfield 13, 9, 9, 0, 0, [], [834]),
  (22, .iconst 3, 0, 0, 3, 0, [], []),
  (23, .iaload, 0, 0, 0, 0, [], []),
  (24, .bipush 6, 0, 0, 6, 0, [], []),
  (26, .if_icmp .ge 42, 34, 0, 0, 0, [], []),
  (29, .goto 35, 32, 0, 0, 0, [], []),
  (32, .aload_n 0, 0, 0, 0, 0, [], []),
  (33, .getfield 84, 9, 7, 0, 0, [], [832]),
  (36, .bipush 112, 0, 0, 112, 0, [], []),
  (38, .if_icmp .ne 16, 26, 0, 0, 0, [], []),
  (41, .aload_n 0, 0, 0, 0, 0, [], []),
  (42, .getfield 13, 9, 9, 0, 0, [], [834]),
  (45, .iconst 4, 0, 0, 4, 0, [], []),
  (46, .iaload, 0, 0, 0, 0, [], []),
  (47, .iconst 5, 0, 0, 5, 0, [], []),
  (48, .if_icmp .ge 20, 34, 0, 0, 0, [], []),
  (51, .goto 13, 32, 0, 0, 0, [], []),
  (54, .aload_n 0, 0, 0, 0, 0, [], []),
  (55, .getfield 13, 9, 9, 0, 0, [], [834]),
  (58, .iconst 5, 0, 0, 5, 0, [], []),
  (59, .iaload, 0, 0, 0, 0, [], []),
  (60, .iconst 3, 0, 0, 3, 0, [], []),
  (61, .if_icmp .ge 7, 34, 0, 0, 0, [], []),
  (64, .iconst 1, 0, 0, 1, 0, [], []),
  (65, .goto 4, 35, 0, 0, 0, [], []),
  (68, .iconst 0, 0, 0, 0, 0, [], []),
  (69, .ireturn, 0, 0, 0, 0, [], [])]
def p_X9_readsItem : List Row := [(0, .iload_n 1, 1, 0, 0, 0, [], []),
  (1, .bipush 107, 0, 0, 107, 0, [], []),
  (3, .if_icmp .ne 55, 37, 0, 0, 0, [], []),
  (6, .aload_n 0, 0, 0, 0, 0, [], []),
  (7, .iconst 0, 0, 0, 0, 0, [], []),
  (8, .iconst 2, 0, 0, 2, 0, [], []),
  (9, .invokevirtual 101, 128, 2, 0, 0, [], [940, 942, 29, 62, 943]),
  (12, .istore_n 2, 2, 0, 0, 0, [], []),
  (13, .aload_n 0, 0, 0, 0, 0, [], []),
  (14, .iconst 0, 0, 0, 0, 0, [], []),
  (15, .bipush 60, 0, 0, 60, 0, [], []),
  (17, .invokevirtual 101, 128, 2, 0, 0, [], [940, 942, 29, 62, 943]),
  (20, .istore_n 3, 3, 0, 0, 0, [], []),
  (21, .aload_n 0, 0, 0, 0, 0, [], []),
  (22, .iload_n 3, 3, 0, 0, 0, [], []),
  (23, .bipush 60, 0, 0, 60, 0, [], []),
  (25, .invokevirtual 101, 128, 2, 0, 0, [], [940, 942, 29, 62, 943]),
  (28, .istore 4, 4, 0, 0, 0, [], []),
  (30, .aload_n 0, 0, 0, 0, 0, [], []),
  (31, .getfield 25, 9, 13, 0, 0, [], [838]),
  (34, .bipush 6, 0, 0, 6, 0, [], []),
  (36, .iconst 2, 0, 0, 2, 0, [], []),
  (37, .iload_n 2, 2, 0, 0, 0, [], []),
  (38, .imul, 0, 0, 0, 0, [], []),
  (39, .iadd, 0, 0, 0, 0, [], []),
  (40, .iload_n 3, 3, 0, 0, 0, [], []),
  (41, .iastore, 0, 0, 0, 0, [], []),
  (42, .aload_n 0, 0, 0, 0, 0, [], []),
  (43, .getfield 25, 9, 13, 0, 0, [], [838]),
  (46, .bipush 7, 0, 0, 7, 0, [], []),
  (48, .iconst 2, 0, 0, 2, 0, [], []),
  (49, .iload_n 2, 2, 0, 0, 0, [], []),
  (50, .imul, 0, 0, 0, 0, [], []),
  (51, .iadd, 0, 0, 0, 0, [], []),
  (52, .iload 4, 4, 0, 0, 0, [], []),
  (54, .iastore, 0, 0, 0, 0, [], []),
  (55, .goto 243, 198, 0, 0, 0, [], []),
  (58, .iload_n 1, 1, 0, 0, 0, [], []),
  (59, .bipush 116, 0, 0, 116, 0, [], []),
  (61, .if_icmp .ne 85, 96, 0, 0, 0, [], []),
  (64, .bipush 24, 0, 0, 24, 0, [], []),
  (66, .iconst 4, 0, 0, 4, 0, [], []),
  (67, .aload_n 0, 0, 0, 0, 0, [], []),
  (68, .getfield 13, 9, 9, 0, 0, [], [834]),
  (71, .iconst 3, 0, 0, 3, 0, [], []),
  (72, .iaload, 0, 0, 0, 0, [], []),
  (73, .imul, 0, 0, 0, 0, [], []),
  (74, .iadd, 0, 0, 0, 0, [], []),
  (75, .istore_n 2, 2, 0, 0, 0, [], []),
  (76, .aload_n 0, 0, 0, 0, 0, [], []),
  (77, .getfield 16, 9, 10, 0, 0, [], [835]),
  (80, .iload_n 2, 2, 0, 0, 0, [], []),
  (81, .aload_n 0, 0, 0, 0, 0, [], []),
  (82, .iconst 0, 0, 0, 0, 0, [], []),
  (83, .iconst 2, 0, 0, 2, 0, [], []),
  (84, .invokevirtual 101, 128, 2, 0, 0, [], [940, 942, 29, 62, 943]),
  (87, .iastore, 0, 0, 0, 0, [], []),
  (88, .aload_n 0, 0, 0, 0, 0, [], []),
  (89, .getfield 16, 9, 10, 0, 0, [], [835]),
  (92, .iload_n 2, 2, 0, 0, 0, [], []),
  (93, .iconst 1, 0, 0, 1, 0, [], []),
  (94, .iadd, 0, 0, 0, 0, [], []),
  (95, .aload_n 0, 0, 0, 0, 0, [], []),
  (96, .iconst 1, 0, 0, 1, 0, [], []),
  (97, .bipush 48, 0, 0, 48, 0, [], []),
  (99, .invokevirtual 101, 128, 2, 0, 0, [], [940, 942, 29, 62, 943]),
  (102, .iastore, 0, 0, 0, 0, [], []),
  (103, .aload_n 0, 0, 0, 0, 0, [], []),
  (104, .getfield 16, 9, 10, 0, 0, [], [835]),
  (107, .iload_n 2, 2, 0, 0, 0, [], []),
  (108, .iconst 2, 0, 0, 2, 0, [], []),
  (109, .iadd, 0, 0, 0, 0, [], []),
  (110, .aload_n 0, 0, 0, 0, 0, [], []),
  (111, .iconst 1, 0, 0, 1, 0, [], []),
  (112, .bipush 99, 0, 0, 99, 0, [], []),
  (114, .invokevirtual 101, 128, 2, 0, 0, [], [940, 942, 29, 62, 943]),
  (117, .iastore, 0, 0, 0, 0, [], []),
  (118, .aload_n 0, 0, 0, 0, 0, [], []),
  (119, .getfield 16, 9, 10, 0, 0, [], [835]),
  (122, .iload_n 2, 2, 0, 0, 0, [], []),
  (123, .iconst 3, 0, 0, 3, 0, [], []),
  (124, .iadd, 0, 0, 0, 0, [], []),
  (125, .aload_n 0, 0, 0, 0, 0, [], []),
  (126, .iconst 1, 0, 0, 1, 0, [], []),
  (127, .bipush 9, 0, 0, 9, 0, [], []),
  (129, .invokevirtual 101, 128, 2, 0, 0, [], [940, 942, 29, 62, 943]),
  (132, .iastore, 0, 0, 0, 0, [], []),
  (133, .aload_n 0, 0, 0, 0, 0, [], []),
  (134, .getfield 13, 9, 9, 0, 0, [], [834]),
  (137, .iconst 3, 0, 0, 3, 0, [], []),
  (138, .dup2, 0, 0, 0, 0, [], []),
  (139, .iaload, 0, 0, 0, 0, [], []),
  (140, .iconst 1, 0, 0, 1, 0, [], []),
  (141, .iadd, 0, 0, 0, 0, [], []),
  (142, .iastore, 0, 0, 0, 0, [], []),
  (143, .goto 155, 198, 0, 0, 0, [], []),
  (146, .iload_n 1, 1, 0, 0, 0, [], []),
  (147, .bipush 112, 0, 0, 112, 0, [], []),
  (149, .if_icmp .ne 62, 138, 0, 0, 0, [], []),
  (152, .aload_n 0, 0, 0, 0, 0, [], []),
  (153, .getfield 19, 9, 11, 0, 0, [], [836]),
  (156, .bipush 10, 0, 0, 10, 0, [], []),
  (158, .iconst 2, 0, 0, 2, 0, [], []),
  (159, .aload_n 0, 0, 0, 0, 0, [], []),
  (160, .getfield 13, 9, 9, 0, 0, [], [834]),
  (163, .iconst 4, 0, 0, 4, 0, [], []),
  (164, .iaload, 0, 0, 0, 0, [], []),
  (165, .imul, 0, 0, 0, 0, [], []),
  (166, .iadd, 0, 0, 0, 0, [], []),
  (167, .aload_n 0, 0, 0, 0, 0, [], []),
  (168, .iconst 1, 0, 0, 1, 0, [], []),
  (169, .bipush 48, 0, 0, 48, 0, [], []),
  (171, .invokevirtual 101, 128, 2, 0, 0, [], [940, 942, 29, 62, 943]),
  (174, .iastore, 0, 0, 0, 0, [], []),
  (175, .aload_n 0, 0, 0, 0, 0, [], []),
  (176, .getfield 19, 9, 11, 0, 0, [], [836]),
  (179, .bipush 11, 0, 0, 11, 0, [], []),
  (181, .iconst 2, 0, 0, 2, 0, [], []),
  (182, .aload_n 0, 0, 0, 0, 0, [], []),
  (183, .getfield 13, 9, 9, 0, 0, [], [834]),
  (186, .iconst 4, 0, 0, 4, 0, [], []),
  (187, .iaload, 0, 0, 0, 0, [], []),
  (188, .imul, 0, 0, 0, 0, [], []),
  (189, .iadd, 0, 0, 0, 0, [], []),
  (190, .aload_n 0, 0, 0, 0, 0, [], []),
  (191, .iconst 1, 0, 0, 1, 0, [], []),
  (192, .bipush 99, 0, 0, 99, 0, [], []),
  (194, .invokevirtual 101, 128, 2, 0, 0, [], [940, 942, 29, 62, 943]),
  (197, .iastore, 0, 0, 0, 0, [], []),
  (198, .aload_n 0, 0, 0, 0, 0, [], []),
  (199, .getfield 13, 9, 9, 0, 0, [], [834]),
  (202, .iconst 4, 0, 0, 4, 0, [], []),
  (203, .dup2, 0, 0, 0, 0, [], []),
  (204, .iaload, 0, 0, 0, 0, [], []),
  (205, .iconst 1, 0, 0, 1, 0, [], []),
  (206, .iadd, 0, 0, 0, 0, [], []),
  (207, .iastore, 0, 0, 0, 0, [], []),
  (208, .goto 90, 198, 0, 0, 0, [], []),
  (211, .bipush 12, 0, 0, 12, 0, [], []),
  (213, .iconst 4, 0, 0, 4, 0, [], []),
  (214, .aload_n 0, 0, 0, 0, 0, [], []),
  (215, .getfield 13, 9, 9, 0, 0, [], [834]),
  (218, .iconst 5, 0, 0, 5, 0, [], []),
  (219, .iaload, 0, 0, 0, 0, [], []),
  (220, .imul, 0, 0, 0, 0, [], []),
  (221, .iadd, 0, 0, 0, 0, [], []),
  (222, .istore_n 2, 2, 0, 0, 0, [], []),
  (223, .aload_n 0, 0, 0, 0, 0, [], []),
  (224, .getfield 22, 9, 12, 0, 0, [], [837]),
  (227, .iload_n 2, 2, 0, 0, 0, [], []),
  (228, .aload_n 0, 0, 0, 0, 0, [], []),
  (229, .iconst 0, 0, 0, 0, 0, [], []),
  (230, .bipush 60, 0, 0, 60, 0, [], []),
  (232, .invokevirtual 101, 128, 2, 0, 0, [], [940, 942, 29, 62, 943]),
  (235, .iastore, 0, 0, 0, 0, [], []),
  (236, .aload_n 0, 0, 0, 0, 0, [], []),
  (237, .getfield 22, 9, 12, 0, 0, [], [837]),
  (240, .iload_n 2, 2, 0, 0, 0, [], []),
  (241, .iconst 1, 0, 0, 1, 0, [], []),
  (242, .iadd, 0, 0, 0, 0, [], []),
  (243, .aload_n 0, 0, 0, 0, 0, [], []),
  (244, .aload_n 0, 0, 0, 0, 0, [], []),
  (245, .getfield 22, 9, 12, 0, 0, [], [837]),
  (248, .iload_n 2, 2, 0, 0, 0, [], []),
  (249, .iaload, 0, 0, 0, 0, [], []),
  (250, .iconst 1, 0, 0, 1, 0, [], []),
  (251, .iadd, 0, 0, 0, 0, [], []),
  (252, .bipush 99, 0, 0, 99, 0, [], []),
  (254, .invokevirtual 101, 128, 2, 0, 0, [], [940, 942, 29, 62, 943]),
  (257, .iastore, 0, 0, 0, 0, [], []),
  (258, .aload_n 0, 0, 0, 0, 0, [], []),
  (259, .getfield 22, 9, 12, 0, 0, [], [837]),
  (262, .iload_n 2, 2, 0, 0, 0, [], []),
  (263, .iconst 2, 0, 0, 2, 0, [], []),
  (264, .iadd, 0, 0, 0, 0, [], []),
  (265, .aload_n 0, 0, 0, 0, 0, [], []),
  (266, .iconst 1, 0, 0, 1, 0, [], []),
  (267, .bipush 48, 0, 0, 48, 0, [], []),
  (269, .invokevirtual 101, 128, 2, 0, 0, [], [940, 942, 29, 62, 943]),
  (272, .iastore, 0, 0, 0, 0, [], []),
  (273, .aload_n 0, 0, 0, 0, 0, [], []),
  (274, .getfield 22, 9, 12, 0, 0, [], [837]),
  (277, .iload_n 2, 2, 0, 0, 0, [], []),
  (278, .iconst 3, 0, 0, 3, 0, [], []),
  (279, .iadd, 0, 0, 0, 0, [], []),
  (280, .aload_n 0, 0, 0, 0, 0, [], []),
  (281, .iconst 1, 0, 0, 1, 0, [], []),
  (282, .bipush 99, 0, 0, 99, 0, [], []),
  (284, .invokevirtual 101, 128, 2, 0, 0, [], [940, 942, 29, 62, 943]),
  (287, .iastore, 0, 0, 0, 0, [], []),
  (288, .aload_n 0, 0, 0, 0, 0, [], []),
  (289, .getfield 13, 9, 9, 0, 0, [], [834]),
  (292, .iconst 5, 0, 0, 5, 0, [], []),
  (293, .dup2, 0, 0, 0, 0, [], []),
  (294, .iaload, 0, 0, 0, 0, [], []),
  (295, .iconst 1, 0, 0, 1, 0, [], []),
  (296, .iadd, 0, 0, 0, 0, [], []),
  (297, .iastore, 0, 0, 0, 0, [], []),
  (298, .return_, 0, 0, 0, 0, [], [])]
def p_X9_house : List Row := [(0, .aload_n 0, 0, 0, 0, 0, [], []),
  (1, .iconst 0, 0, 0, 0, 0, [], []),
  (2, .putfield 60, 9, 0, 0, 0, [], [825]),
  (5, .aload_n 0, 0, 0, 0, 0, [], []),
  (6, .iconst (-1), 0, 0, (-1), 0, [], []),
  (7, .putfield 87, 9, 8, 0, 0, [], [833]),
  (10, .aload_n 0, 0, 0, 0, 0, [], []),
  (11, .iconst 0, 0, 0, 0, 0, [], []),
  (12, .putfield 71, 9, 4, 0, 0, [], [829]),
  (15, .iconst 0, 0, 0, 0, 0, [], []),
  (16, .istore_n 1, 1, 0, 0, 0, [], []),
  (17, .aload_n 0, 0, 0, 0, 0, [], []),
  (18, .getfield 13, 9, 9, 0, 0, [], [834]),
  (21, .iconst 3, 0, 0, 3, 0, [], []),
  (22, .iconst 0, 0, 0, 0, 0, [], []),
  (23, .iastore, 0, 0, 0, 0, [], []),
  (24, .aload_n 0, 0, 0, 0, 0, [], []),
  (25, .getfield 13, 9, 9, 0, 0, [], [834]),
  (28, .iconst 4, 0, 0, 4, 0, [], []),
  (29, .iconst 0, 0, 0, 0, 0, [], []),
  (30, .iastore, 0, 0, 0, 0, [], []),
  (31, .aload_n 0, 0, 0, 0, 0, [], []),
  (32, .getfield 13, 9, 9, 0, 0, [], [834]),
  (35, .iconst 5, 0, 0, 5, 0, [], []),
  (36, .iconst 0, 0, 0, 0, 0, [], []),
  (37, .iastore, 0, 0, 0, 0, [], []),
  (38, .aload_n 0, 0, 0, 0, 0, [], []),
  (39, .bipush 6, 0, 0, 6, 0, [], []),
  (41, .invokevirtual 56, 119, 1, 0, 0, [], [821, 823, 22, 62, 824]),
  (44, .aload_n 0, 0, 0, 0, 0, [], []),
  (45, .invokevirtual 94, 125, 0, 0, 0, [], [916, 918, 23, 62, 919]),
  (48, .aload_n 0, 0, 0, 0, 0, [], []),
  (49, .invokevirtual 90, 126, 0, 0, 0, [], [924, 926, 25, 62, 927]),
  (52, .ifCond .eq 71, 68, 0, 0, 0, [], []),
  (55, .aload_n 0, 0, 0, 0, 0, [], []),
  (56, .getfield 81, 9, 5, 0, 0, [], [830]),
  (59, .ifCond .eq 64, 68, 0, 0, 0, [], []),
  (62, .aload_n 0, 0, 0, 0, 0, [], []),
  (63, .aload_n 0, 0, 0, 0, 0, [], []),
  (64, .getfield 81, 9, 5, 0, 0, [], [830]),
  (67, .iconst 1, 0, 0, 1, 0, [], []),
  (68, .if_icmp .ne 14, 47, 0, 0, 0, [], []),
  (71, .aload_n 0, 0, 0, 0, 0, [], []),
  (72, .invokevirtual 105, 129, 0, 0, 0, [], [928, 930, 26, 62, 931]),
  (75, .ifCond .eq 7, 47, 0, 0, 0, [], []),
  (78, .iconst 1, 0, 0, 1, 0, [], []),
  (79, .goto 4, 48, 0, 0, 0, [], []),
  (82, .iconst 0, 0, 0, 0, 0, [], []),
  (83, .invokevirtual 97, 127, 1, 0, 0, [], [932, 934, 27, 62, 935]),
  (86, .istore_n 2, 2, 0, 0, 0, [], []),
  (87, .aload_n 0, 0, 0, 0, 0, [], []),
  (88, .invokevirtual 90, 126, 0, 0, 0, [], [924, 926, 25, 62, 927]),
  (91, .ifCond .eq 8, 56, 0, 0, 0, [], []),
  (94, .aload_n 0, 0, 0, 0, 0, [], []),
  (95, .iload_n 2, 2, 0, 0, 0, [], []),
  (96, .invokevirtual 108, 130, 1, 0, 0, [], [936, 938, 28, 62, 939]),
  (99, .aload_n 0, 0, 0, 0, 0, [], []),
  (100, .aload_n 0, 0, 0, 0, 0, [], []),
  (101, .getfield 81, 9, 5, 0, 0, [], [830]),
  (104, .iconst 3, 0, 0, 3, 0, [], []),
  (105, .if_icmp .ne 7, 63, 0, 0, 0, [], []),
  (108, .iconst 1, 0, 0, 1, 0, [], []),
  (109, .goto 4, 64, 0, 0, 0, [], []),
  (112, .iconst 0, 0, 0, 0, 0, [], []),
  (113, .invokevirtual 97, 127, 1, 0, 0, [], [932, 934, 27, 62, 935]),
  (116, .pop, 0, 0, 0, 0, [], []),
  (117, .iinc 1 1, 1, 0, 1, 0, [], []),
  (120, .goto (-72), 31, 0, 0, 0, [], []),
  (123, .aload_n 0, 0, 0, 0, 0, [], []),
  (124, .invokevirtual 90, 126, 0, 0, 0, [], [924, 926, 25, 62, 927]),
  (127, .ifCond .ne 11, 76, 0, 0, 0, [], []),
  (130, .bipush (-10), 0, 0, (-10), 0, [], []),
  (132, .aload_n 0, 0, 0, 0, 0, [], []),
  (133, .getfield 87, 9, 8, 0, 0, [], [833]),
  (136, .isub, 0, 0, 0, 0, [], []),
  (137, .ireturn, 0, 0, 0, 0, [], []),
  (138, .aload_n 0, 0, 0, 0, 0, [], []),
  (139, .invokevirtual 111, 132, 0, 0, 0, [], [944, 946, 30, 62, 947]),
  (142, .iload_n 1, 1, 0, 0, 0, [], []),
  (143, .ireturn, 0, 0, 0, 0, [], [])]
def p_X9_settles : List Row := [(0, .iconst 0, 0, 0, 0, 0, [], []),
  (1, .istore_n 1, 1, 0, 0, 0, [], []),
  (2, .iload_n 1, 1, 0, 0, 0, [], []),
  (3, .iconst 3, 0, 0, 3, 0, [], []),
  (4, .if_icmp .ge 23, 17, 0, 0, 0, [], []),
  (7, .aload_n 0, 0, 0, 0, 0, [], []),
  (8, .getfield 13, 9, 9, 0, 0, [], [834]),
  (11, .iload_n 1, 1, 0, 0, 0, [], []),
  (12, .aload_n 0, 0, 0, 0, 0, [], []),
  (13, .getfield 13, 9, 9, 0, 0, [], [834]),
  (16, .iconst 3, 0, 0, 3, 0, [], []),
  (17, .iload_n 1, 1, 0, 0, 0, [], []),
  (18, .iadd, 0, 0, 0, 0, [], []),
  (19, .iaload, 0, 0, 0, 0, [], []),
  (20, .iastore, 0, 0, 0, 0, [], []),
  (21, .iinc 1 1, 1, 0, 1, 0, [], []),
  (24, .goto (-22), 2, 0, 0, 0, [], []),
  (27, .iconst 0, 0, 0, 0, 0, [], []),
  (28, .istore_n 1, 1, 0, 0, 0, [], []),
  (29, .iload_n 1, 1, 0, 0, 0, [], []),
  (30, .bipush 24, 0, 0, 24, 0, [], []),
  (32, .if_icmp .ge 24, 34, 0, 0, 0, [], []),
  (35, .aload_n 0, 0, 0, 0, 0, [], []),
  (36, .getfield 16, 9, 10, 0, 0, [], [835]),
  (39, .iload_n 1, 1, 0, 0, 0, [], []),
  (40, .aload_n 0, 0, 0, 0, 0, [], []),
  (41, .getfield 16, 9, 10, 0, 0, [], [835]),
  (44, .bipush 24, 0, 0, 24, 0, [], []),
  (46, .iload_n 1, 1, 0, 0, 0, [], []),
  (47, .iadd, 0, 0, 0, 0, [], []),
  (48, .iaload, 0, 0, 0, 0, [], []),
  (49, .iastore, 0, 0, 0, 0, [], []),
  (50, .iinc 1 1, 1, 0, 1, 0, [], []),
  (53, .goto (-24), 19, 0, 0, 0, [], []),
  (56, .iconst 0, 0, 0, 0, 0, [], []),
  (57, .istore_n 1, 1, 0, 0, 0, [], []),
  (58, .iload_n 1, 1, 0, 0, 0, [], []),
  (59, .bipush 10, 0, 0, 10, 0, [], []),
  (61, .if_icmp .ge 24, 51, 0, 0, 0, [], []),
  (64, .aload_n 0, 0, 0, 0, 0, [], []),
  (65, .getfield 19, 9, 11, 0, 0, [], [836]),
  (68, .iload_n 1, 1, 0, 0, 0, [], []),
  (69, .aload_n 0, 0, 0, 0, 0, [], []),
  (70, .getfield 19, 9, 11, 0, 0, [], [836]),
  (73, .bipush 10, 0, 0, 10, 0, [], []),
  (75, .iload_n 1, 1, 0, 0, 0, [], []),
  (76, .iadd, 0, 0, 0, 0, [], []),
  (77, .iaload, 0, 0, 0, 0, [], []),
  (78, .iastore, 0, 0, 0, 0, [], []),
  (79, .iinc 1 1, 1, 0, 1, 0, [], []),
  (82, .goto (-24), 36, 0, 0, 0, [], []),
  (85, .iconst 0, 0, 0, 0, 0, [], []),
  (86, .istore_n 1, 1, 0, 0, 0, [], []),
  (87, .iload_n 1, 1, 0, 0, 0, [], []),
  (88, .bipush 12, 0, 0, 12, 0, [], []),
  (90, .if_icmp .ge 24, 68, 0, 0, 0, [], []),
  (93, .aload_n 0, 0, 0, 0, 0, [], []),
  (94, .getfield 22, 9, 12, 0, 0, [], [837]),
  (97, .iload_n 1, 1, 0, 0, 0, [], []),
  (98, .aload_n 0, 0, 0, 0, 0, [], []),
  (99, .getfield 22, 9, 12, 0, 0, [], [837]),
  (102, .bipush 12, 0, 0, 12, 0, [], []),
  (104, .iload_n 1, 1, 0, 0, 0, [], []),
  (105, .iadd, 0, 0, 0, 0, [], []),
  (106, .iaload, 0, 0, 0, 0, [], []),
  (107, .iastore, 0, 0, 0, 0, [], []),
  (108, .iinc 1 1, 1, 0, 1, 0, [], []),
  (111, .goto (-24), 53, 0, 0, 0, [], []),
  (114, .iconst 0, 0, 0, 0, 0, [], []),
  (115, .istore_n 1, 1, 0, 0, 0, [], []),
  (116, .iload_n 1, 1, 0, 0, 0, [], []),
  (117, .bipush 6, 0, 0, 6, 0, [], []),
  (119, .if_icmp .ge 52, 106, 0, 0, 0, [], []),
  (122, .aload_n 0, 0, 0, 0, 0, [], []),
  (123, .getfield 25, 9, 13, 0, 0, [], [838]),
  (126, .iload_n 1, 1, 0, 0, 0, [], []),
  (127, .aload_n 0, 0, 0, 0, 0, [], []),
  (128, .getfield 25, 9, 13, 0, 0, [], [838]),
  (131, .bipush 6, 0, 0, 6, 0, [], []),
  (133, .iload_n 1, 1, 0, 0, 0, [], []),
  (134, .iadd, 0, 0, 0, 0, [], []),
  (135, .iaload, 0, 0, 0, 0, [], []),
  (136, .iastore, 0, 0, 0, 0, [], []),
  (137, .aload_n 0, 0, 0, 0, 0, [], []),
  (138, .getfield 28, 9, 14, 0, 0, [], [839]),
  (141, .iconst 0, 0, 0, 0, 0, [], []),
  (142, .iload_n 1, 1, 0, 0, 0, [], []),
  (143, .iadd, 0, 0, 0, 0, [], []),
  (144, .iconst 0, 0, 0, 0, 0, [], []),
  (145, .iastore, 0, 0, 0, 0, [], []),
  (146, .aload_n 0, 0, 0, 0, 0, [], []),
  (147, .getfield 28, 9, 14, 0, 0, [], [839]),
  (150, .bipush 6, 0, 0, 6, 0, [], []),
  (152, .iload_n 1, 1, 0, 0, 0, [], []),
  (153, .iadd, 0, 0, 0, 0, [], []),
  (154, .aload_n 0, 0, 0, 0, 0, [], []),
  (155, .getfield 16, 9, 10, 0, 0, [], [835]),
  (158, .iconst 4, 0, 0, 4, 0, [], []),
  (159, .iload_n 1, 1, 0, 0, 0, [], []),
  (160, .imul, 0, 0, 0, 0, [], []),
  (161, .iconst 1, 0, 0, 1, 0, [], []),
  (162, .iadd, 0, 0, 0, 0, [], []),
  (163, .iaload, 0, 0, 0, 0, [], []),
  (164, .iastore, 0, 0, 0, 0, [], []),
  (165, .iinc 1 1, 1, 0, 1, 0, [], []),
  (168, .goto (-52), 70, 0, 0, 0, [], []),
  (171, .iconst 0, 0, 0, 0, 0, [], []),
  (172, .istore_n 1, 1, 0, 0, 0, [], []),
  (173, .iload_n 1, 1, 0, 0, 0, [], []),
  (174, .iconst 5, 0, 0, 5, 0, [], []),
  (175, .if_icmp .ge 26, 125, 0, 0, 0, [], []),
  (178, .aload_n 0, 0, 0, 0, 0, [], []),
  (179, .getfield 28, 9, 14, 0, 0, [], [839]),
  (182, .bipush 12, 0, 0, 12, 0, [], []),
  (184, .iload_n 1, 1, 0, 0, 0, [], []),
  (185, .iadd, 0, 0, 0, 0, [], []),
  (186, .aload_n 0, 0, 0, 0, 0, [], []),
  (187, .getfield 19, 9, 11, 0, 0, [], [836]),
  (190, .iconst 2, 0, 0, 2, 0, [], []),
  (191, .iload_n 1, 1, 0, 0, 0, [], []),
  (192, .imul, 0, 0, 0, 0, [], []),
  (193, .iaload, 0, 0, 0, 0, [], []),
  (194, .iastore, 0, 0, 0, 0, [], []),
  (195, .iinc 1 1, 1, 0, 1, 0, [], []),
  (198, .goto (-25), 108, 0, 0, 0, [], []),
  (201, .aload_n 0, 0, 0, 0, 0, [], []),
  (202, .iconst 0, 0, 0, 0, 0, [], []),
  (203, .putfield 68, 9, 3, 0, 0, [], [828]),
  (206, .aload_n 0, 0, 0, 0, 0, [], []),
  (207, .iconst 0, 0, 0, 0, 0, [], []),
  (208, .putfield 114, 9, 21, 0, 0, [], [846]),
  (211, .aload_n 0, 0, 0, 0, 0, [], []),
  (212, .iconst 0, 0, 0, 0, 0, [], []),
  (213, .putfield 117, 9, 18, 0, 0, [], [843]),
  (216, .aload_n 0, 0, 0, 0, 0, [], []),
  (217, .getfield 34, 9, 16, 0, 0, [], [841]),
  (220, .iconst 0, 0, 0, 0, 0, [], []),
  (221, .iconst 0, 0, 0, 0, 0, [], []),
  (222, .bastore, 0, 0, 0, 0, [], []),
  (223, .aload_n 0, 0, 0, 0, 0, [], []),
  (224, .getfield 34, 9, 16, 0, 0, [], [841]),
  (227, .iconst 1, 0, 0, 1, 0, [], []),
  (228, .iconst 0, 0, 0, 0, 0, [], []),
  (229, .bastore, 0, 0, 0, 0, [], []),
  (230, .return_, 0, 0, 0, 0, [], [])]
def p_X9_isThingThere : List Row := [(0, .iload_n 1, 1, 0, 0, 0, [], []),
  (1, .iconst 0, 0, 0, 0, 0, [], []),
  (2, .aload_n 0, 0, 0, 0, 0, [], []),
  (3, .getfield 13, 9, 9, 0, 0, [], [834]),
  (6, .iconst 0, 0, 0, 0, 0, [], []),
  (7, .iaload, 0, 0, 0, 0, [], []),
  (8, .iconst 1, 0, 0, 1, 0, [], []),
  (9, .isub, 0, 0, 0, 0, [], []),
  (10, .invokestatic 64, 120, 3, 0, 0, [], [905, 906, 62, 907]),
  (13, .ireturn, 0, 0, 0, 0, [], [])]
def p_X9_isPerson : List Row := [(0, .iload_n 1, 1, 0, 0, 0, [], []),
  (1, .iconst 0, 0, 0, 0, 0, [], []),
  (2, .aload_n 0, 0, 0, 0, 0, [], []),
  (3, .getfield 13, 9, 9, 0, 0, [], [834]),
  (6, .iconst 1, 0, 0, 1, 0, [], []),
  (7, .iaload, 0, 0, 0, 0, [], []),
  (8, .iconst 1, 0, 0, 1, 0, [], []),
  (9, .isub, 0, 0, 0, 0, [], []),
  (10, .invokestatic 64, 120, 3, 0, 0, [], [905, 906, 62, 907]),
  (13, .ireturn, 0, 0, 0, 0, [], [])]
def p_X9_useOf : List Row := [(0, .aload_n 0, 0, 0, 0, 0, [], []),
  (1, .getfield 16, 9, 10, 0, 0, [], [835]),
  (4, .iconst 4, 0, 0, 4, 0, [], []),
  (5, .iload_n 1, 1, 0, 0, 0, [], []),
  (6, .imul, 0, 0, 0, 0, [], []),
  (7, .iaload, 0, 0, 0, 0, [], []),
  (8, .ireturn, 0, 0, 0, 0, [], [])]
def p_X9_fits : List Row := [(0, .bipush 20, 0, 0, 20, 0, [], []),
  (2, .aload_n 0, 0, 0, 0, 0, [], []),
  (3, .getfield 16, 9, 10, 0, 0, [], [835]),
  (6, .iconst 4, 0, 0, 4, 0, [], []),
  (7, .iload_n 1, 1, 0, 0, 0, [], []),
  (8, .imul, 0, 0, 0, 0, [], []),
  (9, .iconst 2, 0, 0, 2, 0, [], []),
  (10, .iadd, 0, 0, 0, 0, [], []),
  (11, .iaload, 0, 0, 0, 0, [], []),
  (12, .imul, 0, 0, 0, 0, [], []),
  (13, .iload_n 3, 3, 0, 0, 0, [], []),
  (14, .imul, 0, 0, 0, 0, [], []),
  (15, .istore 5, 5, 0, 0, 0, [], []),
  (17, .iload 4, 4, 0, 0, 0, [], []),
  (19, .iload_n 2, 2, 0, 0, 0, [], []),
  (20, .imul, 0, 0, 0, 0, [], []),
  (21, .istore 6, 6, 0, 0, 0, [], []),
  (23, .iload 5, 5, 0, 0, 0, [], []),
  (25, .aload_n 0, 0, 0, 0, 0, [], []),
  (26, .getfield 25, 9, 13, 0, 0, [], [838]),
  (29, .iconst 2, 0, 0, 2, 0, [], []),
  (30, .aload_n 0, 0, 0, 0, 0, [], []),
  (31, .iload_n 1, 1, 0, 0, 0, [], []),
  (32, .invokevirtual 120, 135, 1, 0, 0, [], [972, 974, 35, 62, 975]),
  (35, .imul, 0, 0, 0, 0, [], []),
  (36, .iaload, 0, 0, 0, 0, [], []),
  (37, .iload 6, 6, 0, 0, 0, [], []),
  (39, .imul, 0, 0, 0, 0, [], []),
  (40, .if_icmp .lt 29, 45, 0, 0, 0, [], []),
  (43, .iload 5, 5, 0, 0, 0, [], []),
  (45, .aload_n 0, 0, 0, 0, 0, [], []),
  (46, .getfield 25, 9, 13, 0, 0, [], [838]),
  (49, .iconst 2, 0, 0, 2, 0, [], []),
  (50, .aload_n 0, 0, 0, 0, 0, [], []),
  (51, .iload_n 1, 1, 0, 0, 0, [], []),
  (52, .invokevirtual 120, 135, 1, 0, 0, [], [972, 974, 35, 62, 975]),
  (55, .imul, 0, 0, 0, 0, [], []),
  (56, .iconst 1, 0, 0, 1, 0, [], []),
  (57, .iadd, 0, 0, 0, 0, [], []),
  (58, .iaload, 0, 0, 0, 0, [], []),
  (59, .iload 6, 6, 0, 0, 0, [], []),
  (61, .imul, 0, 0, 0, 0, [], []),
  (62, .if_icmp .gt 7, 45, 0, 0, 0, [], []),
  (65, .iconst 1, 0, 0, 1, 0, [], []),
  (66, .goto 4, 46, 0, 0, 0, [], []),
  (69, .iconst 0, 0, 0, 0, 0, [], []),
  (70, .ireturn, 0, 0, 0, 0, [], [])]
def p_X9_isFit : List Row := [(0, .aload_n 0, 0, 0, 0, 0, [], []),
  (1, .iload_n 1, 1, 0, 0, 0, [], []),
  (2, .aload_n 0, 0, 0, 0, 0, [], []),
  (3, .getfield 28, 9, 14, 0, 0, [], [839]),
  (6, .bipush 6, 0, 0, 6, 0, [], []),
  (8, .iload_n 1, 1, 0, 0, 0, [], []),
  (9, .iadd, 0, 0, 0, 0, [], []),
  (10, .iaload, 0, 0, 0, 0, [], []),
  (11, .aload_n 0, 0, 0, 0, 0, [], []),
  (12, .getfield 28, 9, 14, 0, 0, [], [839]),
  (15, .bipush 12, 0, 0, 12, 0, [], []),
  (17, .iload_n 2, 2, 0, 0, 0, [], []),
  (18, .iadd, 0, 0, 0, 0, [], []),
  (19, .iaload, 0, 0, 0, 0, [], []),
  (20, .aload_n 0, 0, 0, 0, 0, [], []),
  (21, .getfield 19, 9, 11, 0, 0, [], [836]),
  (24, .iconst 2, 0, 0, 2, 0, [], []),
  (25, .iload_n 2, 2, 0, 0, 0, [], []),
  (26, .imul, 0, 0, 0, 0, [], []),
  (27, .iconst 1, 0, 0, 1, 0, [], []),
  (28, .iadd, 0, 0, 0, 0, [], []),
  (29, .iaload, 0, 0, 0, 0, [], []),
  (30, .invokevirtual 123, 136, 4, 0, 0, [], [968, 970, 34, 62, 971]),
  (33, .ireturn, 0, 0, 0, 0, [], [])]
def p_X9_fitsOf : List Row := [(0, .iconst 0, 0, 0, 0, 0, [], []),
  (1, .istore_n 2, 2, 0, 0, 0, [], []),
  (2, .iconst 0, 0, 0, 0, 0, [], []),
  (3, .istore_n 3, 3, 0, 0, 0, [], []),
  (4, .iload_n 3, 3, 0, 0, 0, [], []),
  (5, .aload_n 0, 0, 0, 0, 0, [], []),
  (6, .getfield 13, 9, 9, 0, 0, [], [834]),
  (9, .iconst 1, 0, 0, 1, 0, [], []),
  (10, .iaload, 0, 0, 0, 0, [], []),
  (11, .if_icmp .ge 28, 25, 0, 0, 0, [], []),
  (14, .iload_n 2, 2, 0, 0, 0, [], []),
  (15, .aload_n 0, 0, 0, 0, 0, [], []),
  (16, .iload_n 1, 1, 0, 0, 0, [], []),
  (17, .iload_n 3, 3, 0, 0, 0, [], []),
  (18, .invokevirtual 127, 137, 2, 0, 0, [], [964, 966, 33, 62, 967]),
  (21, .ifCond .eq 9, 20, 0, 0, 0, [], []),
  (24, .iconst 1, 0, 0, 1, 0, [], []),
  (25, .iload_n 3, 3, 0, 0, 0, [], []),
  (26, .ishl, 0, 0, 0, 0, [], []),
  (27, .goto 4, 21, 0, 0, 0, [], []),
  (30, .iconst 0, 0, 0, 0, 0, [], []),
  (31, .ior, 0, 0, 0, 0, [], []),
  (32, .istore_n 2, 2, 0, 0, 0, [], []),
  (33, .iinc 3 1, 3, 0, 1, 0, [], []),
  (36, .goto (-32), 4, 0, 0, 0, [], []),
  (39, .iload_n 2, 2, 0, 0, 0, [], []),
  (40, .ireturn, 0, 0, 0, 0, [], [])]
def p_X9_use : List Row := [(0, .aload_n 0, 0, 0, 0, 0, [], []),
  (1, .iconst 0, 0, 0, 0, 0, [], []),
  (2, .putfield 60, 9, 0, 0, 0, [], [825]),
  (5, .iload_n 1, 1, 0, 0, 0, [], []),
  (6, .iconst 0, 0, 0, 0, 0, [], []),
  (7, .iconst 2, 0, 0, 2, 0, [], []),
  (8, .invokestatic 64, 120, 3, 0, 0, [], [905, 906, 62, 907]),
  (11, .ifCond .eq 25, 22, 0, 0, 0, [], []),
  (14, .iload_n 2, 2, 0, 0, 0, [], []),
  (15, .iconst 0, 0, 0, 0, 0, [], []),
  (16, .iconst 1, 0, 0, 1, 0, [], []),
  (17, .invokestatic 64, 120, 3, 0, 0, [], [905, 906, 62, 907]),
  (20, .ifCond .eq 16, 22, 0, 0, 0, [], []),
  (23, .aload_n 0, 0, 0, 0, 0, [], []),
  (24, .getfield 25, 9, 13, 0, 0, [], [838]),
  (27, .iconst 2, 0, 0, 2, 0, [], []),
  (28, .iload_n 1, 1, 0, 0, 0, [], []),
  (29, .imul, 0, 0, 0, 0, [], []),
  (30, .iload_n 2, 2, 0, 0, 0, [], []),
  (31, .iadd, 0, 0, 0, 0, [], []),
  (32, .iaload, 0, 0, 0, 0, [], []),
  (33, .goto 4, 23, 0, 0, 0, [], []),
  (36, .iconst (-1), 0, 0, (-1), 0, [], []),
  (37, .ireturn, 0, 0, 0, 0, [], [])]
def p_X9_thing : List Row := [(0, .aload_n 0, 0, 0, 0, 0, [], []),
  (1, .iconst 0, 0, 0, 0, 0, [], []),
  (2, .putfield 60, 9, 0, 0, 0, [], [825]),
  (5, .aload_n 0, 0, 0, 0, 0, [], []),
  (6, .iload_n 1, 1, 0, 0, 0, [], []),
  (7, .invokevirtual 131, 133, 1, 0, 0, [], [956, 958, 31, 62, 959]),
  (10, .ifCond .eq 12, 12, 0, 0, 0, [], []),
  (13, .iload_n 2, 2, 0, 0, 0, [], []),
  (14, .iconst 0, 0, 0, 0, 0, [], []),
  (15, .iconst 5, 0, 0, 5, 0, [], []),
  (16, .invokestatic 64, 120, 3, 0, 0, [], [905, 906, 62, 907]),
  (19, .ifCond .ne 5, 14, 0, 0, 0, [], []),
  (22, .iconst (-1), 0, 0, (-1), 0, [], []),
  (23, .ireturn, 0, 0, 0, 0, [], []),
  (24, .iload_n 2, 2, 0, 0, 0, [], []),
  (25, .iconst 4, 0, 0, 4, 0, [], []),
  (26, .if_icmp .ge 31, 36, 0, 0, 0, [], []),
  (29, .iload_n 2, 2, 0, 0, 0, [], []),
  (30, .iconst 1, 0, 0, 1, 0, [], []),
  (31, .if_icmp .ne 15, 27, 0, 0, 0, [], []),
  (34, .aload_n 0, 0, 0, 0, 0, [], []),
  (35, .getfield 28, 9, 14, 0, 0, [], [839]),
  (38, .bipush 6, 0, 0, 6, 0, [], []),
  (40, .iload_n 1, 1, 0, 0, 0, [], []),
  (41, .iadd, 0, 0, 0, 0, [], []),
  (42, .iaload, 0, 0, 0, 0, [], []),
  (43, .goto 13, 35, 0, 0, 0, [], []),
  (46, .aload_n 0, 0, 0, 0, 0, [], []),
  (47, .getfield 16, 9, 10, 0, 0, [], [835]),
  (50, .iconst 4, 0, 0, 4, 0, [], []),
  (51, .iload_n 1, 1, 0, 0, 0, [], []),
  (52, .imul, 0, 0, 0, 0, [], []),
  (53, .iload_n 2, 2, 0, 0, 0, [], []),
  (54, .iadd, 0, 0, 0, 0, [], []),
  (55, .iaload, 0, 0, 0, 0, [], []),
  (56, .ireturn, 0, 0, 0, 0, [], []),
  (57, .iload_n 2, 2, 0, 0, 0, [], []),
  (58, .iconst 5, 0, 0, 5, 0, [], []),
  (59, .if_icmp .ne 11, 43, 0, 0, 0, [], []),
  (62, .aload_n 0, 0, 0, 0, 0, [], []),
  (63, .iload_n 1, 1, 0, 0, 0, [], []),
  (64, .invokevirtual 135, 138, 1, 0, 0, [], [960, 962, 32, 62, 963]),
  (67, .goto 29, 60, 0, 0, 0, [], []),
  (70, .aload_n 0, 0, 0, 0, 0, [], []),
  (71, .getfield 28, 9, 14, 0, 0, [], [839]),
  (74, .iconst 0, 0, 0, 0, 0, [], []),
  (75, .iload_n 1, 1, 0, 0, 0, [], []),
  (76, .iadd, 0, 0, 0, 0, [], []),
  (77, .iaload, 0, 0, 0, 0, [], []),
  (78, .ifCond .ne 8, 52, 0, 0, 0, [], []),
  (81, .bipush (-9), 0, 0, (-9), 0, [], []),
  (83, .goto 13, 60, 0, 0, 0, [], []),
  (86, .aload_n 0, 0, 0, 0, 0, [], []),
  (87, .getfield 28, 9, 14, 0, 0, [], [839]),
  (90, .iconst 0, 0, 0, 0, 0, [], []),
  (91, .iload_n 1, 1, 0, 0, 0, [], []),
  (92, .iadd, 0, 0, 0, 0, [], []),
  (93, .iaload, 0, 0, 0, 0, [], []),
  (94, .iconst 1, 0, 0, 1, 0, [], []),
  (95, .isub, 0, 0, 0, 0, [], []),
  (96, .ireturn, 0, 0, 0, 0, [], [])]
def p_X9_thingsOf : List Row := [(0, .iconst 0, 0, 0, 0, 0, [], []),
  (1, .istore_n 2, 2, 0, 0, 0, [], []),
  (2, .iconst 0, 0, 0, 0, 0, [], []),
  (3, .istore_n 3, 3, 0, 0, 0, [], []),
  (4, .iload_n 3, 3, 0, 0, 0, [], []),
  (5, .aload_n 0, 0, 0, 0, 0, [], []),
  (6, .getfield 13, 9, 9, 0, 0, [], [834]),
  (9, .iconst 0, 0, 0, 0, 0, [], []),
  (10, .iaload, 0, 0, 0, 0, [], []),
  (11, .if_icmp .ge 33, 30, 0, 0, 0, [], []),
  (14, .iload_n 2, 2, 0, 0, 0, [], []),
  (15, .aload_n 0, 0, 0, 0, 0, [], []),
  (16, .getfield 28, 9, 14, 0, 0, [], [839]),
  (19, .iconst 0, 0, 0, 0, 0, [], []),
  (20, .iload_n 3, 3, 0, 0, 0, [], []),
  (21, .iadd, 0, 0, 0, 0, [], []),
  (22, .iaload, 0, 0, 0, 0, [], []),
  (23, .iload_n 1, 1, 0, 0, 0, [], []),
  (24, .iconst 1, 0, 0, 1, 0, [], []),
  (25, .iadd, 0, 0, 0, 0, [], []),
  (26, .if_icmp .ne 9, 25, 0, 0, 0, [], []),
  (29, .iconst 1, 0, 0, 1, 0, [], []),
  (30, .iload_n 3, 3, 0, 0, 0, [], []),
  (31, .ishl, 0, 0, 0, 0, [], []),
  (32, .goto 4, 26, 0, 0, 0, [], []),
  (35, .iconst 0, 0, 0, 0, 0, [], []),
  (36, .ior, 0, 0, 0, 0, [], []),
  (37, .istore_n 2, 2, 0, 0, 0, [], []),
  (38, .iinc 3 1, 3, 0, 1, 0, [], []),
  (41, .goto (-37), 4, 0, 0, 0, [], []),
  (44, .iload_n 2, 2, 0, 0, 0, [], []),
  (45, .ireturn, 0, 0, 0, 0, [], [])]
def p_X9_taller : List Row := [(0, .iconst 0, 0, 0, 0, 0, [], []),
  (1, .istore_n 2, 2, 0, 0, 0, [], []),
  (2, .iconst 0, 0, 0, 0, 0, [], []),
  (3, .istore_n 3, 3, 0, 0, 0, [], []),
  (4, .iload_n 3, 3, 0, 0, 0, [], []),
  (5, .aload_n 0, 0, 0, 0, 0, [], []),
  (6, .getfield 13, 9, 9, 0, 0, [], [834]),
  (9, .iconst 1, 0, 0, 1, 0, [], []),
  (10, .iaload, 0, 0, 0, 0, [], []),
  (11, .if_icmp .ge 60, 49, 0, 0, 0, [], []),
  (14, .iload_n 2, 2, 0, 0, 0, [], []),
  (15, .aload_n 0, 0, 0, 0, 0, [], []),
  (16, .getfield 19, 9, 11, 0, 0, [], [836]),
  (19, .iconst 2, 0, 0, 2, 0, [], []),
  (20, .iload_n 3, 3, 0, 0, 0, [], []),
  (21, .imul, 0, 0, 0, 0, [], []),
  (22, .iconst 1, 0, 0, 1, 0, [], []),
  (23, .iadd, 0, 0, 0, 0, [], []),
  (24, .iaload, 0, 0, 0, 0, [], []),
  (25, .aload_n 0, 0, 0, 0, 0, [], []),
  (26, .getfield 28, 9, 14, 0, 0, [], [839]),
  (29, .bipush 12, 0, 0, 12, 0, [], []),
  (31, .iload_n 1, 1, 0, 0, 0, [], []),
  (32, .iadd, 0, 0, 0, 0, [], []),
  (33, .iaload, 0, 0, 0, 0, [], []),
  (34, .imul, 0, 0, 0, 0, [], []),
  (35, .aload_n 0, 0, 0, 0, 0, [], []),
  (36, .getfield 19, 9, 11, 0, 0, [], [836]),
  (39, .iconst 2, 0, 0, 2, 0, [], []),
  (40, .iload_n 1, 1, 0, 0, 0, [], []),
  (41, .imul, 0, 0, 0, 0, [], []),
  (42, .iconst 1, 0, 0, 1, 0, [], []),
  (43, .iadd, 0, 0, 0, 0, [], []),
  (44, .iaload, 0, 0, 0, 0, [], []),
  (45, .aload_n 0, 0, 0, 0, 0, [], []),
  (46, .getfield 28, 9, 14, 0, 0, [], [839]),
  (49, .bipush 12, 0, 0, 12, 0, [], []),
  (51, .iload_n 3, 3, 0, 0, 0, [], []),
  (52, .iadd, 0, 0, 0, 0, [], []),
  (53, .iaload, 0, 0, 0, 0, [], []),
  (54, .imul, 0, 0, 0, 0, [], []),
  (55, .if_icmp .ge 7, 44, 0, 0, 0, [], []),
  (58, .iconst 1, 0, 0, 1, 0, [], []),
  (59, .goto 4, 45, 0, 0, 0, [], []),
  (62, .iconst 0, 0, 0, 0, 0, [], []),
  (63, .iadd, 0, 0, 0, 0, [], []),
  (64, .istore_n 2, 2, 0, 0, 0, [], []),
  (65, .iinc 3 1, 3, 0, 1, 0, [], []),
  (68, .goto (-64), 4, 0, 0, 0, [], []),
  (71, .iload_n 2, 2, 0, 0, 0, [], []),
  (72, .ireturn, 0, 0, 0, 0, [], [])]
def p_X9_person : List Row := [(0, .aload_n 0, 0, 0, 0, 0, [], []),
  (1, .iconst 0, 0, 0, 0, 0, [], []),
  (2, .putfield 60, 9, 0, 0, 0, [], [825]),
  (5, .aload_n 0, 0, 0, 0, 0, [], []),
  (6, .iload_n 1, 1, 0, 0, 0, [], []),
  (7, .invokevirtual 138, 134, 1, 0, 0, [], [980, 982, 36, 62, 983]),
  (10, .ifCond .eq 12, 12, 0, 0, 0, [], []),
  (13, .iload_n 2, 2, 0, 0, 0, [], []),
  (14, .iconst 0, 0, 0, 0, 0, [], []),
  (15, .iconst 3, 0, 0, 3, 0, [], []),
  (16, .invokestatic 64, 120, 3, 0, 0, [], [905, 906, 62, 907]),
  (19, .ifCond .ne 5, 14, 0, 0, 0, [], []),
  (22, .iconst (-1), 0, 0, (-1), 0, [], []),
  (23, .ireturn, 0, 0, 0, 0, [], []),
  (24, .iload_n 2, 2, 0, 0, 0, [], []),
  (25, .ifCond .ne 15, 23, 0, 0, 0, [], []),
  (28, .aload_n 0, 0, 0, 0, 0, [], []),
  (29, .getfield 28, 9, 14, 0, 0, [], [839]),
  (32, .bipush 12, 0, 0, 12, 0, [], []),
  (34, .iload_n 1, 1, 0, 0, 0, [], []),
  (35, .iadd, 0, 0, 0, 0, [], []),
  (36, .iaload, 0, 0, 0, 0, [], []),
  (37, .goto 39, 45, 0, 0, 0, [], []),
  (40, .iload_n 2, 2, 0, 0, 0, [], []),
  (41, .iconst 1, 0, 0, 1, 0, [], []),
  (42, .if_icmp .ne 16, 35, 0, 0, 0, [], []),
  (45, .aload_n 0, 0, 0, 0, 0, [], []),
  (46, .getfield 19, 9, 11, 0, 0, [], [836]),
  (49, .iconst 2, 0, 0, 2, 0, [], []),
  (50, .iload_n 1, 1, 0, 0, 0, [], []),
  (51, .imul, 0, 0, 0, 0, [], []),
  (52, .iconst 1, 0, 0, 1, 0, [], []),
  (53, .iadd, 0, 0, 0, 0, [], []),
  (54, .iaload, 0, 0, 0, 0, [], []),
  (55, .goto 21, 45, 0, 0, 0, [], []),
  (58, .iload_n 2, 2, 0, 0, 0, [], []),
  (59, .iconst 2, 0, 0, 2, 0, [], []),
  (60, .if_icmp .ne 11, 42, 0, 0, 0, [], []),
  (63, .aload_n 0, 0, 0, 0, 0, [], []),
  (64, .iload_n 1, 1, 0, 0, 0, [], []),
  (65, .invokevirtual 141, 141, 1, 0, 0, [], [984, 986, 37, 62, 987]),
  (68, .goto 8, 45, 0, 0, 0, [], []),
  (71, .aload_n 0, 0, 0, 0, 0, [], []),
  (72, .iload_n 1, 1, 0, 0, 0, [], []),
  (73, .invokevirtual 144, 142, 1, 0, 0, [], [988, 990, 38, 62, 991]),
  (76, .ireturn, 0, 0, 0, 0, [], [])]
def p_X9_door : List Row := [(0, .aload_n 0, 0, 0, 0, 0, [], []),
  (1, .iconst 0, 0, 0, 0, 0, [], []),
  (2, .putfield 60, 9, 0, 0, 0, [], [825]),
  (5, .iload_n 1, 1, 0, 0, 0, [], []),
  (6, .iconst 0, 0, 0, 0, 0, [], []),
  (7, .aload_n 0, 0, 0, 0, 0, [], []),
  (8, .getfield 13, 9, 9, 0, 0, [], [834]),
  (11, .iconst 2, 0, 0, 2, 0, [], []),
  (12, .iaload, 0, 0, 0, 0, [], []),
  (13, .iconst 1, 0, 0, 1, 0, [], []),
  (14, .isub, 0, 0, 0, 0, [], []),
  (15, .invokestatic 64, 120, 3, 0, 0, [], [905, 906, 62, 907]),
  (18, .ifCond .eq 25, 27, 0, 0, 0, [], []),
  (21, .iload_n 2, 2, 0, 0, 0, [], []),
  (22, .iconst 0, 0, 0, 0, 0, [], []),
  (23, .iconst 3, 0, 0, 3, 0, [], []),
  (24, .invokestatic 64, 120, 3, 0, 0, [], [905, 906, 62, 907]),
  (27, .ifCond .eq 16, 27, 0, 0, 0, [], []),
  (30, .aload_n 0, 0, 0, 0, 0, [], []),
  (31, .getfield 22, 9, 12, 0, 0, [], [837]),
  (34, .iconst 4, 0, 0, 4, 0, [], []),
  (35, .iload_n 1, 1, 0, 0, 0, [], []),
  (36, .imul, 0, 0, 0, 0, [], []),
  (37, .iload_n 2, 2, 0, 0, 0, [], []),
  (38, .iadd, 0, 0, 0, 0, [], []),
  (39, .iaload, 0, 0, 0, 0, [], []),
  (40, .goto 4, 28, 0, 0, 0, [], []),
  (43, .iconst (-1), 0, 0, (-1), 0, [], []),
  (44, .ireturn, 0, 0, 0, 0, [], [])]
def p_X9_useless : List Row := [(0, .iconst 0, 0, 0, 0, 0, [], []),
  (1, .istore_n 1, 1, 0, 0, 0, [], []),
  (2, .iconst 0, 0, 0, 0, 0, [], []),
  (3, .istore_n 2, 2, 0, 0, 0, [], []),
  (4, .iload_n 2, 2, 0, 0, 0, [], []),
  (5, .aload_n 0, 0, 0, 0, 0, [], []),
  (6, .getfield 13, 9, 9, 0, 0, [], [834]),
  (9, .iconst 0, 0, 0, 0, 0, [], []),
  (10, .iaload, 0, 0, 0, 0, [], []),
  (11, .if_icmp .ge 27, 24, 0, 0, 0, [], []),
  (14, .iload_n 1, 1, 0, 0, 0, [], []),
  (15, .aload_n 0, 0, 0, 0, 0, [], []),
  (16, .iload_n 2, 2, 0, 0, 0, [], []),
  (17, .invokevirtual 135, 138, 1, 0, 0, [], [960, 962, 32, 62, 963]),
  (20, .ifCond .ne 9, 19, 0, 0, 0, [], []),
  (23, .iconst 1, 0, 0, 1, 0, [], []),
  (24, .iload_n 2, 2, 0, 0, 0, [], []),
  (25, .ishl, 0, 0, 0, 0, [], []),
  (26, .goto 4, 20, 0, 0, 0, [], []),
  (29, .iconst 0, 0, 0, 0, 0, [], []),
  (30, .ior, 0, 0, 0, 0, [], []),
  (31, .istore_n 1, 1, 0, 0, 0, [], []),
  (32, .iinc 2 1, 2, 0, 1, 0, [], []),
  (35, .goto (-31), 4, 0, 0, 0, [], []),
  (38, .iload_n 1, 1, 0, 0, 0, [], []),
  (39, .ireturn, 0, 0, 0, 0, [], [])]
def p_X9_bare : List Row := [(0, .iconst 1, 0, 0, 1, 0, [], []),
  (1, .aload_n 0, 0, 0, 0, 0, [], []),
  (2, .getfield 13, 9, 9, 0, 0, [], [834]),
  (5, .iconst 1, 0, 0, 1, 0, [], []),
  (6, .iaload, 0, 0, 0, 0, [], []),
  (7, .ishl, 0, 0, 0, 0, [], []),
  (8, .iconst 1, 0, 0, 1, 0, [], []),
  (9, .isub, 0, 0, 0, 0, [], []),
  (10, .istore_n 2, 2, 0, 0, 0, [], []),
  (11, .iconst 0, 0, 0, 0, 0, [], []),
  (12, .istore_n 3, 3, 0, 0, 0, [], []),
  (13, .iload_n 3, 3, 0, 0, 0, [], []),
  (14, .aload_n 0, 0, 0, 0, 0, [], []),
  (15, .getfield 13, 9, 9, 0, 0, [], [834]),
  (18, .iconst 0, 0, 0, 0, 0, [], []),
  (19, .iaload, 0, 0, 0, 0, [], []),
  (20, .if_icmp .ge 32, 34, 0, 0, 0, [], []),
  (23, .iload_n 2, 2, 0, 0, 0, [], []),
  (24, .aload_n 0, 0, 0, 0, 0, [], []),
  (25, .iload_n 3, 3, 0, 0, 0, [], []),
  (26, .invokevirtual 120, 135, 1, 0, 0, [], [972, 974, 35, 62, 975]),
  (29, .iload_n 1, 1, 0, 0, 0, [], []),
  (30, .if_icmp .ne 13, 29, 0, 0, 0, [], []),
  (33, .aload_n 0, 0, 0, 0, 0, [], []),
  (34, .iload_n 3, 3, 0, 0, 0, [], []),
  (35, .invokevirtual 135, 138, 1, 0, 0, [], [960, 962, 32, 62, 963]),
  (38, .iconst (-1), 0, 0, (-1), 0, [], []),
  (39, .ixor, 0, 0, 0, 0, [], []),
  (40, .goto 4, 30, 0, 0, 0, [], []),
  (43, .iload_n 2, 2, 0, 0, 0, [], []),
  (44, .iand, 0, 0, 0, 0, [], []),
  (45, .istore_n 2, 2, 0, 0, 0, [], []),
  (46, .iinc 3 1, 3, 0, 1, 0, [], []),
  (49, .goto (-36), 11, 0, 0, 0, [], []),
  (52, .iload_n 2, 2, 0, 0, 0, [], []),
  (53, .ireturn, 0, 0, 0, 0, [], [])]
def p_X9_owned : List Row := [(0, .iconst 0, 0, 0, 0, 0, [], []),
  (1, .istore_n 1, 1, 0, 0, 0, [], []),
  (2, .iconst 0, 0, 0, 0, 0, [], []),
  (3, .istore_n 2, 2, 0, 0, 0, [], []),
  (4, .iload_n 2, 2, 0, 0, 0, [], []),
  (5, .aload_n 0, 0, 0, 0, 0, [], []),
  (6, .getfield 13, 9, 9, 0, 0, [], [834]),
  (9, .iconst 0, 0, 0, 0, 0, [], []),
  (10, .iaload, 0, 0, 0, 0, [], []),
  (11, .if_icmp .ge 30, 27, 0, 0, 0, [], []),
  (14, .iload_n 1, 1, 0, 0, 0, [], []),
  (15, .aload_n 0, 0, 0, 0, 0, [], []),
  (16, .getfield 28, 9, 14, 0, 0, [], [839]),
  (19, .iconst 0, 0, 0, 0, 0, [], []),
  (20, .iload_n 2, 2, 0, 0, 0, [], []),
  (21, .iadd, 0, 0, 0, 0, [], []),
  (22, .iaload, 0, 0, 0, 0, [], []),
  (23, .ifCond .le 9, 22, 0, 0, 0, [], []),
  (26, .iconst 1, 0, 0, 1, 0, [], []),
  (27, .iload_n 2, 2, 0, 0, 0, [], []),
  (28, .ishl, 0, 0, 0, 0, [], []),
  (29, .goto 4, 23, 0, 0, 0, [], []),
  (32, .iconst 0, 0, 0, 0, 0, [], []),
  (33, .ior, 0, 0, 0, 0, [], []),
  (34, .istore_n 1, 1, 0, 0, 0, [], []),
  (35, .iinc 2 1, 2, 0, 1, 0, [], []),
  (38, .goto (-34), 4, 0, 0, 0, [], []),
  (41, .iload_n 1, 1, 0, 0, 0, [], []),
  (42, .ireturn, 0, 0, 0, 0, [], [])]
def p_X9_now : List Row := [(0, .aload_n 0, 0, 0, 0, 0, [], []),
  (1, .iconst 0, 0, 0, 0, 0, [], []),
  (2, .putfield 60, 9, 0, 0, 0, [], [825]),
  (5, .iload_n 1, 1, 0, 0, 0, [], []),
  (6, .iconst 0, 0, 0, 0, 0, [], []),
  (7, .iconst 5, 0, 0, 5, 0, [], []),
  (8, .invokestatic 64, 120, 3, 0, 0, [], [905, 906, 62, 907]),
  (11, .ifCond .ne 5, 10, 0, 0, 0, [], []),
  (14, .iconst (-1), 0, 0, (-1), 0, [], []),
  (15, .ireturn, 0, 0, 0, 0, [], []),
  (16, .iload_n 1, 1, 0, 0, 0, [], []),
  (17, .ifCond .ne 10, 15, 0, 0, 0, [], []),
  (20, .aload_n 0, 0, 0, 0, 0, [], []),
  (21, .invokevirtual 147, 145, 0, 0, 0, [], [1000, 1002, 39, 62, 1003]),
  (24, .goto 34, 32, 0, 0, 0, [], []),
  (27, .iload_n 1, 1, 0, 0, 0, [], []),
  (28, .iconst 4, 0, 0, 4, 0, [], []),
  (29, .if_icmp .ge 13, 24, 0, 0, 0, [], []),
  (32, .aload_n 0, 0, 0, 0, 0, [], []),
  (33, .iload_n 1, 1, 0, 0, 0, [], []),
  (34, .iconst 1, 0, 0, 1, 0, [], []),
  (35, .isub, 0, 0, 0, 0, [], []),
  (36, .invokevirtual 151, 146, 1, 0, 0, [], [1004, 1006, 40, 62, 1007]),
  (39, .goto 19, 32, 0, 0, 0, [], []),
  (42, .iload_n 1, 1, 0, 0, 0, [], []),
  (43, .iconst 4, 0, 0, 4, 0, [], []),
  (44, .if_icmp .ne 10, 30, 0, 0, 0, [], []),
  (47, .aload_n 0, 0, 0, 0, 0, [], []),
  (48, .invokevirtual 154, 147, 0, 0, 0, [], [1008, 1010, 41, 62, 1011]),
  (51, .goto 7, 32, 0, 0, 0, [], []),
  (54, .aload_n 0, 0, 0, 0, 0, [], []),
  (55, .getfield 117, 9, 18, 0, 0, [], [843]),
  (58, .ireturn, 0, 0, 0, 0, [], [])]
def p_X9_notes : List Row := [(0, .aload_n 0, 0, 0, 0, 0, [], []),
  (1, .getfield 117, 9, 18, 0, 0, [], [843]),
  (4, .bipush 10, 0, 0, 10, 0, [], []),
  (6, .if_icmp .ne 39, 24, 0, 0, 0, [], []),
  (9, .iconst 0, 0, 0, 0, 0, [], []),
  (10, .istore_n 1, 1, 0, 0, 0, [], []),
  (11, .iload_n 1, 1, 0, 0, 0, [], []),
  (12, .sipush 153, 0, 0, 153, 0, [], []),
  (15, .if_icmp .ge 24, 21, 0, 0, 0, [], []),
  (18, .aload_n 0, 0, 0, 0, 0, [], []),
  (19, .getfield 38, 9, 17, 0, 0, [], [842]),
  (22, .iload_n 1, 1, 0, 0, 0, [], []),
  (23, .aload_n 0, 0, 0, 0, 0, [], []),
  (24, .getfield 38, 9, 17, 0, 0, [], [842]),
  (27, .iload_n 1, 1, 0, 0, 0, [], []),
  (28, .bipush 17, 0, 0, 17, 0, [], []),
  (30, .iadd, 0, 0, 0, 0, [], []),
  (31, .iaload, 0, 0, 0, 0, [], []),
  (32, .iastore, 0, 0, 0, 0, [], []),
  (33, .iinc 1 1, 1, 0, 1, 0, [], []),
  (36, .goto (-25), 6, 0, 0, 0, [], []),
  (39, .aload_n 0, 0, 0, 0, 0, [], []),
  (40, .bipush 9, 0, 0, 9, 0, [], []),
  (42, .putfield 117, 9, 18, 0, 0, [], [843]),
  (45, .iconst 0, 0, 0, 0, 0, [], []),
  (46, .istore_n 1, 1, 0, 0, 0, [], []),
  (47, .iload_n 1, 1, 0, 0, 0, [], []),
  (48, .bipush 17, 0, 0, 17, 0, [], []),
  (50, .if_icmp .ge 29, 44, 0, 0, 0, [], []),
  (53, .aload_n 0, 0, 0, 0, 0, [], []),
  (54, .getfield 38, 9, 17, 0, 0, [], [842]),
  (57, .bipush 17, 0, 0, 17, 0, [], []),
  (59, .aload_n 0, 0, 0, 0, 0, [], []),
  (60, .getfield 117, 9, 18, 0, 0, [], [843]),
  (63, .imul, 0, 0, 0, 0, [], []),
  (64, .iload_n 1, 1, 0, 0, 0, [], []),
  (65, .iadd, 0, 0, 0, 0, [], []),
  (66, .aload_n 0, 0, 0, 0, 0, [], []),
  (67, .getfield 28, 9, 14, 0, 0, [], [839]),
  (70, .iload_n 1, 1, 0, 0, 0, [], []),
  (71, .iaload, 0, 0, 0, 0, [], []),
  (72, .iastore, 0, 0, 0, 0, [], []),
  (73, .iinc 1 1, 1, 0, 1, 0, [], []),
  (76, .goto (-29), 26, 0, 0, 0, [], []),
  (79, .aload_n 0, 0, 0, 0, 0, [], []),
  (80, .dup, 0, 0, 0, 0, [], []),
  (81, .getfield 117, 9, 18, 0, 0, [], [843]),
  (84, .iconst 1, 0, 0, 1, 0, [], []),
  (85, .iadd, 0, 0, 0, 0, [], []),
  (86, .putfield 117, 9, 18, 0, 0, [], [843]),
  (89, .return_, 0, 0, 0, 0, [], [])]
def p_X9_hasOne : List Row := [(0, .iconst 0, 0, 0, 0, 0, [], []),
  (1, .istore_n 3, 3, 0, 0, 0, [], []),
  (2, .iconst 0, 0, 0, 0, 0, [], []),
  (3, .istore 4, 4, 0, 0, 0, [], []),
  (5, .iload 4, 4, 0, 0, 0, [], []),
  (7, .aload_n 0, 0, 0, 0, 0, [], []),
  (8, .getfield 13, 9, 9, 0, 0, [], [834]),
  (11, .iconst 0, 0, 0, 0, 0, [], []),
  (12, .iaload, 0, 0, 0, 0, [], []),
  (13, .if_icmp .ge 44, 33, 0, 0, 0, [], []),
  (16, .iload_n 3, 3, 0, 0, 0, [], []),
  (17, .ifCond .ne 28, 27, 0, 0, 0, [], []),
  (20, .aload_n 0, 0, 0, 0, 0, [], []),
  (21, .getfield 28, 9, 14, 0, 0, [], [839]),
  (24, .iconst 0, 0, 0, 0, 0, [], []),
  (25, .iload 4, 4, 0, 0, 0, [], []),
  (27, .iadd, 0, 0, 0, 0, [], []),
  (28, .iaload, 0, 0, 0, 0, [], []),
  (29, .iload_n 1, 1, 0, 0, 0, [], []),
  (30, .iconst 1, 0, 0, 1, 0, [], []),
  (31, .iadd, 0, 0, 0, 0, [], []),
  (32, .if_icmp .ne 17, 29, 0, 0, 0, [], []),
  (35, .aload_n 0, 0, 0, 0, 0, [], []),
  (36, .iload 4, 4, 0, 0, 0, [], []),
  (38, .invokevirtual 120, 135, 1, 0, 0, [], [972, 974, 35, 62, 975]),
  (41, .iload_n 2, 2, 0, 0, 0, [], []),
  (42, .if_icmp .ne 7, 29, 0, 0, 0, [], []),
  (45, .iconst 1, 0, 0, 1, 0, [], []),
  (46, .goto 4, 30, 0, 0, 0, [], []),
  (49, .iconst 0, 0, 0, 0, 0, [], []),
  (50, .istore_n 3, 3, 0, 0, 0, [], []),
  (51, .iinc 4 1, 4, 0, 1, 0, [], []),
  (54, .goto (-49), 4, 0, 0, 0, [], []),
  (57, .iload_n 3, 3, 0, 0, 0, [], []),
  (58, .ireturn, 0, 0, 0, 0, [], [])]
def p_X9_lays : List Row := [(0, .aload_n 0, 0, 0, 0, 0, [], []),
  (1, .iconst 0, 0, 0, 0, 0, [], []),
  (2, .putfield 60, 9, 0, 0, 0, [], [825]),
  (5, .aload_n 0, 0, 0, 0, 0, [], []),
  (6, .iload_n 1, 1, 0, 0, 0, [], []),
  (7, .invokevirtual 131, 133, 1, 0, 0, [], [956, 958, 31, 62, 959]),
  (10, .ifCond .eq 11, 11, 0, 0, 0, [], []),
  (13, .aload_n 0, 0, 0, 0, 0, [], []),
  (14, .iload_n 2, 2, 0, 0, 0, [], []),
  (15, .invokevirtual 138, 134, 1, 0, 0, [], [980, 982, 36, 62, 983]),
  (18, .ifCond .ne 5, 13, 0, 0, 0, [], []),
  (21, .iconst (-1), 0, 0, (-1), 0, [], []),
  (22, .ireturn, 0, 0, 0, 0, [], []),
  (23, .aload_n 0, 0, 0, 0, 0, [], []),
  (24, .iload_n 1, 1, 0, 0, 0, [], []),
  (25, .iload_n 2, 2, 0, 0, 0, [], []),
  (26, .invokevirtual 127, 137, 2, 0, 0, [], [964, 966, 33, 62, 967]),
  (29, .ifCond .eq 27, 32, 0, 0, 0, [], []),
  (32, .aload_n 0, 0, 0, 0, 0, [], []),
  (33, .iload_n 2, 2, 0, 0, 0, [], []),
  (34, .aload_n 0, 0, 0, 0, 0, [], []),
  (35, .iload_n 1, 1, 0, 0, 0, [], []),
  (36, .invokevirtual 120, 135, 1, 0, 0, [], [972, 974, 35, 62, 975]),
  (39, .invokevirtual 157, 150, 2, 0, 0, [], [1016, 1018, 42, 62, 1019]),
  (42, .ifCond .ne 14, 32, 0, 0, 0, [], []),
  (45, .aload_n 0, 0, 0, 0, 0, [], []),
  (46, .getfield 28, 9, 14, 0, 0, [], [839]),
  (49, .iconst 0, 0, 0, 0, 0, [], []),
  (50, .iload_n 1, 1, 0, 0, 0, [], []),
  (51, .iadd, 0, 0, 0, 0, [], []),
  (52, .iaload, 0, 0, 0, 0, [], []),
  (53, .ifCond .le 6, 34, 0, 0, 0, [], []),
  (56, .bipush (-2), 0, 0, (-2), 0, [], []),
  (58, .ireturn, 0, 0, 0, 0, [], []),
  (59, .aload_n 0, 0, 0, 0, 0, [], []),
  (60, .invokevirtual 160, 149, 0, 0, 0, [], [1020, 1022, 43, 62, 1023]),
  (63, .aload_n 0, 0, 0, 0, 0, [], []),
  (64, .getfield 28, 9, 14, 0, 0, [], [839]),
  (67, .iconst 0, 0, 0, 0, 0, [], []),
  (68, .iload_n 1, 1, 0, 0, 0, [], []),
  (69, .iadd, 0, 0, 0, 0, [], []),
  (70, .iload_n 2, 2, 0, 0, 0, [], []),
  (71, .iconst 1, 0, 0, 1, 0, [], []),
  (72, .iadd, 0, 0, 0, 0, [], []),
  (73, .iastore, 0, 0, 0, 0, [], []),
  (74, .aload_n 0, 0, 0, 0, 0, [], []),
  (75, .iload_n 2, 2, 0, 0, 0, [], []),
  (76, .invokevirtual 141, 141, 1, 0, 0, [], [984, 986, 37, 62, 987]),
  (79, .invokestatic 163, 121, 1, 0, 0, [], [1024, 1025, 62, 1026]),
  (82, .ireturn, 0, 0, 0, 0, [], [])]
def p_X9_takes_ : List Row := [(0, .aload_n 0, 0, 0, 0, 0, [], []),
  (1, .iconst 0, 0, 0, 0, 0, [], []),
  (2, .putfield 60, 9, 0, 0, 0, [], [825]),
  (5, .aload_n 0, 0, 0, 0, 0, [], []),
  (6, .iload_n 1, 1, 0, 0, 0, [], []),
  (7, .invokevirtual 131, 133, 1, 0, 0, [], [956, 958, 31, 62, 959]),
  (10, .ifCond .ne 5, 9, 0, 0, 0, [], []),
  (13, .iconst (-1), 0, 0, (-1), 0, [], []),
  (14, .ireturn, 0, 0, 0, 0, [], []),
  (15, .aload_n 0, 0, 0, 0, 0, [], []),
  (16, .getfield 28, 9, 14, 0, 0, [], [839]),
  (19, .iconst 0, 0, 0, 0, 0, [], []),
  (20, .iload_n 1, 1, 0, 0, 0, [], []),
  (21, .iadd, 0, 0, 0, 0, [], []),
  (22, .iaload, 0, 0, 0, 0, [], []),
  (23, .iconst 1, 0, 0, 1, 0, [], []),
  (24, .isub, 0, 0, 0, 0, [], []),
  (25, .istore_n 2, 2, 0, 0, 0, [], []),
  (26, .iload_n 2, 2, 0, 0, 0, [], []),
  (27, .ifCond .ge 6, 22, 0, 0, 0, [], []),
  (30, .bipush (-2), 0, 0, (-2), 0, [], []),
  (32, .ireturn, 0, 0, 0, 0, [], []),
  (33, .aload_n 0, 0, 0, 0, 0, [], []),
  (34, .invokevirtual 160, 149, 0, 0, 0, [], [1020, 1022, 43, 62, 1023]),
  (37, .aload_n 0, 0, 0, 0, 0, [], []),
  (38, .getfield 28, 9, 14, 0, 0, [], [839]),
  (41, .iconst 0, 0, 0, 0, 0, [], []),
  (42, .iload_n 1, 1, 0, 0, 0, [], []),
  (43, .iadd, 0, 0, 0, 0, [], []),
  (44, .iconst 0, 0, 0, 0, 0, [], []),
  (45, .iastore, 0, 0, 0, 0, [], []),
  (46, .iload_n 2, 2, 0, 0, 0, [], []),
  (47, .ireturn, 0, 0, 0, 0, [], [])]
def p_X9_rescales : List Row := [(0, .aload_n 0, 0, 0, 0, 0, [], []),
  (1, .iconst 0, 0, 0, 0, 0, [], []),
  (2, .putfield 60, 9, 0, 0, 0, [], [825]),
  (5, .iload_n 1, 1, 0, 0, 0, [], []),
  (6, .iconst 0, 0, 0, 0, 0, [], []),
  (7, .iconst 1, 0, 0, 1, 0, [], []),
  (8, .invokestatic 64, 120, 3, 0, 0, [], [905, 906, 62, 907]),
  (11, .ifCond .eq 37, 25, 0, 0, 0, [], []),
  (14, .iload_n 1, 1, 0, 0, 0, [], []),
  (15, .iconst 1, 0, 0, 1, 0, [], []),
  (16, .if_icmp .ne 14, 16, 0, 0, 0, [], []),
  (19, .aload_n 0, 0, 0, 0, 0, [], []),
  (20, .iload_n 2, 2, 0, 0, 0, [], []),
  (21, .invokevirtual 131, 133, 1, 0, 0, [], [956, 958, 31, 62, 959]),
  (24, .ifCond .eq 24, 25, 0, 0, 0, [], []),
  (27, .goto 11, 20, 0, 0, 0, [], []),
  (30, .aload_n 0, 0, 0, 0, 0, [], []),
  (31, .iload_n 2, 2, 0, 0, 0, [], []),
  (32, .invokevirtual 138, 134, 1, 0, 0, [], [980, 982, 36, 62, 983]),
  (35, .ifCond .eq 13, 25, 0, 0, 0, [], []),
  (38, .iload_n 3, 3, 0, 0, 0, [], []),
  (39, .iconst 1, 0, 0, 1, 0, [], []),
  (40, .bipush 48, 0, 0, 48, 0, [], []),
  (42, .invokestatic 64, 120, 3, 0, 0, [], [905, 906, 62, 907]),
  (45, .ifCond .ne 5, 27, 0, 0, 0, [], []),
  (48, .iconst (-1), 0, 0, (-1), 0, [], []),
  (49, .ireturn, 0, 0, 0, 0, [], []),
  (50, .aload_n 0, 0, 0, 0, 0, [], []),
  (51, .invokevirtual 160, 149, 0, 0, 0, [], [1020, 1022, 43, 62, 1023]),
  (54, .iload_n 1, 1, 0, 0, 0, [], []),
  (55, .iconst 1, 0, 0, 1, 0, [], []),
  (56, .if_icmp .ne 8, 34, 0, 0, 0, [], []),
  (59, .bipush 6, 0, 0, 6, 0, [], []),
  (61, .goto 5, 35, 0, 0, 0, [], []),
  (64, .bipush 12, 0, 0, 12, 0, [], []),
  (66, .iload_n 2, 2, 0, 0, 0, [], []),
  (67, .iadd, 0, 0, 0, 0, [], []),
  (68, .istore 4, 4, 0, 0, 0, [], []),
  (70, .aload_n 0, 0, 0, 0, 0, [], []),
  (71, .getfield 28, 9, 14, 0, 0, [], [839]),
  (74, .iload 4, 4, 0, 0, 0, [], []),
  (76, .iaload, 0, 0, 0, 0, [], []),
  (77, .istore 5, 5, 0, 0, 0, [], []),
  (79, .aload_n 0, 0, 0, 0, 0, [], []),
  (80, .getfield 28, 9, 14, 0, 0, [], [839]),
  (83, .iload 4, 4, 0, 0, 0, [], []),
  (85, .iload_n 3, 3, 0, 0, 0, [], []),
  (86, .iastore, 0, 0, 0, 0, [], []),
  (87, .iconst 0, 0, 0, 0, 0, [], []),
  (88, .istore 6, 6, 0, 0, 0, [], []),
  (90, .iload 6, 6, 0, 0, 0, [], []),
  (92, .aload_n 0, 0, 0, 0, 0, [], []),
  (93, .getfield 13, 9, 9, 0, 0, [], [834]),
  (96, .iconst 0, 0, 0, 0, 0, [], []),
  (97, .iaload, 0, 0, 0, 0, [], []),
  (98, .if_icmp .ge 51, 84, 0, 0, 0, [], []),
  (101, .aload_n 0, 0, 0, 0, 0, [], []),
  (102, .getfield 28, 9, 14, 0, 0, [], [839]),
  (105, .iconst 0, 0, 0, 0, 0, [], []),
  (106, .iload 6, 6, 0, 0, 0, [], []),
  (108, .iadd, 0, 0, 0, 0, [], []),
  (109, .iaload, 0, 0, 0, 0, [], []),
  (110, .ifCond .le 33, 82, 0, 0, 0, [], []),
  (113, .aload_n 0, 0, 0, 0, 0, [], []),
  (114, .iload 6, 6, 0, 0, 0, [], []),
  (116, .aload_n 0, 0, 0, 0, 0, [], []),
  (117, .getfield 28, 9, 14, 0, 0, [], [839]),
  (120, .iconst 0, 0, 0, 0, 0, [], []),
  (121, .iload 6, 6, 0, 0, 0, [], []),
  (123, .iadd, 0, 0, 0, 0, [], []),
  (124, .iaload, 0, 0, 0, 0, [], []),
  (125, .iconst 1, 0, 0, 1, 0, [], []),
  (126, .isub, 0, 0, 0, 0, [], []),
  (127, .invokevirtual 127, 137, 2, 0, 0, [], [964, 966, 33, 62, 967]),
  (130, .ifCond .ne 13, 82, 0, 0, 0, [], []),
  (133, .aload_n 0, 0, 0, 0, 0, [], []),
  (134, .getfield 28, 9, 14, 0, 0, [], [839]),
  (137, .iconst 0, 0, 0, 0, 0, [], []),
  (138, .iload 6, 6, 0, 0, 0, [], []),
  (140, .iadd, 0, 0, 0, 0, [], []),
  (141, .iconst 0, 0, 0, 0, 0, [], []),
  (142, .iastore, 0, 0, 0, 0, [], []),
  (143, .iinc 6 1, 6, 0, 1, 0, [], []),
  (146, .goto (-56), 50, 0, 0, 0, [], []),
  (149, .iload 5, 5, 0, 0, 0, [], []),
  (151, .ireturn, 0, 0, 0, 0, [], [])]
def p_X9_undo : List Row := [(0, .aload_n 0, 0, 0, 0, 0, [], []),
  (1, .iconst 0, 0, 0, 0, 0, [], []),
  (2, .putfield 60, 9, 0, 0, 0, [], [825]),
  (5, .aload_n 0, 0, 0, 0, 0, [], []),
  (6, .getfield 117, 9, 18, 0, 0, [], [843]),
  (9, .ifCond .ne 6, 8, 0, 0, 0, [], []),
  (12, .bipush (-2), 0, 0, (-2), 0, [], []),
  (14, .ireturn, 0, 0, 0, 0, [], []),
  (15, .aload_n 0, 0, 0, 0, 0, [], []),
  (16, .dup, 0, 0, 0, 0, [], []),
  (17, .getfield 117, 9, 18, 0, 0, [], [843]),
  (20, .iconst 1, 0, 0, 1, 0, [], []),
  (21, .isub, 0, 0, 0, 0, [], []),
  (22, .putfield 117, 9, 18, 0, 0, [], [843]),
  (25, .iconst 0, 0, 0, 0, 0, [], []),
  (26, .istore_n 1, 1, 0, 0, 0, [], []),
  (27, .iload_n 1, 1, 0, 0, 0, [], []),
  (28, .bipush 17, 0, 0, 17, 0, [], []),
  (30, .if_icmp .ge 29, 34, 0, 0, 0, [], []),
  (33, .aload_n 0, 0, 0, 0, 0, [], []),
  (34, .getfield 28, 9, 14, 0, 0, [], [839]),
  (37, .iload_n 1, 1, 0, 0, 0, [], []),
  (38, .aload_n 0, 0, 0, 0, 0, [], []),
  (39, .getfield 38, 9, 17, 0, 0, [], [842]),
  (42, .bipush 17, 0, 0, 17, 0, [], []),
  (44, .aload_n 0, 0, 0, 0, 0, [], []),
  (45, .getfield 117, 9, 18, 0, 0, [], [843]),
  (48, .imul, 0, 0, 0, 0, [], []),
  (49, .iload_n 1, 1, 0, 0, 0, [], []),
  (50, .iadd, 0, 0, 0, 0, [], []),
  (51, .iaload, 0, 0, 0, 0, [], []),
  (52, .iastore, 0, 0, 0, 0, [], []),
  (53, .iinc 1 1, 1, 0, 1, 0, [], []),
  (56, .goto (-29), 16, 0, 0, 0, [], []),
  (59, .aload_n 0, 0, 0, 0, 0, [], []),
  (60, .getfield 117, 9, 18, 0, 0, [], [843]),
  (63, .ireturn, 0, 0, 0, 0, [], [])]
def p_X9_canHave : List Row := [(0, .iconst 1, 0, 0, 1, 0, [], []),
  (1, .istore 5, 5, 0, 0, 0, [], []),
  (3, .iconst 0, 0, 0, 0, 0, [], []),
  (4, .istore 6, 6, 0, 0, 0, [], []),
  (6, .iload_n 3, 3, 0, 0, 0, [], []),
  (7, .istore 7, 7, 0, 0, 0, [], []),
  (9, .iload 7, 7, 0, 0, 0, [], []),
  (11, .aload_n 0, 0, 0, 0, 0, [], []),
  (12, .getfield 13, 9, 9, 0, 0, [], [834]),
  (15, .iconst 1, 0, 0, 1, 0, [], []),
  (16, .iaload, 0, 0, 0, 0, [], []),
  (17, .if_icmp .ge 45, 38, 0, 0, 0, [], []),
  (20, .iload 5, 5, 0, 0, 0, [], []),
  (22, .iload_n 1, 1, 0, 0, 0, [], []),
  (23, .iload 7, 7, 0, 0, 0, [], []),
  (25, .ishr, 0, 0, 0, 0, [], []),
  (26, .iconst 1, 0, 0, 1, 0, [], []),
  (27, .iand, 0, 0, 0, 0, [], []),
  (28, .iconst 1, 0, 0, 1, 0, [], []),
  (29, .if_icmp .ne 12, 25, 0, 0, 0, [], []),
  (32, .aload_n 0, 0, 0, 0, 0, [], []),
  (33, .getfield 13, 9, 9, 0, 0, [], [834]),
  (36, .iconst 0, 0, 0, 0, 0, [], []),
  (37, .iaload, 0, 0, 0, 0, [], []),
  (38, .goto 4, 26, 0, 0, 0, [], []),
  (41, .iconst 1, 0, 0, 1, 0, [], []),
  (42, .imul, 0, 0, 0, 0, [], []),
  (43, .istore 5, 5, 0, 0, 0, [], []),
  (45, .iload 6, 6, 0, 0, 0, [], []),
  (47, .iload_n 1, 1, 0, 0, 0, [], []),
  (48, .iload 7, 7, 0, 0, 0, [], []),
  (50, .ishr, 0, 0, 0, 0, [], []),
  (51, .iconst 1, 0, 0, 1, 0, [], []),
  (52, .iand, 0, 0, 0, 0, [], []),
  (53, .iadd, 0, 0, 0, 0, [], []),
  (54, .istore 6, 6, 0, 0, 0, [], []),
  (56, .iinc 7 1, 7, 0, 1, 0, [], []),
  (59, .goto (-50), 6, 0, 0, 0, [], []),
  (62, .iload 6, 6, 0, 0, 0, [], []),
  (64, .ifCond .ne 7, 42, 0, 0, 0, [], []),
  (67, .iconst 1, 0, 0, 1, 0, [], []),
  (68, .goto 4, 43, 0, 0, 0, [], []),
  (71, .iconst 0, 0, 0, 0, 0, [], []),
  (72, .istore 7, 7, 0, 0, 0, [], []),
  (74, .iconst 0, 0, 0, 0, 0, [], []),
  (75, .istore 8, 8, 0, 0, 0, [], []),
  (77, .iload 8, 8, 0, 0, 0, [], []),
  (79, .iload 5, 5, 0, 0, 0, [], []),
  (81, .if_icmp .ge 142, 125, 0, 0, 0, [], []),
  (84, .iload 7, 7, 0, 0, 0, [], []),
  (86, .ifCond .ne 137, 125, 0, 0, 0, [], []),
  (89, .aload_n 0, 0, 0, 0, 0, [], []),
  (90, .getfield 13, 9, 9, 0, 0, [], [834]),
  (93, .iconst 0, 0, 0, 0, 0, [], []),
  (94, .iaload, 0, 0, 0, 0, [], []),
  (95, .ifCond .le 128, 125, 0, 0, 0, [], []),
  (98, .iload 8, 8, 0, 0, 0, [], []),
  (100, .istore 9, 9, 0, 0, 0, [], []),
  (102, .iload 4, 4, 0, 0, 0, [], []),
  (104, .istore 10, 10, 0, 0, 0, [], []),
  (106, .iconst 1, 0, 0, 1, 0, [], []),
  (107, .istore 11, 11, 0, 0, 0, [], []),
  (109, .iload_n 3, 3, 0, 0, 0, [], []),
  (110, .istore 12, 12, 0, 0, 0, [], []),
  (112, .iload 12, 12, 0, 0, 0, [], []),
  (114, .aload_n 0, 0, 0, 0, 0, [], []),
  (115, .getfield 13, 9, 9, 0, 0, [], [834]),
  (118, .iconst 1, 0, 0, 1, 0, [], []),
  (119, .iaload, 0, 0, 0, 0, [], []),
  (120, .if_icmp .ge 93, 121, 0, 0, 0, [], []),
  (123, .iload 11, 11, 0, 0, 0, [], []),
  (125, .ifCond .eq 88, 121, 0, 0, 0, [], []),
  (128, .iload_n 1, 1, 0, 0, 0, [], []),
  (129, .iload 12, 12, 0, 0, 0, [], []),
  (131, .ishr, 0, 0, 0, 0, [], []),
  (132, .iconst 1, 0, 0, 1, 0, [], []),
  (133, .iand, 0, 0, 0, 0, [], []),
  (134, .iconst 1, 0, 0, 1, 0, [], []),
  (135, .if_icmp .ne 72, 119, 0, 0, 0, [], []),
  (138, .iload 9, 9, 0, 0, 0, [], []),
  (140, .aload_n 0, 0, 0, 0, 0, [], []),
  (141, .getfield 13, 9, 9, 0, 0, [], [834]),
  (144, .iconst 0, 0, 0, 0, 0, [], []),
  (145, .iaload, 0, 0, 0, 0, [], []),
  (146, .irem, 0, 0, 0, 0, [], []),
  (147, .istore 13, 13, 0, 0, 0, [], []),
  (149, .iload 9, 9, 0, 0, 0, [], []),
  (151, .aload_n 0, 0, 0, 0, 0, [], []),
  (152, .getfield 13, 9, 9, 0, 0, [], [834]),
  (155, .iconst 0, 0, 0, 0, 0, [], []),
  (156, .iaload, 0, 0, 0, 0, [], []),
  (157, .idiv, 0, 0, 0, 0, [], []),
  (158, .istore 9, 9, 0, 0, 0, [], []),
  (160, .aload_n 0, 0, 0, 0, 0, [], []),
  (161, .iload 13, 13, 0, 0, 0, [], []),
  (163, .invokevirtual 120, 135, 1, 0, 0, [], [972, 974, 35, 62, 975]),
  (166, .iload_n 2, 2, 0, 0, 0, [], []),
  (167, .if_icmp .ne 28, 111, 0, 0, 0, [], []),
  (170, .iload 10, 10, 0, 0, 0, [], []),
  (172, .iload 13, 13, 0, 0, 0, [], []),
  (174, .ishr, 0, 0, 0, 0, [], []),
  (175, .iconst 1, 0, 0, 1, 0, [], []),
  (176, .iand, 0, 0, 0, 0, [], []),
  (177, .ifCond .ne 18, 111, 0, 0, 0, [], []),
  (180, .aload_n 0, 0, 0, 0, 0, [], []),
  (181, .iload 13, 13, 0, 0, 0, [], []),
  (183, .iload 12, 12, 0, 0, 0, [], []),
  (185, .invokevirtual 127, 137, 2, 0, 0, [], [964, 966, 33, 62, 967]),
  (188, .ifCond .eq 7, 111, 0, 0, 0, [], []),
  (191, .iconst 1, 0, 0, 1, 0, [], []),
  (192, .goto 4, 112, 0, 0, 0, [], []),
  (195, .iconst 0, 0, 0, 0, 0, [], []),
  (196, .istore 11, 11, 0, 0, 0, [], []),
  (198, .iload 10, 10, 0, 0, 0, [], []),
  (200, .iconst 1, 0, 0, 1, 0, [], []),
  (201, .iload 13, 13, 0, 0, 0, [], []),
  (203, .ishl, 0, 0, 0, 0, [], []),
  (204, .ior, 0, 0, 0, 0, [], []),
  (205, .istore 10, 10, 0, 0, 0, [], []),
  (207, .iinc 12 1, 12, 0, 1, 0, [], []),
  (210, .goto (-98), 64, 0, 0, 0, [], []),
  (213, .iload 11, 11, 0, 0, 0, [], []),
  (215, .istore 7, 7, 0, 0, 0, [], []),
  (217, .iinc 8 1, 8, 0, 1, 0, [], []),
  (220, .goto (-143), 46, 0, 0, 0, [], []),
  (223, .iload 7, 7, 0, 0, 0, [], []),
  (225, .ireturn, 0, 0, 0, 0, [], [])]
def p_X9_housedSet : List Row := [(0, .iconst 0, 0, 0, 0, 0, [], []),
  (1, .istore_n 1, 1, 0, 0, 0, [], []),
  (2, .iconst 1, 0, 0, 1, 0, [], []),
  (3, .istore_n 2, 2, 0, 0, 0, [], []),
  (4, .iload_n 2, 2, 0, 0, 0, [], []),
  (5, .iconst 1, 0, 0, 1, 0, [], []),
  (6, .aload_n 0, 0, 0, 0, 0, [], []),
  (7, .getfield 13, 9, 9, 0, 0, [], [834]),
  (10, .iconst 1, 0, 0, 1, 0, [], []),
  (11, .iaload, 0, 0, 0, 0, [], []),
  (12, .ishl, 0, 0, 0, 0, [], []),
  (13, .if_icmp .ge 74, 53, 0, 0, 0, [], []),
  (16, .iload_n 2, 2, 0, 0, 0, [], []),
  (17, .invokestatic 163, 121, 1, 0, 0, [], [1024, 1025, 62, 1026]),
  (20, .iload_n 1, 1, 0, 0, 0, [], []),
  (21, .invokestatic 163, 121, 1, 0, 0, [], [1024, 1025, 62, 1026]),
  (24, .if_icmp .le 57, 51, 0, 0, 0, [], []),
  (27, .iconst 3, 0, 0, 3, 0, [], []),
  (28, .iload_n 2, 2, 0, 0, 0, [], []),
  (29, .invokestatic 163, 121, 1, 0, 0, [], [1024, 1025, 62, 1026]),
  (32, .imul, 0, 0, 0, 0, [], []),
  (33, .aload_n 0, 0, 0, 0, 0, [], []),
  (34, .getfield 13, 9, 9, 0, 0, [], [834]),
  (37, .iconst 0, 0, 0, 0, 0, [], []),
  (38, .iaload, 0, 0, 0, 0, [], []),
  (39, .if_icmp .gt 42, 51, 0, 0, 0, [], []),
  (42, .aload_n 0, 0, 0, 0, 0, [], []),
  (43, .iload_n 2, 2, 0, 0, 0, [], []),
  (44, .iconst 0, 0, 0, 0, 0, [], []),
  (45, .iconst 0, 0, 0, 0, 0, [], []),
  (46, .iconst 0, 0, 0, 0, 0, [], []),
  (47, .invokevirtual 166, 155, 4, 0, 0, [], [1047, 1049, 45, 62, 1050]),
  (50, .ifCond .eq 29, 49, 0, 0, 0, [], []),
  (53, .aload_n 0, 0, 0, 0, 0, [], []),
  (54, .iload_n 2, 2, 0, 0, 0, [], []),
  (55, .iconst 1, 0, 0, 1, 0, [], []),
  (56, .iconst 0, 0, 0, 0, 0, [], []),
  (57, .iconst 0, 0, 0, 0, 0, [], []),
  (58, .invokevirtual 166, 155, 4, 0, 0, [], [1047, 1049, 45, 62, 1050]),
  (61, .ifCond .eq 18, 49, 0, 0, 0, [], []),
  (64, .aload_n 0, 0, 0, 0, 0, [], []),
  (65, .iload_n 2, 2, 0, 0, 0, [], []),
  (66, .iconst 2, 0, 0, 2, 0, [], []),
  (67, .iconst 0, 0, 0, 0, 0, [], []),
  (68, .iconst 0, 0, 0, 0, 0, [], []),
  (69, .invokevirtual 166, 155, 4, 0, 0, [], [1047, 1049, 45, 62, 1050]),
  (72, .ifCond .eq 7, 49, 0, 0, 0, [], []),
  (75, .iload_n 2, 2, 0, 0, 0, [], []),
  (76, .goto 4, 50, 0, 0, 0, [], []),
  (79, .iload_n 1, 1, 0, 0, 0, [], []),
  (80, .istore_n 1, 1, 0, 0, 0, [], []),
  (81, .iinc 2 1, 2, 0, 1, 0, [], []),
  (84, .goto (-80), 4, 0, 0, 0, [], []),
  (87, .iload_n 1, 1, 0, 0, 0, [], []),
  (88, .ireturn, 0, 0, 0, 0, [], [])]
def p_X9_housed : List Row := [(0, .aload_n 0, 0, 0, 0, 0, [], []),
  (1, .iconst 0, 0, 0, 0, 0, [], []),
  (2, .putfield 60, 9, 0, 0, 0, [], [825]),
  (5, .iload_n 1, 1, 0, 0, 0, [], []),
  (6, .iconst 0, 0, 0, 0, 0, [], []),
  (7, .iconst 1, 0, 0, 1, 0, [], []),
  (8, .invokestatic 64, 120, 3, 0, 0, [], [905, 906, 62, 907]),
  (11, .ifCond .ne 5, 10, 0, 0, 0, [], []),
  (14, .iconst (-1), 0, 0, (-1), 0, [], []),
  (15, .ireturn, 0, 0, 0, 0, [], []),
  (16, .aload_n 0, 0, 0, 0, 0, [], []),
  (17, .invokevirtual 169, 156, 0, 0, 0, [], [1043, 1045, 44, 62, 1046]),
  (20, .istore_n 2, 2, 0, 0, 0, [], []),
  (21, .iload_n 1, 1, 0, 0, 0, [], []),
  (22, .ifCond .ne 10, 18, 0, 0, 0, [], []),
  (25, .iload_n 2, 2, 0, 0, 0, [], []),
  (26, .invokestatic 163, 121, 1, 0, 0, [], [1024, 1025, 62, 1026]),
  (29, .goto 4, 19, 0, 0, 0, [], []),
  (32, .iload_n 2, 2, 0, 0, 0, [], []),
  (33, .ireturn, 0, 0, 0, 0, [], [])]
def p_X9_laying : List Row := [(0, .aload_n 0, 0, 0, 0, 0, [], []),
  (1, .iconst 0, 0, 0, 0, 0, [], []),
  (2, .putfield 60, 9, 0, 0, 0, [], [825]),
  (5, .aload_n 0, 0, 0, 0, 0, [], []),
  (6, .iload_n 1, 1, 0, 0, 0, [], []),
  (7, .invokevirtual 138, 134, 1, 0, 0, [], [980, 982, 36, 62, 983]),
  (10, .ifCond .eq 12, 12, 0, 0, 0, [], []),
  (13, .iload_n 2, 2, 0, 0, 0, [], []),
  (14, .iconst 0, 0, 0, 0, 0, [], []),
  (15, .iconst 2, 0, 0, 2, 0, [], []),
  (16, .invokestatic 64, 120, 3, 0, 0, [], [905, 906, 62, 907]),
  (19, .ifCond .ne 5, 14, 0, 0, 0, [], []),
  (22, .iconst (-1), 0, 0, (-1), 0, [], []),
  (23, .ireturn, 0, 0, 0, 0, [], []),
  (24, .aload_n 0, 0, 0, 0, 0, [], []),
  (25, .invokevirtual 169, 156, 0, 0, 0, [], [1043, 1045, 44, 62, 1046]),
  (28, .istore_n 3, 3, 0, 0, 0, [], []),
  (29, .iload_n 3, 3, 0, 0, 0, [], []),
  (30, .iload_n 1, 1, 0, 0, 0, [], []),
  (31, .ishr, 0, 0, 0, 0, [], []),
  (32, .iconst 1, 0, 0, 1, 0, [], []),
  (33, .iand, 0, 0, 0, 0, [], []),
  (34, .ifCond .ne 6, 25, 0, 0, 0, [], []),
  (37, .bipush (-9), 0, 0, (-9), 0, [], []),
  (39, .ireturn, 0, 0, 0, 0, [], []),
  (40, .iconst 0, 0, 0, 0, 0, [], []),
  (41, .istore 4, 4, 0, 0, 0, [], []),
  (43, .iconst 0, 0, 0, 0, 0, [], []),
  (44, .istore 5, 5, 0, 0, 0, [], []),
  (46, .iload 5, 5, 0, 0, 0, [], []),
  (48, .iload_n 1, 1, 0, 0, 0, [], []),
  (49, .if_icmp .gt 102, 90, 0, 0, 0, [], []),
  (52, .iload_n 3, 3, 0, 0, 0, [], []),
  (53, .iload 5, 5, 0, 0, 0, [], []),
  (55, .ishr, 0, 0, 0, 0, [], []),
  (56, .iconst 1, 0, 0, 1, 0, [], []),
  (57, .iand, 0, 0, 0, 0, [], []),
  (58, .iconst 1, 0, 0, 1, 0, [], []),
  (59, .if_icmp .ne 86, 88, 0, 0, 0, [], []),
  (62, .iconst 0, 0, 0, 0, 0, [], []),
  (63, .istore 6, 6, 0, 0, 0, [], []),
  (65, .aload_n 0, 0, 0, 0, 0, [], []),
  (66, .iload 6, 6, 0, 0, 0, [], []),
  (68, .invokevirtual 120, 135, 1, 0, 0, [], [972, 974, 35, 62, 975]),
  (71, .iload_n 2, 2, 0, 0, 0, [], []),
  (72, .if_icmp .ne 45, 71, 0, 0, 0, [], []),
  (75, .iload 4, 4, 0, 0, 0, [], []),
  (77, .iload 6, 6, 0, 0, 0, [], []),
  (79, .ishr, 0, 0, 0, 0, [], []),
  (80, .iconst 1, 0, 0, 1, 0, [], []),
  (81, .iand, 0, 0, 0, 0, [], []),
  (82, .iconst 1, 0, 0, 1, 0, [], []),
  (83, .if_icmp .eq 34, 71, 0, 0, 0, [], []),
  (86, .aload_n 0, 0, 0, 0, 0, [], []),
  (87, .iload 6, 6, 0, 0, 0, [], []),
  (89, .iload 5, 5, 0, 0, 0, [], []),
  (91, .invokevirtual 127, 137, 2, 0, 0, [], [964, 966, 33, 62, 967]),
  (94, .ifCond .eq 23, 71, 0, 0, 0, [], []),
  (97, .aload_n 0, 0, 0, 0, 0, [], []),
  (98, .iload_n 3, 3, 0, 0, 0, [], []),
  (99, .iload_n 2, 2, 0, 0, 0, [], []),
  (100, .iload 5, 5, 0, 0, 0, [], []),
  (102, .iconst 1, 0, 0, 1, 0, [], []),
  (103, .iadd, 0, 0, 0, 0, [], []),
  (104, .iload 4, 4, 0, 0, 0, [], []),
  (106, .iconst 1, 0, 0, 1, 0, [], []),
  (107, .iload 6, 6, 0, 0, 0, [], []),
  (109, .ishl, 0, 0, 0, 0, [], []),
  (110, .ior, 0, 0, 0, 0, [], []),
  (111, .invokevirtual 166, 155, 4, 0, 0, [], [1047, 1049, 45, 62, 1050]),
  (114, .ifCond .ne 9, 73, 0, 0, 0, [], []),
  (117, .iinc 6 1, 6, 0, 1, 0, [], []),
  (120, .goto (-55), 41, 0, 0, 0, [], []),
  (123, .iload 4, 4, 0, 0, 0, [], []),
  (125, .iconst 1, 0, 0, 1, 0, [], []),
  (126, .iload 6, 6, 0, 0, 0, [], []),
  (128, .ishl, 0, 0, 0, 0, [], []),
  (129, .ior, 0, 0, 0, 0, [], []),
  (130, .istore 4, 4, 0, 0, 0, [], []),
  (132, .aload_n 0, 0, 0, 0, 0, [], []),
  (133, .getfield 47, 9, 22, 0, 0, [], [847]),
  (136, .iconst 3, 0, 0, 3, 0, [], []),
  (137, .iload 5, 5, 0, 0, 0, [], []),
  (139, .imul, 0, 0, 0, 0, [], []),
  (140, .iload_n 2, 2, 0, 0, 0, [], []),
  (141, .iadd, 0, 0, 0, 0, [], []),
  (142, .iload 6, 6, 0, 0, 0, [], []),
  (144, .iastore, 0, 0, 0, 0, [], []),
  (145, .iinc 5 1, 5, 0, 1, 0, [], []),
  (148, .goto (-102), 29, 0, 0, 0, [], []),
  (151, .aload_n 0, 0, 0, 0, 0, [], []),
  (152, .getfield 47, 9, 22, 0, 0, [], [847]),
  (155, .iconst 3, 0, 0, 3, 0, [], []),
  (156, .iload_n 1, 1, 0, 0, 0, [], []),
  (157, .imul, 0, 0, 0, 0, [], []),
  (158, .iload_n 2, 2, 0, 0, 0, [], []),
  (159, .iadd, 0, 0, 0, 0, [], []),
  (160, .iaload, 0, 0, 0, 0, [], []),
  (161, .ireturn, 0, 0, 0, 0, [], [])]
def p_X9_tries : List Row := [(0, .aload_n 0, 0, 0, 0, 0, [], []),
  (1, .iconst 0, 0, 0, 0, 0, [], []),
  (2, .putfield 60, 9, 0, 0, 0, [], [825]),
  (5, .aload_n 0, 0, 0, 0, 0, [], []),
  (6, .iload_n 1, 1, 0, 0, 0, [], []),
  (7, .invokevirtual 131, 133, 1, 0, 0, [], [956, 958, 31, 62, 959]),
  (10, .ifCond .eq 12, 12, 0, 0, 0, [], []),
  (13, .iload_n 2, 2, 0, 0, 0, [], []),
  (14, .iconst 0, 0, 0, 0, 0, [], []),
  (15, .iconst 1, 0, 0, 1, 0, [], []),
  (16, .invokestatic 64, 120, 3, 0, 0, [], [905, 906, 62, 907]),
  (19, .ifCond .ne 5, 14, 0, 0, 0, [], []),
  (22, .iconst (-1), 0, 0, (-1), 0, [], []),
  (23, .ireturn, 0, 0, 0, 0, [], []),
  (24, .aload_n 0, 0, 0, 0, 0, [], []),
  (25, .getfield 114, 9, 21, 0, 0, [], [846]),
  (28, .bipush 6, 0, 0, 6, 0, [], []),
  (30, .if_icmp .ne 6, 20, 0, 0, 0, [], []),
  (33, .bipush (-3), 0, 0, (-3), 0, [], []),
  (35, .ireturn, 0, 0, 0, 0, [], []),
  (36, .aload_n 0, 0, 0, 0, 0, [], []),
  (37, .getfield 41, 9, 19, 0, 0, [], [844]),
  (40, .aload_n 0, 0, 0, 0, 0, [], []),
  (41, .getfield 114, 9, 21, 0, 0, [], [846]),
  (44, .iload_n 1, 1, 0, 0, 0, [], []),
  (45, .iastore, 0, 0, 0, 0, [], []),
  (46, .aload_n 0, 0, 0, 0, 0, [], []),
  (47, .getfield 44, 9, 20, 0, 0, [], [845]),
  (50, .aload_n 0, 0, 0, 0, 0, [], []),
  (51, .getfield 114, 9, 21, 0, 0, [], [846]),
  (54, .iload_n 2, 2, 0, 0, 0, [], []),
  (55, .iastore, 0, 0, 0, 0, [], []),
  (56, .aload_n 0, 0, 0, 0, 0, [], []),
  (57, .dup, 0, 0, 0, 0, [], []),
  (58, .getfield 114, 9, 21, 0, 0, [], [846]),
  (61, .iconst 1, 0, 0, 1, 0, [], []),
  (62, .iadd, 0, 0, 0, 0, [], []),
  (63, .putfield 114, 9, 21, 0, 0, [], [846]),
  (66, .aload_n 0, 0, 0, 0, 0, [], []),
  (67, .getfield 114, 9, 21, 0, 0, [], [846]),
  (70, .ireturn, 0, 0, 0, 0, [], [])]
def p_X9_forget : List Row := [(0, .aload_n 0, 0, 0, 0, 0, [], []),
  (1, .iconst 0, 0, 0, 0, 0, [], []),
  (2, .putfield 60, 9, 0, 0, 0, [], [825]),
  (5, .aload_n 0, 0, 0, 0, 0, [], []),
  (6, .getfield 114, 9, 21, 0, 0, [], [846]),
  (9, .istore_n 1, 1, 0, 0, 0, [], []),
  (10, .aload_n 0, 0, 0, 0, 0, [], []),
  (11, .iconst 0, 0, 0, 0, 0, [], []),
  (12, .putfield 114, 9, 21, 0, 0, [], [846]),
  (15, .iload_n 1, 1, 0, 0, 0, [], []),
  (16, .ireturn, 0, 0, 0, 0, [], [])]
def p_X9_mayBeAt : List Row := [(0, .iconst 1, 0, 0, 1, 0, [], []),
  (1, .istore_n 3, 3, 0, 0, 0, [], []),
  (2, .iconst 0, 0, 0, 0, 0, [], []),
  (3, .istore 4, 4, 0, 0, 0, [], []),
  (5, .iload 4, 4, 0, 0, 0, [], []),
  (7, .aload_n 0, 0, 0, 0, 0, [], []),
  (8, .getfield 114, 9, 21, 0, 0, [], [846]),
  (11, .if_icmp .ge 65, 42, 0, 0, 0, [], []),
  (14, .aload_n 0, 0, 0, 0, 0, [], []),
  (15, .getfield 41, 9, 19, 0, 0, [], [844]),
  (18, .iload 4, 4, 0, 0, 0, [], []),
  (20, .iaload, 0, 0, 0, 0, [], []),
  (21, .istore 5, 5, 0, 0, 0, [], []),
  (23, .iload_n 3, 3, 0, 0, 0, [], []),
  (24, .ifCond .eq 44, 38, 0, 0, 0, [], []),
  (27, .aload_n 0, 0, 0, 0, 0, [], []),
  (28, .iload 5, 5, 0, 0, 0, [], []),
  (30, .aload_n 0, 0, 0, 0, 0, [], []),
  (31, .getfield 28, 9, 14, 0, 0, [], [839]),
  (34, .bipush 6, 0, 0, 6, 0, [], []),
  (36, .iload 5, 5, 0, 0, 0, [], []),
  (38, .iadd, 0, 0, 0, 0, [], []),
  (39, .iaload, 0, 0, 0, 0, [], []),
  (40, .iload_n 1, 1, 0, 0, 0, [], []),
  (41, .iload_n 2, 2, 0, 0, 0, [], []),
  (42, .invokevirtual 123, 136, 4, 0, 0, [], [968, 970, 34, 62, 971]),
  (45, .aload_n 0, 0, 0, 0, 0, [], []),
  (46, .getfield 44, 9, 20, 0, 0, [], [845]),
  (49, .iload 4, 4, 0, 0, 0, [], []),
  (51, .iaload, 0, 0, 0, 0, [], []),
  (52, .iconst 1, 0, 0, 1, 0, [], []),
  (53, .if_icmp .ne 7, 34, 0, 0, 0, [], []),
  (56, .iconst 1, 0, 0, 1, 0, [], []),
  (57, .goto 4, 35, 0, 0, 0, [], []),
  (60, .iconst 0, 0, 0, 0, 0, [], []),
  (61, .if_icmp .ne 7, 38, 0, 0, 0, [], []),
  (64, .iconst 1, 0, 0, 1, 0, [], []),
  (65, .goto 4, 39, 0, 0, 0, [], []),
  (68, .iconst 0, 0, 0, 0, 0, [], []),
  (69, .istore_n 3, 3, 0, 0, 0, [], []),
  (70, .iinc 4 1, 4, 0, 1, 0, [], []),
  (73, .goto (-68), 4, 0, 0, 0, [], []),
  (76, .iload_n 3, 3, 0, 0, 0, [], []),
  (77, .ireturn, 0, 0, 0, 0, [], [])]
def p_X9_mayBe : List Row := [(0, .aload_n 0, 0, 0, 0, 0, [], []),
  (1, .iconst 0, 0, 0, 0, 0, [], []),
  (2, .putfield 60, 9, 0, 0, 0, [], [825]),
  (5, .iload_n 1, 1, 0, 0, 0, [], []),
  (6, .iconst 1, 0, 0, 1, 0, [], []),
  (7, .bipush 99, 0, 0, 99, 0, [], []),
  (9, .invokestatic 64, 120, 3, 0, 0, [], [905, 906, 62, 907]),
  (12, .ifCond .eq 12, 13, 0, 0, 0, [], []),
  (15, .iload_n 2, 2, 0, 0, 0, [], []),
  (16, .iconst 0, 0, 0, 0, 0, [], []),
  (17, .iconst 1, 0, 0, 1, 0, [], []),
  (18, .invokestatic 64, 120, 3, 0, 0, [], [905, 906, 62, 907]),
  (21, .ifCond .ne 5, 15, 0, 0, 0, [], []),
  (24, .iconst (-1), 0, 0, (-1), 0, [], []),
  (25, .ireturn, 0, 0, 0, 0, [], []),
  (26, .iconst 0, 0, 0, 0, 0, [], []),
  (27, .istore_n 3, 3, 0, 0, 0, [], []),
  (28, .bipush (-9), 0, 0, (-9), 0, [], []),
  (30, .istore 4, 4, 0, 0, 0, [], []),
  (32, .iconst 1, 0, 0, 1, 0, [], []),
  (33, .istore 5, 5, 0, 0, 0, [], []),
  (35, .iload 5, 5, 0, 0, 0, [], []),
  (37, .bipush 49, 0, 0, 49, 0, [], []),
  (39, .if_icmp .ge 35, 38, 0, 0, 0, [], []),
  (42, .aload_n 0, 0, 0, 0, 0, [], []),
  (43, .iload 5, 5, 0, 0, 0, [], []),
  (45, .iload_n 1, 1, 0, 0, 0, [], []),
  (46, .invokevirtual 172, 161, 2, 0, 0, [], [1067, 1069, 46, 62, 1070]),
  (49, .ifCond .eq 19, 36, 0, 0, 0, [], []),
  (52, .iload_n 3, 3, 0, 0, 0, [], []),
  (53, .ifCond .ne 8, 33, 0, 0, 0, [], []),
  (56, .iload 5, 5, 0, 0, 0, [], []),
  (58, .goto 5, 34, 0, 0, 0, [], []),
  (61, .iload 4, 4, 0, 0, 0, [], []),
  (63, .istore 4, 4, 0, 0, 0, [], []),
  (65, .iinc 3 1, 3, 0, 1, 0, [], []),
  (68, .iinc 5 1, 5, 0, 1, 0, [], []),
  (71, .goto (-36), 21, 0, 0, 0, [], []),
  (74, .iload_n 2, 2, 0, 0, 0, [], []),
  (75, .ifCond .ne 7, 42, 0, 0, 0, [], []),
  (78, .iload_n 3, 3, 0, 0, 0, [], []),
  (79, .goto 5, 43, 0, 0, 0, [], []),
  (82, .iload 4, 4, 0, 0, 0, [], []),
  (84, .ireturn, 0, 0, 0, 0, [], [])]
def p_X9_worst : List Row := [(0, .iconst 0, 0, 0, 0, 0, [], []),
  (1, .istore_n 3, 3, 0, 0, 0, [], []),
  (2, .iconst 0, 0, 0, 0, 0, [], []),
  (3, .istore 4, 4, 0, 0, 0, [], []),
  (5, .iconst 1, 0, 0, 1, 0, [], []),
  (6, .istore 5, 5, 0, 0, 0, [], []),
  (8, .iload 5, 5, 0, 0, 0, [], []),
  (10, .bipush 49, 0, 0, 49, 0, [], []),
  (12, .if_icmp .ge 75, 48, 0, 0, 0, [], []),
  (15, .aload_n 0, 0, 0, 0, 0, [], []),
  (16, .iload 5, 5, 0, 0, 0, [], []),
  (18, .iload_n 2, 2, 0, 0, 0, [], []),
  (19, .invokevirtual 172, 161, 2, 0, 0, [], [1067, 1069, 46, 62, 1070]),
  (22, .istore 6, 6, 0, 0, 0, [], []),
  (24, .aload_n 0, 0, 0, 0, 0, [], []),
  (25, .iload_n 1, 1, 0, 0, 0, [], []),
  (26, .aload_n 0, 0, 0, 0, 0, [], []),
  (27, .getfield 28, 9, 14, 0, 0, [], [839]),
  (30, .bipush 6, 0, 0, 6, 0, [], []),
  (32, .iload_n 1, 1, 0, 0, 0, [], []),
  (33, .iadd, 0, 0, 0, 0, [], []),
  (34, .iaload, 0, 0, 0, 0, [], []),
  (35, .iload 5, 5, 0, 0, 0, [], []),
  (37, .iload_n 2, 2, 0, 0, 0, [], []),
  (38, .invokevirtual 123, 136, 4, 0, 0, [], [968, 970, 34, 62, 971]),
  (41, .istore 7, 7, 0, 0, 0, [], []),
  (43, .iload_n 3, 3, 0, 0, 0, [], []),
  (44, .iload 6, 6, 0, 0, 0, [], []),
  (46, .ifCond .eq 12, 33, 0, 0, 0, [], []),
  (49, .iload 7, 7, 0, 0, 0, [], []),
  (51, .ifCond .eq 7, 33, 0, 0, 0, [], []),
  (54, .iconst 1, 0, 0, 1, 0, [], []),
  (55, .goto 4, 34, 0, 0, 0, [], []),
  (58, .iconst 0, 0, 0, 0, 0, [], []),
  (59, .iadd, 0, 0, 0, 0, [], []),
  (60, .istore_n 3, 3, 0, 0, 0, [], []),
  (61, .iload 4, 4, 0, 0, 0, [], []),
  (63, .iload 6, 6, 0, 0, 0, [], []),
  (65, .ifCond .eq 12, 43, 0, 0, 0, [], []),
  (68, .iload 7, 7, 0, 0, 0, [], []),
  (70, .ifCond .ne 7, 43, 0, 0, 0, [], []),
  (73, .iconst 1, 0, 0, 1, 0, [], []),
  (74, .goto 4, 44, 0, 0, 0, [], []),
  (77, .iconst 0, 0, 0, 0, 0, [], []),
  (78, .iadd, 0, 0, 0, 0, [], []),
  (79, .istore 4, 4, 0, 0, 0, [], []),
  (81, .iinc 5 1, 5, 0, 1, 0, [], []),
  (84, .goto (-76), 6, 0, 0, 0, [], []),
  (87, .iload_n 3, 3, 0, 0, 0, [], []),
  (88, .iload 4, 4, 0, 0, 0, [], []),
  (90, .if_icmp .le 7, 53, 0, 0, 0, [], []),
  (93, .iload_n 3, 3, 0, 0, 0, [], []),
  (94, .goto 5, 54, 0, 0, 0, [], []),
  (97, .iload 4, 4, 0, 0, 0, [], []),
  (99, .ireturn, 0, 0, 0, 0, [], [])]
def p_X9_next : List Row := [(0, .aload_n 0, 0, 0, 0, 0, [], []),
  (1, .iconst 0, 0, 0, 0, 0, [], []),
  (2, .putfield 60, 9, 0, 0, 0, [], [825]),
  (5, .iload_n 1, 1, 0, 0, 0, [], []),
  (6, .iconst 1, 0, 0, 1, 0, [], []),
  (7, .bipush 99, 0, 0, 99, 0, [], []),
  (9, .invokestatic 64, 120, 3, 0, 0, [], [905, 906, 62, 907]),
  (12, .ifCond .eq 12, 13, 0, 0, 0, [], []),
  (15, .iload_n 2, 2, 0, 0, 0, [], []),
  (16, .iconst 0, 0, 0, 0, 0, [], []),
  (17, .iconst 1, 0, 0, 1, 0, [], []),
  (18, .invokestatic 64, 120, 3, 0, 0, [], [905, 906, 62, 907]),
  (21, .ifCond .ne 5, 15, 0, 0, 0, [], []),
  (24, .iconst (-1), 0, 0, (-1), 0, [], []),
  (25, .ireturn, 0, 0, 0, 0, [], []),
  (26, .bipush (-9), 0, 0, (-9), 0, [], []),
  (28, .istore_n 3, 3, 0, 0, 0, [], []),
  (29, .iconst 0, 0, 0, 0, 0, [], []),
  (30, .istore 4, 4, 0, 0, 0, [], []),
  (32, .iload 4, 4, 0, 0, 0, [], []),
  (34, .aload_n 0, 0, 0, 0, 0, [], []),
  (35, .getfield 13, 9, 9, 0, 0, [], [834]),
  (38, .iconst 0, 0, 0, 0, 0, [], []),
  (39, .iaload, 0, 0, 0, 0, [], []),
  (40, .if_icmp .ge 38, 43, 0, 0, 0, [], []),
  (43, .iload_n 3, 3, 0, 0, 0, [], []),
  (44, .bipush (-9), 0, 0, (-9), 0, [], []),
  (46, .if_icmp .eq 19, 37, 0, 0, 0, [], []),
  (49, .aload_n 0, 0, 0, 0, 0, [], []),
  (50, .iload 4, 4, 0, 0, 0, [], []),
  (52, .iload_n 1, 1, 0, 0, 0, [], []),
  (53, .invokevirtual 175, 163, 2, 0, 0, [], [1075, 1077, 47, 62, 1078]),
  (56, .aload_n 0, 0, 0, 0, 0, [], []),
  (57, .iload_n 3, 3, 0, 0, 0, [], []),
  (58, .iload_n 1, 1, 0, 0, 0, [], []),
  (59, .invokevirtual 175, 163, 2, 0, 0, [], [1075, 1077, 47, 62, 1078]),
  (62, .if_icmp .ge 8, 39, 0, 0, 0, [], []),
  (65, .iload 4, 4, 0, 0, 0, [], []),
  (67, .goto 4, 40, 0, 0, 0, [], []),
  (70, .iload_n 3, 3, 0, 0, 0, [], []),
  (71, .istore_n 3, 3, 0, 0, 0, [], []),
  (72, .iinc 4 1, 4, 0, 1, 0, [], []),
  (75, .goto (-43), 19, 0, 0, 0, [], []),
  (78, .iload_n 3, 3, 0, 0, 0, [], []),
  (79, .bipush (-9), 0, 0, (-9), 0, [], []),
  (81, .if_icmp .eq 7, 48, 0, 0, 0, [], []),
  (84, .iload_n 2, 2, 0, 0, 0, [], []),
  (85, .ifCond .ne 7, 50, 0, 0, 0, [], []),
  (88, .iload_n 3, 3, 0, 0, 0, [], []),
  (89, .goto 9, 54, 0, 0, 0, [], []),
  (92, .aload_n 0, 0, 0, 0, 0, [], []),
  (93, .iload_n 3, 3, 0, 0, 0, [], []),
  (94, .iload_n 1, 1, 0, 0, 0, [], []),
  (95, .invokevirtual 175, 163, 2, 0, 0, [], [1075, 1077, 47, 62, 1078]),
  (98, .ireturn, 0, 0, 0, 0, [], [])]
def p_X9_fitsAt : List Row := [(0, .iconst 0, 0, 0, 0, 0, [], []),
  (1, .istore_n 2, 2, 0, 0, 0, [], []),
  (2, .iconst 0, 0, 0, 0, 0, [], []),
  (3, .istore_n 3, 3, 0, 0, 0, [], []),
  (4, .iload_n 3, 3, 0, 0, 0, [], []),
  (5, .aload_n 0, 0, 0, 0, 0, [], []),
  (6, .getfield 13, 9, 9, 0, 0, [], [834]),
  (9, .iconst 0, 0, 0, 0, 0, [], []),
  (10, .iaload, 0, 0, 0, 0, [], []),
  (11, .if_icmp .ge 67, 47, 0, 0, 0, [], []),
  (14, .iconst 0, 0, 0, 0, 0, [], []),
  (15, .istore 4, 4, 0, 0, 0, [], []),
  (17, .iload 4, 4, 0, 0, 0, [], []),
  (19, .aload_n 0, 0, 0, 0, 0, [], []),
  (20, .getfield 13, 9, 9, 0, 0, [], [834]),
  (23, .iconst 1, 0, 0, 1, 0, [], []),
  (24, .iaload, 0, 0, 0, 0, [], []),
  (25, .if_icmp .ge 47, 45, 0, 0, 0, [], []),
  (28, .iload_n 2, 2, 0, 0, 0, [], []),
  (29, .aload_n 0, 0, 0, 0, 0, [], []),
  (30, .iload_n 3, 3, 0, 0, 0, [], []),
  (31, .iload_n 1, 1, 0, 0, 0, [], []),
  (32, .aload_n 0, 0, 0, 0, 0, [], []),
  (33, .getfield 28, 9, 14, 0, 0, [], [839]),
  (36, .bipush 12, 0, 0, 12, 0, [], []),
  (38, .iload 4, 4, 0, 0, 0, [], []),
  (40, .iadd, 0, 0, 0, 0, [], []),
  (41, .iaload, 0, 0, 0, 0, [], []),
  (42, .aload_n 0, 0, 0, 0, 0, [], []),
  (43, .getfield 19, 9, 11, 0, 0, [], [836]),
  (46, .iconst 2, 0, 0, 2, 0, [], []),
  (47, .iload 4, 4, 0, 0, 0, [], []),
  (49, .imul, 0, 0, 0, 0, [], []),
  (50, .iconst 1, 0, 0, 1, 0, [], []),
  (51, .iadd, 0, 0, 0, 0, [], []),
  (52, .iaload, 0, 0, 0, 0, [], []),
  (53, .invokevirtual 123, 136, 4, 0, 0, [], [968, 970, 34, 62, 971]),
  (56, .ifCond .eq 7, 40, 0, 0, 0, [], []),
  (59, .iconst 1, 0, 0, 1, 0, [], []),
  (60, .goto 4, 41, 0, 0, 0, [], []),
  (63, .iconst 0, 0, 0, 0, 0, [], []),
  (64, .iadd, 0, 0, 0, 0, [], []),
  (65, .istore_n 2, 2, 0, 0, 0, [], []),
  (66, .iinc 4 1, 4, 0, 1, 0, [], []),
  (69, .goto (-52), 12, 0, 0, 0, [], []),
  (72, .iinc 3 1, 3, 0, 1, 0, [], []),
  (75, .goto (-71), 4, 0, 0, 0, [], []),
  (78, .iload_n 2, 2, 0, 0, 0, [], []),
  (79, .ireturn, 0, 0, 0, 0, [], [])]
def p_X9_bestScale : List Row := [(0, .aload_n 0, 0, 0, 0, 0, [], []),
  (1, .iconst 0, 0, 0, 0, 0, [], []),
  (2, .putfield 60, 9, 0, 0, 0, [], [825]),
  (5, .iload_n 1, 1, 0, 0, 0, [], []),
  (6, .iconst 0, 0, 0, 0, 0, [], []),
  (7, .iconst 1, 0, 0, 1, 0, [], []),
  (8, .invokestatic 64, 120, 3, 0, 0, [], [905, 906, 62, 907]),
  (11, .ifCond .ne 5, 10, 0, 0, 0, [], []),
  (14, .iconst (-1), 0, 0, (-1), 0, [], []),
  (15, .ireturn, 0, 0, 0, 0, [], []),
  (16, .iconst 1, 0, 0, 1, 0, [], []),
  (17, .istore_n 2, 2, 0, 0, 0, [], []),
  (18, .iconst 2, 0, 0, 2, 0, [], []),
  (19, .istore_n 3, 3, 0, 0, 0, [], []),
  (20, .iload_n 3, 3, 0, 0, 0, [], []),
  (21, .bipush 49, 0, 0, 49, 0, [], []),
  (23, .if_icmp .ge 28, 30, 0, 0, 0, [], []),
  (26, .aload_n 0, 0, 0, 0, 0, [], []),
  (27, .iload_n 3, 3, 0, 0, 0, [], []),
  (28, .invokevirtual 178, 165, 1, 0, 0, [], [1083, 1085, 48, 62, 1086]),
  (31, .aload_n 0, 0, 0, 0, 0, [], []),
  (32, .iload_n 2, 2, 0, 0, 0, [], []),
  (33, .invokevirtual 178, 165, 1, 0, 0, [], [1083, 1085, 48, 62, 1086]),
  (36, .if_icmp .le 7, 26, 0, 0, 0, [], []),
  (39, .iload_n 3, 3, 0, 0, 0, [], []),
  (40, .goto 4, 27, 0, 0, 0, [], []),
  (43, .iload_n 2, 2, 0, 0, 0, [], []),
  (44, .istore_n 2, 2, 0, 0, 0, [], []),
  (45, .iinc 3 1, 3, 0, 1, 0, [], []),
  (48, .goto (-28), 14, 0, 0, 0, [], []),
  (51, .iload_n 1, 1, 0, 0, 0, [], []),
  (52, .ifCond .ne 7, 34, 0, 0, 0, [], []),
  (55, .iload_n 2, 2, 0, 0, 0, [], []),
  (56, .goto 8, 37, 0, 0, 0, [], []),
  (59, .aload_n 0, 0, 0, 0, 0, [], []),
  (60, .iload_n 2, 2, 0, 0, 0, [], []),
  (61, .invokevirtual 178, 165, 1, 0, 0, [], [1083, 1085, 48, 62, 1086]),
  (64, .ireturn, 0, 0, 0, 0, [], [])]
def p_X9_fitsHim : List Row := [(0, .iconst 0, 0, 0, 0, 0, [], []),
  (1, .istore_n 3, 3, 0, 0, 0, [], []),
  (2, .iconst 0, 0, 0, 0, 0, [], []),
  (3, .istore 4, 4, 0, 0, 0, [], []),
  (5, .iload 4, 4, 0, 0, 0, [], []),
  (7, .aload_n 0, 0, 0, 0, 0, [], []),
  (8, .getfield 13, 9, 9, 0, 0, [], [834]),
  (11, .iconst 0, 0, 0, 0, 0, [], []),
  (12, .iaload, 0, 0, 0, 0, [], []),
  (13, .if_icmp .ge 38, 30, 0, 0, 0, [], []),
  (16, .iload_n 3, 3, 0, 0, 0, [], []),
  (17, .aload_n 0, 0, 0, 0, 0, [], []),
  (18, .iload 4, 4, 0, 0, 0, [], []),
  (20, .aload_n 0, 0, 0, 0, 0, [], []),
  (21, .getfield 28, 9, 14, 0, 0, [], [839]),
  (24, .bipush 6, 0, 0, 6, 0, [], []),
  (26, .iload 4, 4, 0, 0, 0, [], []),
  (28, .iadd, 0, 0, 0, 0, [], []),
  (29, .iaload, 0, 0, 0, 0, [], []),
  (30, .iload_n 1, 1, 0, 0, 0, [], []),
  (31, .iload_n 2, 2, 0, 0, 0, [], []),
  (32, .invokevirtual 123, 136, 4, 0, 0, [], [968, 970, 34, 62, 971]),
  (35, .ifCond .eq 7, 25, 0, 0, 0, [], []),
  (38, .iconst 1, 0, 0, 1, 0, [], []),
  (39, .goto 4, 26, 0, 0, 0, [], []),
  (42, .iconst 0, 0, 0, 0, 0, [], []),
  (43, .iadd, 0, 0, 0, 0, [], []),
  (44, .istore_n 3, 3, 0, 0, 0, [], []),
  (45, .iinc 4 1, 4, 0, 1, 0, [], []),
  (48, .goto (-43), 4, 0, 0, 0, [], []),
  (51, .iload_n 3, 3, 0, 0, 0, [], []),
  (52, .ireturn, 0, 0, 0, 0, [], [])]
def p_X9_oneMore : List Row := [(0, .aload_n 0, 0, 0, 0, 0, [], []),
  (1, .iconst 0, 0, 0, 0, 0, [], []),
  (2, .putfield 60, 9, 0, 0, 0, [], [825]),
  (5, .iload_n 1, 1, 0, 0, 0, [], []),
  (6, .iconst 1, 0, 0, 1, 0, [], []),
  (7, .bipush 99, 0, 0, 99, 0, [], []),
  (9, .invokestatic 64, 120, 3, 0, 0, [], [905, 906, 62, 907]),
  (12, .ifCond .eq 12, 13, 0, 0, 0, [], []),
  (15, .iload_n 2, 2, 0, 0, 0, [], []),
  (16, .iconst 0, 0, 0, 0, 0, [], []),
  (17, .iconst 1, 0, 0, 1, 0, [], []),
  (18, .invokestatic 64, 120, 3, 0, 0, [], [905, 906, 62, 907]),
  (21, .ifCond .ne 5, 15, 0, 0, 0, [], []),
  (24, .iconst (-1), 0, 0, (-1), 0, [], []),
  (25, .ireturn, 0, 0, 0, 0, [], []),
  (26, .iconst 1, 0, 0, 1, 0, [], []),
  (27, .istore_n 3, 3, 0, 0, 0, [], []),
  (28, .iconst 2, 0, 0, 2, 0, [], []),
  (29, .istore 4, 4, 0, 0, 0, [], []),
  (31, .iload 4, 4, 0, 0, 0, [], []),
  (33, .bipush 49, 0, 0, 49, 0, [], []),
  (35, .if_icmp .ge 32, 37, 0, 0, 0, [], []),
  (38, .aload_n 0, 0, 0, 0, 0, [], []),
  (39, .iload 4, 4, 0, 0, 0, [], []),
  (41, .iload_n 1, 1, 0, 0, 0, [], []),
  (42, .invokevirtual 181, 167, 2, 0, 0, [], [1091, 1093, 49, 62, 1094]),
  (45, .aload_n 0, 0, 0, 0, 0, [], []),
  (46, .iload_n 3, 3, 0, 0, 0, [], []),
  (47, .iload_n 1, 1, 0, 0, 0, [], []),
  (48, .invokevirtual 181, 167, 2, 0, 0, [], [1091, 1093, 49, 62, 1094]),
  (51, .if_icmp .le 8, 33, 0, 0, 0, [], []),
  (54, .iload 4, 4, 0, 0, 0, [], []),
  (56, .goto 4, 34, 0, 0, 0, [], []),
  (59, .iload_n 3, 3, 0, 0, 0, [], []),
  (60, .istore_n 3, 3, 0, 0, 0, [], []),
  (61, .iinc 4 1, 4, 0, 1, 0, [], []),
  (64, .goto (-33), 19, 0, 0, 0, [], []),
  (67, .iload_n 2, 2, 0, 0, 0, [], []),
  (68, .ifCond .ne 7, 41, 0, 0, 0, [], []),
  (71, .iload_n 3, 3, 0, 0, 0, [], []),
  (72, .goto 9, 45, 0, 0, 0, [], []),
  (75, .aload_n 0, 0, 0, 0, 0, [], []),
  (76, .iload_n 3, 3, 0, 0, 0, [], []),
  (77, .iload_n 1, 1, 0, 0, 0, [], []),
  (78, .invokevirtual 181, 167, 2, 0, 0, [], [1091, 1093, 49, 62, 1094]),
  (81, .ireturn, 0, 0, 0, 0, [], [])]
def p_X9_isIn : List Row := [(0, .ldc 184, 0, 0, 1000000, 0, [], [1099]),
  (2, .istore_n 3, 3, 0, 0, 0, [], []),
  (3, .iconst 0, 0, 0, 0, 0, [], []),
  (4, .istore 4, 4, 0, 0, 0, [], []),
  (6, .iload 4, 4, 0, 0, 0, [], []),
  (8, .aload_n 0, 0, 0, 0, 0, [], []),
  (9, .getfield 13, 9, 9, 0, 0, [], [834]),
  (12, .iconst 2, 0, 0, 2, 0, [], []),
  (13, .iaload, 0, 0, 0, 0, [], []),
  (14, .if_icmp .ge 135, 90, 0, 0, 0, [], []),
  (17, .iconst 4, 0, 0, 4, 0, [], []),
  (18, .iload 4, 4, 0, 0, 0, [], []),
  (20, .imul, 0, 0, 0, 0, [], []),
  (21, .istore 5, 5, 0, 0, 0, [], []),
  (23, .aload_n 0, 0, 0, 0, 0, [], []),
  (24, .getfield 22, 9, 12, 0, 0, [], [837]),
  (27, .iload 5, 5, 0, 0, 0, [], []),
  (29, .iaload, 0, 0, 0, 0, [], []),
  (30, .iload_n 2, 2, 0, 0, 0, [], []),
  (31, .if_icmp .le 13, 25, 0, 0, 0, [], []),
  (34, .aload_n 0, 0, 0, 0, 0, [], []),
  (35, .getfield 22, 9, 12, 0, 0, [], [837]),
  (38, .iload 5, 5, 0, 0, 0, [], []),
  (40, .iaload, 0, 0, 0, 0, [], []),
  (41, .goto 4, 26, 0, 0, 0, [], []),
  (44, .iload_n 2, 2, 0, 0, 0, [], []),
  (45, .istore 6, 6, 0, 0, 0, [], []),
  (47, .iload 6, 6, 0, 0, 0, [], []),
  (49, .aload_n 0, 0, 0, 0, 0, [], []),
  (50, .getfield 16, 9, 10, 0, 0, [], [835]),
  (53, .iconst 4, 0, 0, 4, 0, [], []),
  (54, .iload_n 1, 1, 0, 0, 0, [], []),
  (55, .imul, 0, 0, 0, 0, [], []),
  (56, .iconst 3, 0, 0, 3, 0, [], []),
  (57, .iadd, 0, 0, 0, 0, [], []),
  (58, .iaload, 0, 0, 0, 0, [], []),
  (59, .iadd, 0, 0, 0, 0, [], []),
  (60, .istore 7, 7, 0, 0, 0, [], []),
  (62, .aload_n 0, 0, 0, 0, 0, [], []),
  (63, .getfield 22, 9, 12, 0, 0, [], [837]),
  (66, .iload 5, 5, 0, 0, 0, [], []),
  (68, .iconst 3, 0, 0, 3, 0, [], []),
  (69, .iadd, 0, 0, 0, 0, [], []),
  (70, .iaload, 0, 0, 0, 0, [], []),
  (71, .aload_n 0, 0, 0, 0, 0, [], []),
  (72, .getfield 28, 9, 14, 0, 0, [], [839]),
  (75, .bipush 6, 0, 0, 6, 0, [], []),
  (77, .iload_n 1, 1, 0, 0, 0, [], []),
  (78, .iadd, 0, 0, 0, 0, [], []),
  (79, .iaload, 0, 0, 0, 0, [], []),
  (80, .imul, 0, 0, 0, 0, [], []),
  (81, .aload_n 0, 0, 0, 0, 0, [], []),
  (82, .getfield 16, 9, 10, 0, 0, [], [835]),
  (85, .iconst 4, 0, 0, 4, 0, [], []),
  (86, .iload_n 1, 1, 0, 0, 0, [], []),
  (87, .imul, 0, 0, 0, 0, [], []),
  (88, .iconst 2, 0, 0, 2, 0, [], []),
  (89, .iadd, 0, 0, 0, 0, [], []),
  (90, .iaload, 0, 0, 0, 0, [], []),
  (91, .aload_n 0, 0, 0, 0, 0, [], []),
  (92, .getfield 22, 9, 12, 0, 0, [], [837]),
  (95, .iload 5, 5, 0, 0, 0, [], []),
  (97, .iconst 2, 0, 0, 2, 0, [], []),
  (98, .iadd, 0, 0, 0, 0, [], []),
  (99, .iaload, 0, 0, 0, 0, [], []),
  (100, .imul, 0, 0, 0, 0, [], []),
  (101, .if_icmp .lt 21, 77, 0, 0, 0, [], []),
  (104, .iload 7, 7, 0, 0, 0, [], []),
  (106, .aload_n 0, 0, 0, 0, 0, [], []),
  (107, .getfield 22, 9, 12, 0, 0, [], [837]),
  (110, .iload 5, 5, 0, 0, 0, [], []),
  (112, .iconst 1, 0, 0, 1, 0, [], []),
  (113, .iadd, 0, 0, 0, 0, [], []),
  (114, .iaload, 0, 0, 0, 0, [], []),
  (115, .if_icmp .gt 7, 77, 0, 0, 0, [], []),
  (118, .iconst 1, 0, 0, 1, 0, [], []),
  (119, .goto 4, 78, 0, 0, 0, [], []),
  (122, .iconst 0, 0, 0, 0, 0, [], []),
  (123, .istore 8, 8, 0, 0, 0, [], []),
  (125, .iload 8, 8, 0, 0, 0, [], []),
  (127, .ifCond .eq 14, 86, 0, 0, 0, [], []),
  (130, .iload 7, 7, 0, 0, 0, [], []),
  (132, .iload_n 3, 3, 0, 0, 0, [], []),
  (133, .if_icmp .ge 8, 86, 0, 0, 0, [], []),
  (136, .iload 7, 7, 0, 0, 0, [], []),
  (138, .goto 4, 87, 0, 0, 0, [], []),
  (141, .iload_n 3, 3, 0, 0, 0, [], []),
  (142, .istore_n 3, 3, 0, 0, 0, [], []),
  (143, .iinc 4 1, 4, 0, 1, 0, [], []),
  (146, .goto (-140), 4, 0, 0, 0, [], []),
  (149, .iload_n 3, 3, 0, 0, 0, [], []),
  (150, .ireturn, 0, 0, 0, 0, [], [])]
def p_X9_isOrder : List Row := [(0, .iload_n 1, 1, 0, 0, 0, [], []),
  (1, .istore_n 2, 2, 0, 0, 0, [], []),
  (2, .iconst 0, 0, 0, 0, 0, [], []),
  (3, .istore_n 3, 3, 0, 0, 0, [], []),
  (4, .iconst 1, 0, 0, 1, 0, [], []),
  (5, .istore 4, 4, 0, 0, 0, [], []),
  (7, .aload_n 0, 0, 0, 0, 0, [], []),
  (8, .getfield 13, 9, 9, 0, 0, [], [834]),
  (11, .iconst 0, 0, 0, 0, 0, [], []),
  (12, .iaload, 0, 0, 0, 0, [], []),
  (13, .iconst 1, 0, 0, 1, 0, [], []),
  (14, .isub, 0, 0, 0, 0, [], []),
  (15, .istore 5, 5, 0, 0, 0, [], []),
  (17, .iload 5, 5, 0, 0, 0, [], []),
  (19, .ifCond .lt 71, 58, 0, 0, 0, [], []),
  (22, .aload_n 0, 0, 0, 0, 0, [], []),
  (23, .getfield 50, 9, 23, 0, 0, [], [848]),
  (26, .iload 5, 5, 0, 0, 0, [], []),
  (28, .iload_n 2, 2, 0, 0, 0, [], []),
  (29, .aload_n 0, 0, 0, 0, 0, [], []),
  (30, .getfield 13, 9, 9, 0, 0, [], [834]),
  (33, .iconst 0, 0, 0, 0, 0, [], []),
  (34, .iaload, 0, 0, 0, 0, [], []),
  (35, .irem, 0, 0, 0, 0, [], []),
  (36, .iastore, 0, 0, 0, 0, [], []),
  (37, .iload_n 2, 2, 0, 0, 0, [], []),
  (38, .aload_n 0, 0, 0, 0, 0, [], []),
  (39, .getfield 13, 9, 9, 0, 0, [], [834]),
  (42, .iconst 0, 0, 0, 0, 0, [], []),
  (43, .iaload, 0, 0, 0, 0, [], []),
  (44, .idiv, 0, 0, 0, 0, [], []),
  (45, .istore_n 2, 2, 0, 0, 0, [], []),
  (46, .iload 4, 4, 0, 0, 0, [], []),
  (48, .ifCond .eq 21, 45, 0, 0, 0, [], []),
  (51, .iload_n 3, 3, 0, 0, 0, [], []),
  (52, .aload_n 0, 0, 0, 0, 0, [], []),
  (53, .getfield 50, 9, 23, 0, 0, [], [848]),
  (56, .iload 5, 5, 0, 0, 0, [], []),
  (58, .iaload, 0, 0, 0, 0, [], []),
  (59, .ishr, 0, 0, 0, 0, [], []),
  (60, .iconst 1, 0, 0, 1, 0, [], []),
  (61, .iand, 0, 0, 0, 0, [], []),
  (62, .ifCond .ne 7, 45, 0, 0, 0, [], []),
  (65, .iconst 1, 0, 0, 1, 0, [], []),
  (66, .goto 4, 46, 0, 0, 0, [], []),
  (69, .iconst 0, 0, 0, 0, 0, [], []),
  (70, .istore 4, 4, 0, 0, 0, [], []),
  (72, .iload_n 3, 3, 0, 0, 0, [], []),
  (73, .iconst 1, 0, 0, 1, 0, [], []),
  (74, .aload_n 0, 0, 0, 0, 0, [], []),
  (75, .getfield 50, 9, 23, 0, 0, [], [848]),
  (78, .iload 5, 5, 0, 0, 0, [], []),
  (80, .iaload, 0, 0, 0, 0, [], []),
  (81, .ishl, 0, 0, 0, 0, [], []),
  (82, .ior, 0, 0, 0, 0, [], []),
  (83, .istore_n 3, 3, 0, 0, 0, [], []),
  (84, .iinc 5 (-1), 5, 0, (-1), 0, [], []),
  (87, .goto (-70), 13, 0, 0, 0, [], []),
  (90, .iload 4, 4, 0, 0, 0, [], []),
  (92, .ireturn, 0, 0, 0, 0, [], [])]
def p_X9_carried : List Row := [(0, .aload_n 0, 0, 0, 0, 0, [], []),
  (1, .iconst 0, 0, 0, 0, 0, [], []),
  (2, .putfield 60, 9, 0, 0, 0, [], [825]),
  (5, .iload_n 1, 1, 0, 0, 0, [], []),
  (6, .iconst (-1), 0, 0, (-1), 0, [], []),
  (7, .if_icmp .ge 5, 8, 0, 0, 0, [], []),
  (10, .iconst (-1), 0, 0, (-1), 0, [], []),
  (11, .ireturn, 0, 0, 0, 0, [], []),
  (12, .iconst 1, 0, 0, 1, 0, [], []),
  (13, .istore_n 2, 2, 0, 0, 0, [], []),
  (14, .iconst 0, 0, 0, 0, 0, [], []),
  (15, .istore_n 3, 3, 0, 0, 0, [], []),
  (16, .iload_n 3, 3, 0, 0, 0, [], []),
  (17, .aload_n 0, 0, 0, 0, 0, [], []),
  (18, .getfield 13, 9, 9, 0, 0, [], [834]),
  (21, .iconst 0, 0, 0, 0, 0, [], []),
  (22, .iaload, 0, 0, 0, 0, [], []),
  (23, .if_icmp .ge 18, 27, 0, 0, 0, [], []),
  (26, .iload_n 2, 2, 0, 0, 0, [], []),
  (27, .aload_n 0, 0, 0, 0, 0, [], []),
  (28, .getfield 13, 9, 9, 0, 0, [], [834]),
  (31, .iconst 0, 0, 0, 0, 0, [], []),
  (32, .iaload, 0, 0, 0, 0, [], []),
  (33, .imul, 0, 0, 0, 0, [], []),
  (34, .istore_n 2, 2, 0, 0, 0, [], []),
  (35, .iinc 3 1, 3, 0, 1, 0, [], []),
  (38, .goto (-22), 12, 0, 0, 0, [], []),
  (41, .ldc 184, 0, 0, 1000000, 0, [], [1099]),
  (43, .istore_n 3, 3, 0, 0, 0, [], []),
  (44, .iconst 0, 0, 0, 0, 0, [], []),
  (45, .istore 4, 4, 0, 0, 0, [], []),
  (47, .iload 4, 4, 0, 0, 0, [], []),
  (49, .iload_n 2, 2, 0, 0, 0, [], []),
  (50, .if_icmp .ge 116, 91, 0, 0, 0, [], []),
  (53, .aload_n 0, 0, 0, 0, 0, [], []),
  (54, .iload 4, 4, 0, 0, 0, [], []),
  (56, .invokevirtual 185, 170, 1, 0, 0, [], [1100, 1102, 50, 62, 1103]),
  (59, .ifCond .eq 101, 89, 0, 0, 0, [], []),
  (62, .iconst 0, 0, 0, 0, 0, [], []),
  (63, .istore 5, 5, 0, 0, 0, [], []),
  (65, .iconst 0, 0, 0, 0, 0, [], []),
  (66, .istore 6, 6, 0, 0, 0, [], []),
  (68, .iload 6, 6, 0, 0, 0, [], []),
  (70, .aload_n 0, 0, 0, 0, 0, [], []),
  (71, .getfield 13, 9, 9, 0, 0, [], [834]),
  (74, .iconst 0, 0, 0, 0, 0, [], []),
  (75, .iaload, 0, 0, 0, 0, [], []),
  (76, .if_icmp .ge 31, 61, 0, 0, 0, [], []),
  (79, .iload 5, 5, 0, 0, 0, [], []),
  (81, .ldc 184, 0, 0, 1000000, 0, [], [1099]),
  (83, .if_icmp .ge 24, 61, 0, 0, 0, [], []),
  (86, .aload_n 0, 0, 0, 0, 0, [], []),
  (87, .aload_n 0, 0, 0, 0, 0, [], []),
  (88, .getfield 50, 9, 23, 0, 0, [], [848]),
  (91, .iload 6, 6, 0, 0, 0, [], []),
  (93, .iaload, 0, 0, 0, 0, [], []),
  (94, .iload 5, 5, 0, 0, 0, [], []),
  (96, .invokevirtual 188, 169, 2, 0, 0, [], [1104, 1106, 51, 62, 1107]),
  (99, .istore 5, 5, 0, 0, 0, [], []),
  (101, .iinc 6 1, 6, 0, 1, 0, [], []),
  (104, .goto (-36), 42, 0, 0, 0, [], []),
  (107, .iconst 0, 0, 0, 0, 0, [], []),
  (108, .istore 6, 6, 0, 0, 0, [], []),
  (110, .iload 6, 6, 0, 0, 0, [], []),
  (112, .aload_n 0, 0, 0, 0, 0, [], []),
  (113, .getfield 13, 9, 9, 0, 0, [], [834]),
  (116, .iconst 0, 0, 0, 0, 0, [], []),
  (117, .iaload, 0, 0, 0, 0, [], []),
  (118, .if_icmp .ge 29, 82, 0, 0, 0, [], []),
  (121, .iload 5, 5, 0, 0, 0, [], []),
  (123, .iload_n 3, 3, 0, 0, 0, [], []),
  (124, .if_icmp .ge 23, 82, 0, 0, 0, [], []),
  (127, .aload_n 0, 0, 0, 0, 0, [], []),
  (128, .getfield 53, 9, 24, 0, 0, [], [849]),
  (131, .iload 6, 6, 0, 0, 0, [], []),
  (133, .aload_n 0, 0, 0, 0, 0, [], []),
  (134, .getfield 50, 9, 23, 0, 0, [], [848]),
  (137, .iload 6, 6, 0, 0, 0, [], []),
  (139, .iaload, 0, 0, 0, 0, [], []),
  (140, .iastore, 0, 0, 0, 0, [], []),
  (141, .iinc 6 1, 6, 0, 1, 0, [], []),
  (144, .goto (-34), 63, 0, 0, 0, [], []),
  (147, .iload 5, 5, 0, 0, 0, [], []),
  (149, .iload_n 3, 3, 0, 0, 0, [], []),
  (150, .if_icmp .ge 8, 87, 0, 0, 0, [], []),
  (153, .iload 5, 5, 0, 0, 0, [], []),
  (155, .goto 4, 88, 0, 0, 0, [], []),
  (158, .iload_n 3, 3, 0, 0, 0, [], []),
  (159, .istore_n 3, 3, 0, 0, 0, [], []),
  (160, .iinc 4 1, 4, 0, 1, 0, [], []),
  (163, .goto (-116), 31, 0, 0, 0, [], []),
  (166, .iload_n 3, 3, 0, 0, 0, [], []),
  (167, .ldc 184, 0, 0, 1000000, 0, [], [1099]),
  (169, .if_icmp .ne 8, 96, 0, 0, 0, [], []),
  (172, .bipush (-9), 0, 0, (-9), 0, [], []),
  (174, .goto 33, 113, 0, 0, 0, [], []),
  (177, .iload_n 1, 1, 0, 0, 0, [], []),
  (178, .iconst (-1), 0, 0, (-1), 0, [], []),
  (179, .if_icmp .ne 7, 101, 0, 0, 0, [], []),
  (182, .iload_n 3, 3, 0, 0, 0, [], []),
  (183, .goto 24, 113, 0, 0, 0, [], []),
  (186, .iload_n 1, 1, 0, 0, 0, [], []),
  (187, .aload_n 0, 0, 0, 0, 0, [], []),
  (188, .getfield 13, 9, 9, 0, 0, [], [834]),
  (191, .iconst 0, 0, 0, 0, 0, [], []),
  (192, .iaload, 0, 0, 0, 0, [], []),
  (193, .if_icmp .ge 12, 112, 0, 0, 0, [], []),
  (196, .aload_n 0, 0, 0, 0, 0, [], []),
  (197, .getfield 53, 9, 24, 0, 0, [], [849]),
  (200, .iload_n 1, 1, 0, 0, 0, [], []),
  (201, .iaload, 0, 0, 0, 0, [], []),
  (202, .goto 5, 113, 0, 0, 0, [], []),
  (205, .bipush (-5), 0, 0, (-5), 0, [], []),
  (207, .ireturn, 0, 0, 0, 0, [], [])]
def p_X9_gcd : List Row := [(0, .lload_n 0, 0, 0, 0, 0, [], []),
  (1, .lstore 4, 4, 0, 0, 0, [], []),
  (3, .lload_n 2, 2, 0, 0, 0, [], []),
  (4, .lstore 6, 6, 0, 0, 0, [], []),
  (6, .lload 6, 6, 0, 0, 0, [], []),
  (8, .lconst 0, 0, 0, 0, 0, [], []),
  (9, .lcmp, 0, 0, 0, 0, [], []),
  (10, .ifCond .eq 21, 17, 0, 0, 0, [], []),
  (13, .lload 4, 4, 0, 0, 0, [], []),
  (15, .lload 6, 6, 0, 0, 0, [], []),
  (17, .lrem, 0, 0, 0, 0, [], []),
  (18, .lstore 8, 8, 0, 0, 0, [], []),
  (20, .lload 6, 6, 0, 0, 0, [], []),
  (22, .lstore 4, 4, 0, 0, 0, [], []),
  (24, .lload 8, 8, 0, 0, 0, [], []),
  (26, .lstore 6, 6, 0, 0, 0, [], []),
  (28, .goto (-22), 4, 0, 0, 0, [], []),
  (31, .lload 4, 4, 0, 0, 0, [], []),
  (33, .lreturn, 0, 0, 0, 0, [], [])]
def p_X9_mean : List Row := [(0, .aload_n 0, 0, 0, 0, 0, [], []),
  (1, .iconst 0, 0, 0, 0, 0, [], []),
  (2, .putfield 60, 9, 0, 0, 0, [], [825]),
  (5, .iload_n 1, 1, 0, 0, 0, [], []),
  (6, .iconst 0, 0, 0, 0, 0, [], []),
  (7, .iconst 1, 0, 0, 1, 0, [], []),
  (8, .invokestatic 64, 120, 3, 0, 0, [], [905, 906, 62, 907]),
  (11, .ifCond .ne 7, 10, 0, 0, 0, [], []),
  (14, .ldc2_w 191, 0, 0, 0, (-1), [], [1112]),
  (17, .lreturn, 0, 0, 0, 0, [], []),
  (18, .lconst 0, 0, 0, 0, 0, [], []),
  (19, .lstore_n 2, 2, 0, 0, 0, [], []),
  (20, .lconst 1, 0, 0, 0, 1, [], []),
  (21, .lstore 4, 4, 0, 0, 0, [], []),
  (23, .iconst 0, 0, 0, 0, 0, [], []),
  (24, .istore 6, 6, 0, 0, 0, [], []),
  (26, .iload 6, 6, 0, 0, 0, [], []),
  (28, .aload_n 0, 0, 0, 0, 0, [], []),
  (29, .getfield 13, 9, 9, 0, 0, [], [834]),
  (32, .iconst 1, 0, 0, 1, 0, [], []),
  (33, .iaload, 0, 0, 0, 0, [], []),
  (34, .if_icmp .ge 75, 68, 0, 0, 0, [], []),
  (37, .lload_n 2, 2, 0, 0, 0, [], []),
  (38, .aload_n 0, 0, 0, 0, 0, [], []),
  (39, .getfield 28, 9, 14, 0, 0, [], [839]),
  (42, .bipush 12, 0, 0, 12, 0, [], []),
  (44, .iload 6, 6, 0, 0, 0, [], []),
  (46, .iadd, 0, 0, 0, 0, [], []),
  (47, .iaload, 0, 0, 0, 0, [], []),
  (48, .i2l, 0, 0, 0, 0, [], []),
  (49, .lmul, 0, 0, 0, 0, [], []),
  (50, .aload_n 0, 0, 0, 0, 0, [], []),
  (51, .getfield 19, 9, 11, 0, 0, [], [836]),
  (54, .iconst 2, 0, 0, 2, 0, [], []),
  (55, .iload 6, 6, 0, 0, 0, [], []),
  (57, .imul, 0, 0, 0, 0, [], []),
  (58, .iconst 1, 0, 0, 1, 0, [], []),
  (59, .iadd, 0, 0, 0, 0, [], []),
  (60, .iaload, 0, 0, 0, 0, [], []),
  (61, .i2l, 0, 0, 0, 0, [], []),
  (62, .lload 4, 4, 0, 0, 0, [], []),
  (64, .lmul, 0, 0, 0, 0, [], []),
  (65, .ladd, 0, 0, 0, 0, [], []),
  (66, .lstore_n 2, 2, 0, 0, 0, [], []),
  (67, .lload 4, 4, 0, 0, 0, [], []),
  (69, .aload_n 0, 0, 0, 0, 0, [], []),
  (70, .getfield 28, 9, 14, 0, 0, [], [839]),
  (73, .bipush 12, 0, 0, 12, 0, [], []),
  (75, .iload 6, 6, 0, 0, 0, [], []),
  (77, .iadd, 0, 0, 0, 0, [], []),
  (78, .iaload, 0, 0, 0, 0, [], []),
  (79, .i2l, 0, 0, 0, 0, [], []),
  (80, .lmul, 0, 0, 0, 0, [], []),
  (81, .lstore 4, 4, 0, 0, 0, [], []),
  (83, .lload_n 2, 2, 0, 0, 0, [], []),
  (84, .lload 4, 4, 0, 0, 0, [], []),
  (86, .invokestatic 193, 172, 2, 0, 0, [], [1113, 1114, 62, 1115]),
  (89, .lstore 7, 7, 0, 0, 0, [], []),
  (91, .lload_n 2, 2, 0, 0, 0, [], []),
  (92, .lload 7, 7, 0, 0, 0, [], []),
  (94, .ldiv, 0, 0, 0, 0, [], []),
  (95, .lstore_n 2, 2, 0, 0, 0, [], []),
  (96, .lload 4, 4, 0, 0, 0, [], []),
  (98, .lload 7, 7, 0, 0, 0, [], []),
  (100, .ldiv, 0, 0, 0, 0, [], []),
  (101, .lstore 4, 4, 0, 0, 0, [], []),
  (103, .iinc 6 1, 6, 0, 1, 0, [], []),
  (106, .goto (-80), 16, 0, 0, 0, [], []),
  (109, .lload 4, 4, 0, 0, 0, [], []),
  (111, .aload_n 0, 0, 0, 0, 0, [], []),
  (112, .getfield 13, 9, 9, 0, 0, [], [834]),
  (115, .iconst 1, 0, 0, 1, 0, [], []),
  (116, .iaload, 0, 0, 0, 0, [], []),
  (117, .ifCond .ne 7, 76, 0, 0, 0, [], []),
  (120, .lconst 1, 0, 0, 0, 1, [], []),
  (121, .goto 10, 81, 0, 0, 0, [], []),
  (124, .aload_n 0, 0, 0, 0, 0, [], []),
  (125, .getfield 13, 9, 9, 0, 0, [], [834]),
  (128, .iconst 1, 0, 0, 1, 0, [], []),
  (129, .iaload, 0, 0, 0, 0, [], []),
  (130, .i2l, 0, 0, 0, 0, [], []),
  (131, .lmul, 0, 0, 0, 0, [], []),
  (132, .lstore 4, 4, 0, 0, 0, [], []),
  (134, .lload_n 2, 2, 0, 0, 0, [], []),
  (135, .lload 4, 4, 0, 0, 0, [], []),
  (137, .invokestatic 193, 172, 2, 0, 0, [], [1113, 1114, 62, 1115]),
  (140, .lstore 6, 6, 0, 0, 0, [], []),
  (142, .iload_n 1, 1, 0, 0, 0, [], []),
  (143, .ifCond .ne 10, 93, 0, 0, 0, [], []),
  (146, .lload_n 2, 2, 0, 0, 0, [], []),
  (147, .lload 6, 6, 0, 0, 0, [], []),
  (149, .ldiv, 0, 0, 0, 0, [], []),
  (150, .goto 8, 96, 0, 0, 0, [], []),
  (153, .lload 4, 4, 0, 0, 0, [], []),
  (155, .lload 6, 6, 0, 0, 0, [], []),
  (157, .ldiv, 0, 0, 0, 0, [], []),
  (158, .lreturn, 0, 0, 0, 0, [], [])]
def p_X9_turnsOfAll : List Row := [(0, .aload_n 0, 0, 0, 0, 0, [], []),
  (1, .iconst 0, 0, 0, 0, 0, [], []),
  (2, .putfield 60, 9, 0, 0, 0, [], [825]),
  (5, .iconst 0, 0, 0, 0, 0, [], []),
  (6, .istore_n 1, 1, 0, 0, 0, [], []),
  (7, .iconst 0, 0, 0, 0, 0, [], []),
  (8, .istore_n 2, 2, 0, 0, 0, [], []),
  (9, .iload_n 2, 2, 0, 0, 0, [], []),
  (10, .aload_n 0, 0, 0, 0, 0, [], []),
  (11, .getfield 13, 9, 9, 0, 0, [], [834]),
  (14, .iconst 0, 0, 0, 0, 0, [], []),
  (15, .iaload, 0, 0, 0, 0, [], []),
  (16, .if_icmp .ge 25, 25, 0, 0, 0, [], []),
  (19, .iload_n 1, 1, 0, 0, 0, [], []),
  (20, .aload_n 0, 0, 0, 0, 0, [], []),
  (21, .iload_n 2, 2, 0, 0, 0, [], []),
  (22, .invokevirtual 120, 135, 1, 0, 0, [], [972, 974, 35, 62, 975]),
  (25, .ifCond .ne 7, 20, 0, 0, 0, [], []),
  (28, .iconst 1, 0, 0, 1, 0, [], []),
  (29, .goto 4, 21, 0, 0, 0, [], []),
  (32, .iconst 0, 0, 0, 0, 0, [], []),
  (33, .iadd, 0, 0, 0, 0, [], []),
  (34, .istore_n 1, 1, 0, 0, 0, [], []),
  (35, .iinc 2 1, 2, 0, 1, 0, [], []),
  (38, .goto (-29), 7, 0, 0, 0, [], []),
  (41, .iload_n 1, 1, 0, 0, 0, [], []),
  (42, .ifCond .eq 12, 32, 0, 0, 0, [], []),
  (45, .aload_n 0, 0, 0, 0, 0, [], []),
  (46, .getfield 13, 9, 9, 0, 0, [], [834]),
  (49, .iconst 1, 0, 0, 1, 0, [], []),
  (50, .iaload, 0, 0, 0, 0, [], []),
  (51, .ifCond .ne 6, 34, 0, 0, 0, [], []),
  (54, .bipush (-9), 0, 0, (-9), 0, [], []),
  (56, .ireturn, 0, 0, 0, 0, [], []),
  (57, .iload_n 1, 1, 0, 0, 0, [], []),
  (58, .aload_n 0, 0, 0, 0, 0, [], []),
  (59, .getfield 13, 9, 9, 0, 0, [], [834]),
  (62, .iconst 1, 0, 0, 1, 0, [], []),
  (63, .iaload, 0, 0, 0, 0, [], []),
  (64, .if_icmp .le 12, 45, 0, 0, 0, [], []),
  (67, .aload_n 0, 0, 0, 0, 0, [], []),
  (68, .getfield 13, 9, 9, 0, 0, [], [834]),
  (71, .iconst 1, 0, 0, 1, 0, [], []),
  (72, .iaload, 0, 0, 0, 0, [], []),
  (73, .goto 4, 46, 0, 0, 0, [], []),
  (76, .iload_n 1, 1, 0, 0, 0, [], []),
  (77, .istore_n 2, 2, 0, 0, 0, [], []),
  (78, .aload_n 0, 0, 0, 0, 0, [], []),
  (79, .getfield 13, 9, 9, 0, 0, [], [834]),
  (82, .iconst 1, 0, 0, 1, 0, [], []),
  (83, .iaload, 0, 0, 0, 0, [], []),
  (84, .aload_n 0, 0, 0, 0, 0, [], []),
  (85, .getfield 13, 9, 9, 0, 0, [], [834]),
  (88, .iconst 1, 0, 0, 1, 0, [], []),
  (89, .iaload, 0, 0, 0, 0, [], []),
  (90, .i2l, 0, 0, 0, 0, [], []),
  (91, .iload_n 2, 2, 0, 0, 0, [], []),
  (92, .i2l, 0, 0, 0, 0, [], []),
  (93, .invokestatic 193, 172, 2, 0, 0, [], [1113, 1114, 62, 1115]),
  (96, .l2i, 0, 0, 0, 0, [], []),
  (97, .idiv, 0, 0, 0, 0, [], []),
  (98, .ireturn, 0, 0, 0, 0, [], [])]
def p_X9_share : List Row := [(0, .aload_n 0, 0, 0, 0, 0, [], []),
  (1, .iconst 0, 0, 0, 0, 0, [], []),
  (2, .putfield 60, 9, 0, 0, 0, [], [825]),
  (5, .aload_n 0, 0, 0, 0, 0, [], []),
  (6, .iload_n 1, 1, 0, 0, 0, [], []),
  (7, .invokevirtual 138, 134, 1, 0, 0, [], [980, 982, 36, 62, 983]),
  (10, .ifCond .eq 14, 12, 0, 0, 0, [], []),
  (13, .iload_n 2, 2, 0, 0, 0, [], []),
  (14, .iconst 1, 0, 0, 1, 0, [], []),
  (15, .sipush 999, 0, 0, 999, 0, [], []),
  (18, .invokestatic 64, 120, 3, 0, 0, [], [905, 906, 62, 907]),
  (21, .ifCond .ne 5, 14, 0, 0, 0, [], []),
  (24, .iconst (-1), 0, 0, (-1), 0, [], []),
  (25, .ireturn, 0, 0, 0, 0, [], []),
  (26, .lconst 0, 0, 0, 0, 0, [], []),
  (27, .lstore_n 3, 3, 0, 0, 0, [], []),
  (28, .lconst 0, 0, 0, 0, 0, [], []),
  (29, .lstore 5, 5, 0, 0, 0, [], []),
  (31, .iconst 0, 0, 0, 0, 0, [], []),
  (32, .istore 7, 7, 0, 0, 0, [], []),
  (34, .iload 7, 7, 0, 0, 0, [], []),
  (36, .aload_n 0, 0, 0, 0, 0, [], []),
  (37, .getfield 13, 9, 9, 0, 0, [], [834]),
  (40, .iconst 1, 0, 0, 1, 0, [], []),
  (41, .iaload, 0, 0, 0, 0, [], []),
  (42, .if_icmp .ge 90, 74, 0, 0, 0, [], []),
  (45, .aload_n 0, 0, 0, 0, 0, [], []),
  (46, .getfield 19, 9, 11, 0, 0, [], [836]),
  (49, .iconst 2, 0, 0, 2, 0, [], []),
  (50, .iload 7, 7, 0, 0, 0, [], []),
  (52, .imul, 0, 0, 0, 0, [], []),
  (53, .iconst 1, 0, 0, 1, 0, [], []),
  (54, .iadd, 0, 0, 0, 0, [], []),
  (55, .iaload, 0, 0, 0, 0, [], []),
  (56, .i2l, 0, 0, 0, 0, [], []),
  (57, .lstore 8, 8, 0, 0, 0, [], []),
  (59, .iconst 0, 0, 0, 0, 0, [], []),
  (60, .istore 10, 10, 0, 0, 0, [], []),
  (62, .iload 10, 10, 0, 0, 0, [], []),
  (64, .aload_n 0, 0, 0, 0, 0, [], []),
  (65, .getfield 13, 9, 9, 0, 0, [], [834]),
  (68, .iconst 1, 0, 0, 1, 0, [], []),
  (69, .iaload, 0, 0, 0, 0, [], []),
  (70, .if_icmp .ge 36, 61, 0, 0, 0, [], []),
  (73, .lload 8, 8, 0, 0, 0, [], []),
  (75, .iload 10, 10, 0, 0, 0, [], []),
  (77, .iload 7, 7, 0, 0, 0, [], []),
  (79, .if_icmp .ne 7, 50, 0, 0, 0, [], []),
  (82, .lconst 1, 0, 0, 0, 1, [], []),
  (83, .goto 14, 57, 0, 0, 0, [], []),
  (86, .aload_n 0, 0, 0, 0, 0, [], []),
  (87, .getfield 28, 9, 14, 0, 0, [], [839]),
  (90, .bipush 12, 0, 0, 12, 0, [], []),
  (92, .iload 10, 10, 0, 0, 0, [], []),
  (94, .iadd, 0, 0, 0, 0, [], []),
  (95, .iaload, 0, 0, 0, 0, [], []),
  (96, .i2l, 0, 0, 0, 0, [], []),
  (97, .lmul, 0, 0, 0, 0, [], []),
  (98, .lstore 8, 8, 0, 0, 0, [], []),
  (100, .iinc 10 1, 10, 0, 1, 0, [], []),
  (103, .goto (-41), 38, 0, 0, 0, [], []),
  (106, .iload 7, 7, 0, 0, 0, [], []),
  (108, .iload_n 1, 1, 0, 0, 0, [], []),
  (109, .if_icmp .ne 8, 66, 0, 0, 0, [], []),
  (112, .lload 8, 8, 0, 0, 0, [], []),
  (114, .goto 4, 67, 0, 0, 0, [], []),
  (117, .lload_n 3, 3, 0, 0, 0, [], []),
  (118, .lstore_n 3, 3, 0, 0, 0, [], []),
  (119, .lload 5, 5, 0, 0, 0, [], []),
  (121, .lload 8, 8, 0, 0, 0, [], []),
  (123, .ladd, 0, 0, 0, 0, [], []),
  (124, .lstore 5, 5, 0, 0, 0, [], []),
  (126, .iinc 7 1, 7, 0, 1, 0, [], []),
  (129, .goto (-95), 20, 0, 0, 0, [], []),
  (132, .iload_n 2, 2, 0, 0, 0, [], []),
  (133, .i2l, 0, 0, 0, 0, [], []),
  (134, .lload_n 3, 3, 0, 0, 0, [], []),
  (135, .lmul, 0, 0, 0, 0, [], []),
  (136, .lload 5, 5, 0, 0, 0, [], []),
  (138, .ldiv, 0, 0, 0, 0, [], []),
  (139, .l2i, 0, 0, 0, 0, [], []),
  (140, .ireturn, 0, 0, 0, 0, [], [])]
def p_X9_power : List Row := [(0, .iconst 1, 0, 0, 1, 0, [], []),
  (1, .istore_n 2, 2, 0, 0, 0, [], []),
  (2, .iconst 0, 0, 0, 0, 0, [], []),
  (3, .istore_n 3, 3, 0, 0, 0, [], []),
  (4, .iload_n 3, 3, 0, 0, 0, [], []),
  (5, .iload_n 1, 1, 0, 0, 0, [], []),
  (6, .if_icmp .ge 13, 13, 0, 0, 0, [], []),
  (9, .iload_n 2, 2, 0, 0, 0, [], []),
  (10, .iload_n 0, 0, 0, 0, 0, [], []),
  (11, .imul, 0, 0, 0, 0, [], []),
  (12, .istore_n 2, 2, 0, 0, 0, [], []),
  (13, .iinc 3 1, 3, 0, 1, 0, [], []),
  (16, .goto (-12), 4, 0, 0, 0, [], []),
  (19, .iload_n 2, 2, 0, 0, 0, [], []),
  (20, .ireturn, 0, 0, 0, 0, [], [])]
def p_X9_choose : List Row := [(0, .iconst 1, 0, 0, 1, 0, [], []),
  (1, .istore_n 2, 2, 0, 0, 0, [], []),
  (2, .iconst 0, 0, 0, 0, 0, [], []),
  (3, .istore_n 3, 3, 0, 0, 0, [], []),
  (4, .iload_n 3, 3, 0, 0, 0, [], []),
  (5, .iload_n 1, 1, 0, 0, 0, [], []),
  (6, .if_icmp .ge 19, 19, 0, 0, 0, [], []),
  (9, .iload_n 2, 2, 0, 0, 0, [], []),
  (10, .iload_n 0, 0, 0, 0, 0, [], []),
  (11, .iload_n 3, 3, 0, 0, 0, [], []),
  (12, .isub, 0, 0, 0, 0, [], []),
  (13, .imul, 0, 0, 0, 0, [], []),
  (14, .iload_n 3, 3, 0, 0, 0, [], []),
  (15, .iconst 1, 0, 0, 1, 0, [], []),
  (16, .iadd, 0, 0, 0, 0, [], []),
  (17, .idiv, 0, 0, 0, 0, [], []),
  (18, .istore_n 2, 2, 0, 0, 0, [], []),
  (19, .iinc 3 1, 3, 0, 1, 0, [], []),
  (22, .goto (-18), 4, 0, 0, 0, [], []),
  (25, .iload_n 2, 2, 0, 0, 0, [], []),
  (26, .ireturn, 0, 0, 0, 0, [], [])]
def p_X9_odds : List Row := [(0, .aload_n 0, 0, 0, 0, 0, [], []),
  (1, .iconst 0, 0, 0, 0, 0, [], []),
  (2, .putfield 60, 9, 0, 0, 0, [], [825]),
  (5, .iload_n 1, 1, 0, 0, 0, [], []),
  (6, .iconst 0, 0, 0, 0, 0, [], []),
  (7, .bipush 10, 0, 0, 10, 0, [], []),
  (9, .invokestatic 64, 120, 3, 0, 0, [], [905, 906, 62, 907]),
  (12, .ifCond .eq 22, 18, 0, 0, 0, [], []),
  (15, .iload_n 2, 2, 0, 0, 0, [], []),
  (16, .iconst 0, 0, 0, 0, 0, [], []),
  (17, .bipush 6, 0, 0, 6, 0, [], []),
  (19, .invokestatic 64, 120, 3, 0, 0, [], [905, 906, 62, 907]),
  (22, .ifCond .eq 12, 18, 0, 0, 0, [], []),
  (25, .iload_n 3, 3, 0, 0, 0, [], []),
  (26, .iconst 0, 0, 0, 0, 0, [], []),
  (27, .iconst 1, 0, 0, 1, 0, [], []),
  (28, .invokestatic 64, 120, 3, 0, 0, [], [905, 906, 62, 907]),
  (31, .ifCond .ne 5, 20, 0, 0, 0, [], []),
  (34, .iconst (-1), 0, 0, (-1), 0, [], []),
  (35, .ireturn, 0, 0, 0, 0, [], []),
  (36, .aload_n 0, 0, 0, 0, 0, [], []),
  (37, .invokevirtual 147, 145, 0, 0, 0, [], [1000, 1002, 39, 62, 1003]),
  (40, .invokestatic 163, 121, 1, 0, 0, [], [1024, 1025, 62, 1026]),
  (43, .istore 4, 4, 0, 0, 0, [], []),
  (45, .iconst 0, 0, 0, 0, 0, [], []),
  (46, .istore 5, 5, 0, 0, 0, [], []),
  (48, .iconst 0, 0, 0, 0, 0, [], []),
  (49, .istore 6, 6, 0, 0, 0, [], []),
  (51, .iload 6, 6, 0, 0, 0, [], []),
  (53, .iload 4, 4, 0, 0, 0, [], []),
  (55, .if_icmp .gt 47, 54, 0, 0, 0, [], []),
  (58, .iload 6, 6, 0, 0, 0, [], []),
  (60, .iload_n 2, 2, 0, 0, 0, [], []),
  (61, .if_icmp .gt 41, 54, 0, 0, 0, [], []),
  (64, .iload 5, 5, 0, 0, 0, [], []),
  (66, .iload 4, 4, 0, 0, 0, [], []),
  (68, .iload 6, 6, 0, 0, 0, [], []),
  (70, .invokestatic 197, 177, 2, 0, 0, [], [1128, 1129, 62, 1130]),
  (73, .iload_n 1, 1, 0, 0, 0, [], []),
  (74, .iload 6, 6, 0, 0, 0, [], []),
  (76, .invokestatic 200, 176, 2, 0, 0, [], [1131, 1132, 62, 1133]),
  (79, .imul, 0, 0, 0, 0, [], []),
  (80, .bipush 10, 0, 0, 10, 0, [], []),
  (82, .iload_n 1, 1, 0, 0, 0, [], []),
  (83, .isub, 0, 0, 0, 0, [], []),
  (84, .iload 4, 4, 0, 0, 0, [], []),
  (86, .iload 6, 6, 0, 0, 0, [], []),
  (88, .isub, 0, 0, 0, 0, [], []),
  (89, .invokestatic 200, 176, 2, 0, 0, [], [1131, 1132, 62, 1133]),
  (92, .imul, 0, 0, 0, 0, [], []),
  (93, .iadd, 0, 0, 0, 0, [], []),
  (94, .istore 5, 5, 0, 0, 0, [], []),
  (96, .iinc 6 1, 6, 0, 1, 0, [], []),
  (99, .goto (-48), 28, 0, 0, 0, [], []),
  (102, .bipush 10, 0, 0, 10, 0, [], []),
  (104, .iload 4, 4, 0, 0, 0, [], []),
  (106, .invokestatic 200, 176, 2, 0, 0, [], [1131, 1132, 62, 1133]),
  (109, .istore 6, 6, 0, 0, 0, [], []),
  (111, .iload 5, 5, 0, 0, 0, [], []),
  (113, .i2l, 0, 0, 0, 0, [], []),
  (114, .iload 6, 6, 0, 0, 0, [], []),
  (116, .i2l, 0, 0, 0, 0, [], []),
  (117, .invokestatic 193, 172, 2, 0, 0, [], [1113, 1114, 62, 1115]),
  (120, .l2i, 0, 0, 0, 0, [], []),
  (121, .istore 7, 7, 0, 0, 0, [], []),
  (123, .iload_n 3, 3, 0, 0, 0, [], []),
  (124, .ifCond .ne 11, 71, 0, 0, 0, [], []),
  (127, .iload 5, 5, 0, 0, 0, [], []),
  (129, .iload 7, 7, 0, 0, 0, [], []),
  (131, .idiv, 0, 0, 0, 0, [], []),
  (132, .goto 8, 74, 0, 0, 0, [], []),
  (135, .iload 6, 6, 0, 0, 0, [], []),
  (137, .iload 7, 7, 0, 0, 0, [], []),
  (139, .idiv, 0, 0, 0, 0, [], []),
  (140, .ireturn, 0, 0, 0, 0, [], [])]
def p_X9_rate : List Row := [(0, .aload_n 0, 0, 0, 0, 0, [], []),
  (1, .iconst 0, 0, 0, 0, 0, [], []),
  (2, .putfield 60, 9, 0, 0, 0, [], [825]),
  (5, .iload_n 1, 1, 0, 0, 0, [], []),
  (6, .iconst 0, 0, 0, 0, 0, [], []),
  (7, .iconst 5, 0, 0, 5, 0, [], []),
  (8, .invokestatic 64, 120, 3, 0, 0, [], [905, 906, 62, 907]),
  (11, .ifCond .eq 11, 12, 0, 0, 0, [], []),
  (14, .aload_n 0, 0, 0, 0, 0, [], []),
  (15, .iload_n 2, 2, 0, 0, 0, [], []),
  (16, .invokevirtual 131, 133, 1, 0, 0, [], [956, 958, 31, 62, 959]),
  (19, .ifCond .ne 6, 14, 0, 0, 0, [], []),
  (22, .ldc 203, 0, 0, (-1000000), 0, [], [1138]),
  (24, .ireturn, 0, 0, 0, 0, [], []),
  (25, .aload_n 0, 0, 0, 0, 0, [], []),
  (26, .getfield 16, 9, 10, 0, 0, [], [835]),
  (29, .iconst 4, 0, 0, 4, 0, [], []),
  (30, .iload_n 2, 2, 0, 0, 0, [], []),
  (31, .imul, 0, 0, 0, 0, [], []),
  (32, .iconst 2, 0, 0, 2, 0, [], []),
  (33, .iadd, 0, 0, 0, 0, [], []),
  (34, .iaload, 0, 0, 0, 0, [], []),
  (35, .istore_n 3, 3, 0, 0, 0, [], []),
  (36, .iload_n 3, 3, 0, 0, 0, [], []),
  (37, .aload_n 0, 0, 0, 0, 0, [], []),
  (38, .getfield 28, 9, 14, 0, 0, [], [839]),
  (41, .bipush 6, 0, 0, 6, 0, [], []),
  (43, .iload_n 2, 2, 0, 0, 0, [], []),
  (44, .iadd, 0, 0, 0, 0, [], []),
  (45, .iaload, 0, 0, 0, 0, [], []),
  (46, .iadd, 0, 0, 0, 0, [], []),
  (47, .istore 4, 4, 0, 0, 0, [], []),
  (49, .iload_n 3, 3, 0, 0, 0, [], []),
  (50, .aload_n 0, 0, 0, 0, 0, [], []),
  (51, .getfield 16, 9, 10, 0, 0, [], [835]),
  (54, .iconst 4, 0, 0, 4, 0, [], []),
  (55, .iload_n 2, 2, 0, 0, 0, [], []),
  (56, .imul, 0, 0, 0, 0, [], []),
  (57, .iconst 3, 0, 0, 3, 0, [], []),
  (58, .iadd, 0, 0, 0, 0, [], []),
  (59, .iaload, 0, 0, 0, 0, [], []),
  (60, .isub, 0, 0, 0, 0, [], []),
  (61, .istore 5, 5, 0, 0, 0, [], []),
  (63, .aload_n 0, 0, 0, 0, 0, [], []),
  (64, .dup, 0, 0, 0, 0, [], []),
  (65, .getfield 204, 9, 1, 0, 0, [], [826]),
  (68, .iload_n 1, 1, 0, 0, 0, [], []),
  (69, .ifCond .ne 7, 50, 0, 0, 0, [], []),
  (72, .lconst 1, 0, 0, 0, 1, [], []),
  (73, .goto 50, 71, 0, 0, 0, [], []),
  (76, .iload_n 1, 1, 0, 0, 0, [], []),
  (77, .iconst 1, 0, 0, 1, 0, [], []),
  (78, .if_icmp .ne 9, 55, 0, 0, 0, [], []),
  (81, .ldc2_w 208, 0, 0, 0, 11, [], [1139]),
  (84, .goto 39, 71, 0, 0, 0, [], []),
  (87, .iload_n 1, 1, 0, 0, 0, [], []),
  (88, .iconst 2, 0, 0, 2, 0, [], []),
  (89, .if_icmp .ne 9, 60, 0, 0, 0, [], []),
  (92, .ldc2_w 210, 0, 0, 0, 101, [], [1140]),
  (95, .goto 28, 71, 0, 0, 0, [], []),
  (98, .iload_n 1, 1, 0, 0, 0, [], []),
  (99, .iconst 3, 0, 0, 3, 0, [], []),
  (100, .if_icmp .ne 9, 65, 0, 0, 0, [], []),
  (103, .ldc2_w 212, 0, 0, 0, 1011, [], [1141]),
  (106, .goto 17, 71, 0, 0, 0, [], []),
  (109, .iload_n 1, 1, 0, 0, 0, [], []),
  (110, .iconst 4, 0, 0, 4, 0, [], []),
  (111, .if_icmp .ne 9, 70, 0, 0, 0, [], []),
  (114, .ldc2_w 214, 0, 0, 0, 10101, [], [1142]),
  (117, .goto 6, 71, 0, 0, 0, [], []),
  (120, .ldc2_w 216, 0, 0, 0, 100001, [], [1143]),
  (123, .ladd, 0, 0, 0, 0, [], []),
  (124, .putfield 204, 9, 1, 0, 0, [], [826]),
  (127, .iload_n 1, 1, 0, 0, 0, [], []),
  (128, .ifCond .ne 7, 77, 0, 0, 0, [], []),
  (131, .iload_n 3, 3, 0, 0, 0, [], []),
  (132, .goto 57, 107, 0, 0, 0, [], []),
  (135, .iload_n 1, 1, 0, 0, 0, [], []),
  (136, .iconst 1, 0, 0, 1, 0, [], []),
  (137, .if_icmp .ne 8, 82, 0, 0, 0, [], []),
  (140, .iload 4, 4, 0, 0, 0, [], []),
  (142, .goto 47, 107, 0, 0, 0, [], []),
  (145, .iload_n 1, 1, 0, 0, 0, [], []),
  (146, .iconst 2, 0, 0, 2, 0, [], []),
  (147, .if_icmp .ne 8, 87, 0, 0, 0, [], []),
  (150, .iload 5, 5, 0, 0, 0, [], []),
  (152, .goto 37, 107, 0, 0, 0, [], []),
  (155, .iload_n 1, 1, 0, 0, 0, [], []),
  (156, .iconst 3, 0, 0, 3, 0, [], []),
  (157, .if_icmp .ne 10, 94, 0, 0, 0, [], []),
  (160, .iconst 2, 0, 0, 2, 0, [], []),
  (161, .iload 4, 4, 0, 0, 0, [], []),
  (163, .imul, 0, 0, 0, 0, [], []),
  (164, .goto 25, 107, 0, 0, 0, [], []),
  (167, .iload_n 1, 1, 0, 0, 0, [], []),
  (168, .iconst 4, 0, 0, 4, 0, [], []),
  (169, .if_icmp .ne 10, 101, 0, 0, 0, [], []),
  (172, .iload 5, 5, 0, 0, 0, [], []),
  (174, .iload_n 2, 2, 0, 0, 0, [], []),
  (175, .iadd, 0, 0, 0, 0, [], []),
  (176, .goto 13, 107, 0, 0, 0, [], []),
  (179, .iload_n 3, 3, 0, 0, 0, [], []),
  (180, .aload_n 0, 0, 0, 0, 0, [], []),
  (181, .iload_n 2, 2, 0, 0, 0, [], []),
  (182, .invokevirtual 135, 138, 1, 0, 0, [], [960, 962, 32, 62, 963]),
  (185, .invokestatic 163, 121, 1, 0, 0, [], [1024, 1025, 62, 1026]),
  (188, .iadd, 0, 0, 0, 0, [], []),
  (189, .ireturn, 0, 0, 0, 0, [], [])]
def p_X9_keep : List Row := [(0, .aload_n 0, 0, 0, 0, 0, [], []),
  (1, .iconst 0, 0, 0, 0, 0, [], []),
  (2, .putfield 60, 9, 0, 0, 0, [], [825]),
  (5, .iload_n 1, 1, 0, 0, 0, [], []),
  (6, .iconst 0, 0, 0, 0, 0, [], []),
  (7, .iconst 1, 0, 0, 1, 0, [], []),
  (8, .invokestatic 64, 120, 3, 0, 0, [], [905, 906, 62, 907]),
  (11, .ifCond .ne 5, 10, 0, 0, 0, [], []),
  (14, .iconst (-1), 0, 0, (-1), 0, [], []),
  (15, .ireturn, 0, 0, 0, 0, [], []),
  (16, .iconst 0, 0, 0, 0, 0, [], []),
  (17, .istore_n 2, 2, 0, 0, 0, [], []),
  (18, .iload_n 2, 2, 0, 0, 0, [], []),
  (19, .bipush 17, 0, 0, 17, 0, [], []),
  (21, .if_icmp .ge 26, 29, 0, 0, 0, [], []),
  (24, .aload_n 0, 0, 0, 0, 0, [], []),
  (25, .getfield 31, 9, 15, 0, 0, [], [840]),
  (28, .bipush 17, 0, 0, 17, 0, [], []),
  (30, .iload_n 1, 1, 0, 0, 0, [], []),
  (31, .imul, 0, 0, 0, 0, [], []),
  (32, .iload_n 2, 2, 0, 0, 0, [], []),
  (33, .iadd, 0, 0, 0, 0, [], []),
  (34, .aload_n 0, 0, 0, 0, 0, [], []),
  (35, .getfield 28, 9, 14, 0, 0, [], [839]),
  (38, .iload_n 2, 2, 0, 0, 0, [], []),
  (39, .iaload, 0, 0, 0, 0, [], []),
  (40, .iastore, 0, 0, 0, 0, [], []),
  (41, .iinc 2 1, 2, 0, 1, 0, [], []),
  (44, .goto (-26), 12, 0, 0, 0, [], []),
  (47, .aload_n 0, 0, 0, 0, 0, [], []),
  (48, .getfield 34, 9, 16, 0, 0, [], [841]),
  (51, .iload_n 1, 1, 0, 0, 0, [], []),
  (52, .iconst 1, 0, 0, 1, 0, [], []),
  (53, .bastore, 0, 0, 0, 0, [], []),
  (54, .aload_n 0, 0, 0, 0, 0, [], []),
  (55, .invokevirtual 154, 147, 0, 0, 0, [], [1008, 1010, 41, 62, 1011]),
  (58, .invokestatic 163, 121, 1, 0, 0, [], [1024, 1025, 62, 1026]),
  (61, .ireturn, 0, 0, 0, 0, [], [])]
def p_X9_back : List Row := [(0, .aload_n 0, 0, 0, 0, 0, [], []),
  (1, .iconst 0, 0, 0, 0, 0, [], []),
  (2, .putfield 60, 9, 0, 0, 0, [], [825]),
  (5, .iload_n 1, 1, 0, 0, 0, [], []),
  (6, .iconst 0, 0, 0, 0, 0, [], []),
  (7, .iconst 1, 0, 0, 1, 0, [], []),
  (8, .invokestatic 64, 120, 3, 0, 0, [], [905, 906, 62, 907]),
  (11, .ifCond .ne 5, 10, 0, 0, 0, [], []),
  (14, .iconst (-1), 0, 0, (-1), 0, [], []),
  (15, .ireturn, 0, 0, 0, 0, [], []),
  (16, .aload_n 0, 0, 0, 0, 0, [], []),
  (17, .getfield 34, 9, 16, 0, 0, [], [841]),
  (20, .iload_n 1, 1, 0, 0, 0, [], []),
  (21, .baload, 0, 0, 0, 0, [], []),
  (22, .ifCond .ne 6, 17, 0, 0, 0, [], []),
  (25, .bipush (-2), 0, 0, (-2), 0, [], []),
  (27, .ireturn, 0, 0, 0, 0, [], []),
  (28, .iconst 0, 0, 0, 0, 0, [], []),
  (29, .istore_n 2, 2, 0, 0, 0, [], []),
  (30, .iload_n 2, 2, 0, 0, 0, [], []),
  (31, .bipush 17, 0, 0, 17, 0, [], []),
  (33, .if_icmp .ge 26, 36, 0, 0, 0, [], []),
  (36, .aload_n 0, 0, 0, 0, 0, [], []),
  (37, .getfield 28, 9, 14, 0, 0, [], [839]),
  (40, .iload_n 2, 2, 0, 0, 0, [], []),
  (41, .aload_n 0, 0, 0, 0, 0, [], []),
  (42, .getfield 31, 9, 15, 0, 0, [], [840]),
  (45, .bipush 17, 0, 0, 17, 0, [], []),
  (47, .iload_n 1, 1, 0, 0, 0, [], []),
  (48, .imul, 0, 0, 0, 0, [], []),
  (49, .iload_n 2, 2, 0, 0, 0, [], []),
  (50, .iadd, 0, 0, 0, 0, [], []),
  (51, .iaload, 0, 0, 0, 0, [], []),
  (52, .iastore, 0, 0, 0, 0, [], []),
  (53, .iinc 2 1, 2, 0, 1, 0, [], []),
  (56, .goto (-26), 19, 0, 0, 0, [], []),
  (59, .aload_n 0, 0, 0, 0, 0, [], []),
  (60, .iconst 0, 0, 0, 0, 0, [], []),
  (61, .putfield 117, 9, 18, 0, 0, [], [843]),
  (64, .aload_n 0, 0, 0, 0, 0, [], []),
  (65, .invokevirtual 154, 147, 0, 0, 0, [], [1008, 1010, 41, 62, 1011]),
  (68, .invokestatic 163, 121, 1, 0, 0, [], [1024, 1025, 62, 1026]),
  (71, .ireturn, 0, 0, 0, 0, [], [])]
def p_X9_count : List Row := [(0, .aload_n 0, 0, 0, 0, 0, [], []),
  (1, .iconst 0, 0, 0, 0, 0, [], []),
  (2, .putfield 60, 9, 0, 0, 0, [], [825]),
  (5, .iload_n 1, 1, 0, 0, 0, [], []),
  (6, .iconst 0, 0, 0, 0, 0, [], []),
  (7, .iconst 2, 0, 0, 2, 0, [], []),
  (8, .invokestatic 64, 120, 3, 0, 0, [], [905, 906, 62, 907]),
  (11, .ifCond .eq 12, 13, 0, 0, 0, [], []),
  (14, .aload_n 0, 0, 0, 0, 0, [], []),
  (15, .getfield 13, 9, 9, 0, 0, [], [834]),
  (18, .iload_n 1, 1, 0, 0, 0, [], []),
  (19, .iaload, 0, 0, 0, 0, [], []),
  (20, .goto 28, 26, 0, 0, 0, [], []),
  (23, .iload_n 1, 1, 0, 0, 0, [], []),
  (24, .iconst 3, 0, 0, 3, 0, [], []),
  (25, .if_icmp .ne 10, 19, 0, 0, 0, [], []),
  (28, .aload_n 0, 0, 0, 0, 0, [], []),
  (29, .getfield 114, 9, 21, 0, 0, [], [846]),
  (32, .goto 16, 26, 0, 0, 0, [], []),
  (35, .iload_n 1, 1, 0, 0, 0, [], []),
  (36, .iconst 4, 0, 0, 4, 0, [], []),
  (37, .if_icmp .ne 10, 25, 0, 0, 0, [], []),
  (40, .aload_n 0, 0, 0, 0, 0, [], []),
  (41, .getfield 68, 9, 3, 0, 0, [], [828]),
  (44, .goto 4, 26, 0, 0, 0, [], []),
  (47, .iconst (-1), 0, 0, (-1), 0, [], []),
  (48, .ireturn, 0, 0, 0, 0, [], [])]
def p_X9_trace : List Row := [(0, .aload_n 0, 0, 0, 0, 0, [], []),
  (1, .iconst 0, 0, 0, 0, 0, [], []),
  (2, .putfield 60, 9, 0, 0, 0, [], [825]),
  (5, .aload_n 0, 0, 0, 0, 0, [], []),
  (6, .getfield 204, 9, 1, 0, 0, [], [826]),
  (9, .lreturn, 0, 0, 0, 0, [], [])]
def p_J6_bitCount_0f7a4 : List Row := [(0, .iload_n 0, 0, 0, 0, 0, [], []),
  (1, .iload_n 0, 0, 0, 0, 0, [], []),
  (2, .iconst 1, 0, 0, 1, 0, [], []),
  (3, .iushr, 0, 0, 0, 0, [], []),
  (4, .ldc_w 265, 0, 0, 1431655765, 0, [], [552]),
  (7, .iand, 0, 0, 0, 0, [], []),
  (8, .isub, 0, 0, 0, 0, [], []),
  (9, .istore_n 0, 0, 0, 0, 0, [], []),
  (10, .iload_n 0, 0, 0, 0, 0, [], []),
  (11, .ldc_w 266, 0, 0, 858993459, 0, [], [553]),
  (14, .iand, 0, 0, 0, 0, [], []),
  (15, .iload_n 0, 0, 0, 0, 0, [], []),
  (16, .iconst 2, 0, 0, 2, 0, [], []),
  (17, .iushr, 0, 0, 0, 0, [], []),
  (18, .ldc_w 266, 0, 0, 858993459, 0, [], [553]),
  (21, .iand, 0, 0, 0, 0, [], []),
  (22, .iadd, 0, 0, 0, 0, [], []),
  (23, .istore_n 0, 0, 0, 0, 0, [], []),
  (24, .iload_n 0, 0, 0, 0, 0, [], []),
  (25, .iload_n 0, 0, 0, 0, 0, [], []),
  (26, .iconst 4, 0, 0, 4, 0, [], []),
  (27, .iushr, 0, 0, 0, 0, [], []),
  (28, .iadd, 0, 0, 0, 0, [], []),
  (29, .ldc_w 267, 0, 0, 252645135, 0, [], [554]),
  (32, .iand, 0, 0, 0, 0, [], []),
  (33, .istore_n 0, 0, 0, 0, 0, [], []),
  (34, .iload_n 0, 0, 0, 0, 0, [], []),
  (35, .iload_n 0, 0, 0, 0, 0, [], []),
  (36, .bipush 8, 0, 0, 8, 0, [], []),
  (38, .iushr, 0, 0, 0, 0, [], []),
  (39, .iadd, 0, 0, 0, 0, [], []),
  (40, .istore_n 0, 0, 0, 0, 0, [], []),
  (41, .iload_n 0, 0, 0, 0, 0, [], []),
  (42, .iload_n 0, 0, 0, 0, 0, [], []),
  (43, .bipush 16, 0, 0, 16, 0, [], []),
  (45, .iushr, 0, 0, 0, 0, [], []),
  (46, .iadd, 0, 0, 0, 0, [], []),
  (47, .istore_n 0, 0, 0, 0, 0, [], []),
  (48, .iload_n 0, 0, 0, 0, 0, [], []),
  (49, .bipush 63, 0, 0, 63, 0, [], []),
  (51, .iand, 0, 0, 0, 0, [], []),
  (52, .ireturn, 0, 0, 0, 0, [], [])]
def p_J9_max_7cf53 : List Row := [(0, .iload_n 0, 0, 0, 0, 0, [], []),
  (1, .iload_n 1, 1, 0, 0, 0, [], []),
  (2, .if_icmp .lt 7, 5, 0, 0, 0, [], []),
  (5, .iload_n 0, 0, 0, 0, 0, [], []),
  (6, .goto 4, 6, 0, 0, 0, [], []),
  (9, .iload_n 1, 1, 0, 0, 0, [], []),
  (10, .ireturn, 0, 0, 0, 0, [], [])]
def p_J9_min_7cf53 : List Row := [(0, .iload_n 0, 0, 0, 0, 0, [], []),
  (1, .iload_n 1, 1, 0, 0, 0, [], []),
  (2, .if_icmp .gt 7, 5, 0, 0, 0, [], []),
  (5, .iload_n 0, 0, 0, 0, 0, [], []),
  (6, .goto 4, 6, 0, 0, 0, [], []),
  (9, .iload_n 1, 1, 0, 0, 0, [], []),
  (10, .ireturn, 0, 0, 0, 0, [], [])]
def p_J7_fill_53178 : List Row := [(0, .iconst 0, 0, 0, 0, 0, [], []),
  (1, .istore_n 2, 2, 0, 0, 0, [], []),
  (2, .aload_n 0, 0, 0, 0, 0, [], []),
  (3, .arraylength, 0, 0, 0, 0, [], []),
  (4, .istore_n 3, 3, 0, 0, 0, [], []),
  (5, .iload_n 2, 2, 0, 0, 0, [], []),
  (6, .iload_n 3, 3, 0, 0, 0, [], []),
  (7, .if_icmp .ge 13, 14, 0, 0, 0, [], []),
  (10, .aload_n 0, 0, 0, 0, 0, [], []),
  (11, .iload_n 2, 2, 0, 0, 0, [], []),
  (12, .iload_n 1, 1, 0, 0, 0, [], []),
  (13, .iastore, 0, 0, 0, 0, [], []),
  (14, .iinc 2 1, 2, 0, 1, 0, [], []),
  (17, .goto (-12), 5, 0, 0, 0, [], []),
  (20, .return_, 0, 0, 0, 0, [], [])]
abbrev MI : Type := MethodName × ByteArray × Nat × Option FieldType × Nat × List Row
def mtab_0 : List MI := [(yX0_init, cX0_init, 1, none, 315, p_X0_init),
  (yX0_fewestMinutes, cX0_fewestMinutes, 6, (some .int), 692, p_X0_fewestMinutes),
  (yX0_inFirstOrder, cX0_inFirstOrder, 8, (some .int), 704, p_X0_inFirstOrder),
  (yX0_findLatest, cX0_findLatest, 6, none, 708, p_X0_findLatest),
  (yX0_lowestInTime, cX0_lowestInTime, 5, (some .int), 715, p_X0_lowestInTime),
  (yX0_endOf, cX0_endOf, 7, (some .int), 695, p_X0_endOf),
  (yX0_latestStartOf, cX0_latestStartOf, 7, (some .int), 711, p_X0_latestStartOf),
  (yX0_goesThrough, cX0_goesThrough, 4, (some .boolean), 699, p_X0_goesThrough),
  (yX1_init, cX1_init, 2, none, 268, p_X1_init),
  (yX1_size, cX1_size, 1, (some .int), 528, p_X1_size),
  (yX1_loseAll, cX1_loseAll, 1, none, 452, p_X1_loseAll),
  (yX1_remember, cX1_remember, 2, none, 544, p_X1_remember),
  (yX1_restoreLatest, cX1_restoreLatest, 2, none, 574, p_X1_restoreLatest),
  (yX2_init, cX2_init, 1, none, 224, p_X2_init),
  (yX2_hasThing, cX2_hasThing, 2, (some .boolean), 475, p_X2_hasThing),
  (yX2_hasPerson, cX2_hasPerson, 2, (some .boolean), 495, p_X2_hasPerson),
  (yX2_fitsPerson, cX2_fitsPerson, 3, (some .boolean), 483, p_X2_fitsPerson),
  (yX2_fitsStranger, cX2_fitsStranger, 4, (some .boolean), 643, p_X2_fitsStranger),
  (yX2_fitsAtScale, cX2_fitsAtScale, 8, (some .boolean), 487, p_X2_fitsAtScale),
  (yX2_peopleItFits, cX2_peopleItFits, 4, (some .int), 479, p_X2_peopleItFits),
  (yX2_useless, cX2_useless, 3, (some .int), 515, p_X2_useless),
  (yX2_bareOf, cX2_bareOf, 4, (some .int), 520, p_X2_bareOf),
  (yX2_thingsOf, cX2_thingsOf, 4, (some .int), 499, p_X2_thingsOf),
  (yX2_ownedThings, cX2_ownedThings, 3, (some .int), 524, p_X2_ownedThings)]
def mtab_1 : List MI := [(yX2_canLay, cX2_canLay, 3, (some .boolean), 536, p_X2_canLay),
  (yX2_hasOneOf, cX2_hasOneOf, 4, (some .boolean), 540, p_X2_hasOneOf),
  (yX2_freeWhatDoesNotFit, cX2_freeWhatDoesNotFit, 2, none, 566, p_X2_freeWhatDoesNotFit),
  (yX2_twosIfAllThingsWere, cX2_twosIfAllThingsWere, 5, (some .int), 671, p_X2_twosIfAllThingsWere),
  (yX2_thingsFitting, cX2_thingsFitting, 5, (some .int), 683, p_X2_thingsFitting),
  (yX2_smallerThan, cX2_smallerThan, 5, (some .int), 503, p_X2_smallerThan),
  (yX2_chairs, cX2_chairs, 3, (some .int), 747, p_X2_chairs),
  (yX2_commonScale, cX2_commonScale, 4, (some .long), 724, p_X2_commonScale),
  (yX2_heightOf, cX2_heightOf, 5, (some .long), 733, p_X2_heightOf),
  (yX2_heightOfAll, cX2_heightOfAll, 6, (some .long), 729, p_X2_heightOfAll),
  (yX3_init, cX3_init, 1, none, 305, p_X3_init),
  (yX3_mostPeople, cX3_mostPeople, 4, (some .int), 585, p_X3_mostPeople),
  (yX3_firstThingOf, cX3_firstThingOf, 5, (some .int), 602, p_X3_firstThingOf),
  (yX3_canHouse, cX3_canHouse, 4, (some .boolean), 590, p_X3_canHouse),
  (yX3_layFrom, cX3_layFrom, 8, (some .boolean), 593, p_X3_layFrom),
  (yX4_init, cX4_init, 1, none, 232, p_X4_init),
  (yX4_beginAsTold, cX4_beginAsTold, 2, none, 442, p_X4_beginAsTold),
  (yX4_copyFrom, cX4_copyFrom, 2, none, 548, p_X4_copyFrom),
  (yX5_init, cX5_init, 1, none, 85, p_X5_init),
  (yX5_beginAsAtFirst, cX5_beginAsAtFirst, 2, none, 90, p_X5_beginAsAtFirst),
  (yX6_init, cX6_init, 1, none, 79, p_X6_init),
  (yX6_size, cX6_size, 1, (some .int), 372, p_X6_size),
  (yX6_isFull, cX6_isFull, 1, (some .boolean), 363, p_X6_isFull),
  (yX6_add, cX6_add, 2, none, 367, p_X6_add)]
def mtab_2 : List MI := [(yX6_loseAll, cX6_loseAll, 1, none, 380, p_X6_loseAll),
  (yX6_readAll, cX6_readAll, 2, (some .int), 388, p_X6_readAll),
  (yX6_itemsRead, cX6_itemsRead, 1, (some .int), 460, p_X6_itemsRead),
  (yX6_giveTaleFor, cX6_giveTaleFor, 3, (some (.object "TwoScales$Tale")), 438, p_X6_giveTaleFor),
  (yX6_readLaw, cX6_readLaw, 4, none, 410, p_X6_readLaw),
  (yX6_readThing, cX6_readThing, 2, none, 422, p_X6_readThing),
  (yX6_readPerson, cX6_readPerson, 2, none, 426, p_X6_readPerson),
  (yX6_readDoor, cX6_readDoor, 2, none, 430, p_X6_readDoor),
  (yX6_takeNumber, cX6_takeNumber, 3, (some .int), 414, p_X6_takeNumber),
  (yX6_takeEndOfItem, cX6_takeEndOfItem, 1, none, 434, p_X6_takeEndOfItem),
  (yX6_refuseToken, cX6_refuseToken, 1, none, 418, p_X6_refuseToken),
  (yX6_takeToken, cX6_takeToken, 1, none, 393, p_X6_takeToken),
  (yX6_takeDigits, cX6_takeDigits, 2, none, 400, p_X6_takeDigits),
  (yX6_isDigit, cX6_isDigit, 1, (some .boolean), 396, p_X6_isDigit),
  (yX6_isOwnToken, cX6_isOwnToken, 1, (some .boolean), 406, p_X6_isOwnToken),
  (yX7_init, cX7_init, 1, none, 288, p_X7_init),
  (yX7_size, cX7_size, 1, (some .int), 620, p_X7_size),
  (yX7_isFull, cX7_isFull, 1, (some .boolean), 611, p_X7_isFull),
  (yX7_loseAll, cX7_loseAll, 1, none, 456, p_X7_loseAll),
  (yX7_add, cX7_add, 3, none, 615, p_X7_add),
  (yX7_allow, cX7_allow, 5, (some .boolean), 639, p_X7_allow),
  (yX7_scalesLeft, cX7_scalesLeft, 5, (some .int), 635, p_X7_scalesLeft),
  (yX7_leastScale, cX7_leastScale, 4, (some .int), 647, p_X7_leastScale),
  (yX7_leftAtWorst, cX7_leftAtWorst, 7, (some .int), 659, p_X7_leftAtWorst)]
def mtab_3 : List MI := [(yX7_bestToTry, cX7_bestToTry, 7, (some .int), 655, p_X7_bestToTry),
  (yX8_init, cX8_init, 2, none, 71, p_X8_init),
  (yX8_type, cX8_type, 2, (some .int), 359, p_X8_type),
  (yX8_clear, cX8_clear, 2, (some .int), 376, p_X8_clear),
  (yX8_house, cX8_house, 3, (some .int), 384, p_X8_house),
  (yX8_use, cX8_use, 3, (some .int), 464, p_X8_use),
  (yX8_thing, cX8_thing, 3, (some .int), 471, p_X8_thing),
  (yX8_person, cX8_person, 3, (some .int), 491, p_X8_person),
  (yX8_door, cX8_door, 3, (some .int), 507, p_X8_door),
  (yX8_now, cX8_now, 2, (some .int), 511, p_X8_now),
  (yX8_lays, cX8_lays, 3, (some .int), 532, p_X8_lays),
  (yX8_takes, cX8_takes, 3, (some .int), 558, p_X8_takes),
  (yX8_rescales, cX8_rescales, 7, (some .int), 562, p_X8_rescales),
  (yX8_undo, cX8_undo, 1, (some .int), 570, p_X8_undo),
  (yX8_housed, cX8_housed, 3, (some .int), 578, p_X8_housed),
  (yX8_laying, cX8_laying, 3, (some .int), 598, p_X8_laying),
  (yX8_tries, cX8_tries, 3, (some .int), 607, p_X8_tries),
  (yX8_forget, cX8_forget, 2, (some .int), 624, p_X8_forget),
  (yX8_mayBe, cX8_mayBe, 3, (some .int), 628, p_X8_mayBe),
  (yX8_next, cX8_next, 4, (some .int), 651, p_X8_next),
  (yX8_bestScale, cX8_bestScale, 3, (some .int), 667, p_X8_bestScale),
  (yX8_oneMore, cX8_oneMore, 4, (some .int), 679, p_X8_oneMore),
  (yX8_scaleOfMost, cX8_scaleOfMost, 3, (some .int), 675, p_X8_scaleOfMost),
  (yX8_carried, cX8_carried, 3, (some .int), 688, p_X8_carried)]
def mtab_4 : List MI := [(yX8_mean, cX8_mean, 5, (some .long), 719, p_X8_mean),
  (yX8_turnsOfAll, cX8_turnsOfAll, 3, (some .int), 743, p_X8_turnsOfAll),
  (yX8_share, cX8_share, 7, (some .int), 752, p_X8_share),
  (yX8_odds, cX8_odds, 8, (some .int), 757, p_X8_odds),
  (yX8_rate, cX8_rate, 3, (some .int), 767, p_X8_rate),
  (yX8_keep, cX8_keep, 2, (some .int), 801, p_X8_keep),
  (yX8_back, cX8_back, 2, (some .int), 806, p_X8_back),
  (yX8_count, cX8_count, 2, (some .int), 810, p_X8_count),
  (yX8_trace, cX8_trace, 1, (some .long), 814, p_X8_trace),
  (yX8_rateOfThing, cX8_rateOfThing, 2, (some .int), 772, p_X8_rateOfThing),
  (yX8_rateOfTurned, cX8_rateOfTurned, 2, (some .int), 776, p_X8_rateOfTurned),
  (yX8_rateOfGlued, cX8_rateOfGlued, 2, (some .int), 781, p_X8_rateOfGlued),
  (yX8_rateOfCarved, cX8_rateOfCarved, 2, (some .int), 786, p_X8_rateOfCarved),
  (yX8_rateOfSoup, cX8_rateOfSoup, 2, (some .int), 791, p_X8_rateOfSoup),
  (yX8_rateOfReal, cX8_rateOfReal, 2, (some .int), 796, p_X8_rateOfReal),
  (yX8_isFirstOrSecond, cX8_isFirstOrSecond, 1, (some .boolean), 581, p_X8_isFirstOrSecond),
  (yX8_isUse, cX8_isUse, 1, (some .boolean), 467, p_X8_isUse),
  (yX8_isSize, cX8_isSize, 1, (some .boolean), 631, p_X8_isSize),
  (yX8_inLowestTerms, cX8_inLowestTerms, 7, (some .long), 736, p_X8_inLowestTerms),
  (yX8_greatestDivisor, cX8_greatestDivisor, 7, (some .long), 739, p_X8_greatestDivisor),
  (yX8_waysToChoose, cX8_waysToChoose, 5, (some .long), 760, p_X8_waysToChoose),
  (yX8_power, cX8_power, 5, (some .long), 763, p_X8_power),
  (yX9_init, cX9_init, 1, none, 819, p_X9_init),
  (yX9_firstLaws, cX9_firstLaws, 2, none, 824, p_X9_firstLaws)]
def mtab_5 : List MI := [(yX9_in, cX9_in, 3, (some .boolean), 907, p_X9_in),
  (yX9_ones, cX9_ones, 3, (some .int), 1026, p_X9_ones),
  (yX9_type, cX9_type, 2, (some .int), 904, p_X9_type),
  (yX9_clear, cX9_clear, 2, (some .int), 911, p_X9_clear),
  (yX9_letterAt, cX9_letterAt, 2, (some .int), 923, p_X9_letterAt),
  (yX9_advances, cX9_advances, 2, none, 919, p_X9_advances),
  (yX9_isWell, cX9_isWell, 1, (some .boolean), 927, p_X9_isWell),
  (yX9_takes, cX9_takes, 3, (some .int), 935, p_X9_takes),
  (yX9_number, cX9_number, 3, (some .int), 943, p_X9_number),
  (yX9_mayBegin, cX9_mayBegin, 1, (some .boolean), 931, p_X9_mayBegin),
  (yX9_readsItem, cX9_readsItem, 5, none, 939, p_X9_readsItem),
  (yX9_house, cX9_house, 3, (some .int), 915, p_X9_house),
  (yX9_settles, cX9_settles, 2, none, 947, p_X9_settles),
  (yX9_isThingThere, cX9_isThingThere, 2, (some .boolean), 959, p_X9_isThingThere),
  (yX9_isPerson, cX9_isPerson, 2, (some .boolean), 983, p_X9_isPerson),
  (yX9_useOf, cX9_useOf, 2, (some .int), 975, p_X9_useOf),
  (yX9_fits, cX9_fits, 7, (some .boolean), 971, p_X9_fits),
  (yX9_isFit, cX9_isFit, 3, (some .boolean), 967, p_X9_isFit),
  (yX9_fitsOf, cX9_fitsOf, 4, (some .int), 963, p_X9_fitsOf),
  (yX9_use, cX9_use, 3, (some .int), 951, p_X9_use),
  (yX9_thing, cX9_thing, 3, (some .int), 955, p_X9_thing),
  (yX9_thingsOf, cX9_thingsOf, 4, (some .int), 987, p_X9_thingsOf),
  (yX9_taller, cX9_taller, 4, (some .int), 991, p_X9_taller),
  (yX9_person, cX9_person, 3, (some .int), 979, p_X9_person)]
def mtab_6 : List MI := [(yX9_door, cX9_door, 3, (some .int), 995, p_X9_door),
  (yX9_useless, cX9_useless, 3, (some .int), 1003, p_X9_useless),
  (yX9_bare, cX9_bare, 4, (some .int), 1007, p_X9_bare),
  (yX9_owned, cX9_owned, 3, (some .int), 1011, p_X9_owned),
  (yX9_now, cX9_now, 2, (some .int), 999, p_X9_now),
  (yX9_notes, cX9_notes, 2, none, 1023, p_X9_notes),
  (yX9_hasOne, cX9_hasOne, 5, (some .boolean), 1019, p_X9_hasOne),
  (yX9_lays, cX9_lays, 3, (some .int), 1015, p_X9_lays),
  (yX9_takes_, cX9_takes_, 3, (some .int), 1030, p_X9_takes_),
  (yX9_rescales, cX9_rescales, 7, (some .int), 1034, p_X9_rescales),
  (yX9_undo, cX9_undo, 2, (some .int), 1038, p_X9_undo),
  (yX9_canHave, cX9_canHave, 14, (some .boolean), 1050, p_X9_canHave),
  (yX9_housedSet, cX9_housedSet, 3, (some .int), 1046, p_X9_housedSet),
  (yX9_housed, cX9_housed, 3, (some .int), 1042, p_X9_housed),
  (yX9_laying, cX9_laying, 7, (some .int), 1054, p_X9_laying),
  (yX9_tries, cX9_tries, 3, (some .int), 1058, p_X9_tries),
  (yX9_forget, cX9_forget, 2, (some .int), 1062, p_X9_forget),
  (yX9_mayBeAt, cX9_mayBeAt, 6, (some .boolean), 1070, p_X9_mayBeAt),
  (yX9_mayBe, cX9_mayBe, 6, (some .int), 1066, p_X9_mayBe),
  (yX9_worst, cX9_worst, 8, (some .int), 1078, p_X9_worst),
  (yX9_next, cX9_next, 5, (some .int), 1074, p_X9_next),
  (yX9_fitsAt, cX9_fitsAt, 5, (some .int), 1086, p_X9_fitsAt),
  (yX9_bestScale, cX9_bestScale, 4, (some .int), 1082, p_X9_bestScale),
  (yX9_fitsHim, cX9_fitsHim, 5, (some .int), 1094, p_X9_fitsHim)]
def mtab_7 : List MI := [(yX9_oneMore, cX9_oneMore, 5, (some .int), 1090, p_X9_oneMore),
  (yX9_isIn, cX9_isIn, 9, (some .int), 1107, p_X9_isIn),
  (yX9_isOrder, cX9_isOrder, 6, (some .boolean), 1103, p_X9_isOrder),
  (yX9_carried, cX9_carried, 7, (some .int), 1098, p_X9_carried),
  (yX9_gcd, cX9_gcd, 10, (some .long), 1115, p_X9_gcd),
  (yX9_mean, cX9_mean, 9, (some .long), 1111, p_X9_mean),
  (yX9_turnsOfAll, cX9_turnsOfAll, 3, (some .int), 1119, p_X9_turnsOfAll),
  (yX9_share, cX9_share, 11, (some .int), 1123, p_X9_share),
  (yX9_power, cX9_power, 4, (some .int), 1133, p_X9_power),
  (yX9_choose, cX9_choose, 4, (some .int), 1130, p_X9_choose),
  (yX9_odds, cX9_odds, 8, (some .int), 1127, p_X9_odds),
  (yX9_rate, cX9_rate, 6, (some .int), 1137, p_X9_rate),
  (yX9_keep, cX9_keep, 3, (some .int), 1147, p_X9_keep),
  (yX9_back, cX9_back, 3, (some .int), 1151, p_X9_back),
  (yX9_count, cX9_count, 2, (some .int), 1155, p_X9_count),
  (yX9_trace, cX9_trace, 1, (some .long), 1159, p_X9_trace),
  (yJ6_bitCount_0f7a4, cJ6_bitCount_0f7a4, 1, (some .int), 551, p_J6_bitCount_0f7a4),
  (yJ9_max_7cf53, cJ9_max_7cf53, 2, (some .int), 662, p_J9_max_7cf53),
  (yJ9_min_7cf53, cJ9_min_7cf53, 2, (some .int), 403, p_J9_min_7cf53),
  (yJ7_fill_53178, cJ7_fill_53178, 4, none, 445, p_J7_fill_53178)]
def mtab : List MI := mtab_0 ++ (mtab_1 ++ (mtab_2 ++ (mtab_3 ++ (mtab_4 ++ (mtab_5 ++ (mtab_6 ++ (mtab_7)))))))
def mI (M : Nat) : MI := (mtab[M]?).getD (objectInit, ⟨#[]⟩, 0, none, 0, [])
def mY (M : Nat) : MethodName := (mI M).1
def mB (M : Nat) : ByteArray := (mI M).2.1
def mL (M : Nat) : Nat := (mI M).2.2.1
def mR (M : Nat) : Option FieldType := (mI M).2.2.2.1
def mP (M : Nat) : List Row := (mI M).2.2.2.2.2
theorem e_X0_init : mP 0 = p_X0_init := rfl
theorem l_X0_init : mL 0 = 1 := rfl
theorem e_X0_fewestMinutes : mP 1 = p_X0_fewestMinutes := rfl
theorem l_X0_fewestMinutes : mL 1 = 6 := rfl
theorem e_X0_inFirstOrder : mP 2 = p_X0_inFirstOrder := rfl
theorem l_X0_inFirstOrder : mL 2 = 8 := rfl
theorem e_X0_findLatest : mP 3 = p_X0_findLatest := rfl
theorem l_X0_findLatest : mL 3 = 6 := rfl
theorem e_X0_lowestInTime : mP 4 = p_X0_lowestInTime := rfl
theorem l_X0_lowestInTime : mL 4 = 5 := rfl
theorem e_X0_endOf : mP 5 = p_X0_endOf := rfl
theorem l_X0_endOf : mL 5 = 7 := rfl
theorem e_X0_latestStartOf : mP 6 = p_X0_latestStartOf := rfl
theorem l_X0_latestStartOf : mL 6 = 7 := rfl
theorem e_X0_goesThrough : mP 7 = p_X0_goesThrough := rfl
theorem l_X0_goesThrough : mL 7 = 4 := rfl
theorem e_X1_init : mP 8 = p_X1_init := rfl
theorem l_X1_init : mL 8 = 2 := rfl
theorem e_X1_size : mP 9 = p_X1_size := rfl
theorem l_X1_size : mL 9 = 1 := rfl
theorem e_X1_loseAll : mP 10 = p_X1_loseAll := rfl
theorem l_X1_loseAll : mL 10 = 1 := rfl
theorem e_X1_remember : mP 11 = p_X1_remember := rfl
theorem l_X1_remember : mL 11 = 2 := rfl
theorem e_X1_restoreLatest : mP 12 = p_X1_restoreLatest := rfl
theorem l_X1_restoreLatest : mL 12 = 2 := rfl
theorem e_X2_init : mP 13 = p_X2_init := rfl
theorem l_X2_init : mL 13 = 1 := rfl
theorem e_X2_hasThing : mP 14 = p_X2_hasThing := rfl
theorem l_X2_hasThing : mL 14 = 2 := rfl
theorem e_X2_hasPerson : mP 15 = p_X2_hasPerson := rfl
theorem l_X2_hasPerson : mL 15 = 2 := rfl
theorem e_X2_fitsPerson : mP 16 = p_X2_fitsPerson := rfl
theorem l_X2_fitsPerson : mL 16 = 3 := rfl
theorem e_X2_fitsStranger : mP 17 = p_X2_fitsStranger := rfl
theorem l_X2_fitsStranger : mL 17 = 4 := rfl
theorem e_X2_fitsAtScale : mP 18 = p_X2_fitsAtScale := rfl
theorem l_X2_fitsAtScale : mL 18 = 8 := rfl
theorem e_X2_peopleItFits : mP 19 = p_X2_peopleItFits := rfl
theorem l_X2_peopleItFits : mL 19 = 4 := rfl
theorem e_X2_useless : mP 20 = p_X2_useless := rfl
theorem l_X2_useless : mL 20 = 3 := rfl
theorem e_X2_bareOf : mP 21 = p_X2_bareOf := rfl
theorem l_X2_bareOf : mL 21 = 4 := rfl
theorem e_X2_thingsOf : mP 22 = p_X2_thingsOf := rfl
theorem l_X2_thingsOf : mL 22 = 4 := rfl
theorem e_X2_ownedThings : mP 23 = p_X2_ownedThings := rfl
theorem l_X2_ownedThings : mL 23 = 3 := rfl
theorem e_X2_canLay : mP 24 = p_X2_canLay := rfl
theorem l_X2_canLay : mL 24 = 3 := rfl
theorem e_X2_hasOneOf : mP 25 = p_X2_hasOneOf := rfl
theorem l_X2_hasOneOf : mL 25 = 4 := rfl
theorem e_X2_freeWhatDoesNotFit : mP 26 = p_X2_freeWhatDoesNotFit := rfl
theorem l_X2_freeWhatDoesNotFit : mL 26 = 2 := rfl
theorem e_X2_twosIfAllThingsWere : mP 27 = p_X2_twosIfAllThingsWere := rfl
theorem l_X2_twosIfAllThingsWere : mL 27 = 5 := rfl
theorem e_X2_thingsFitting : mP 28 = p_X2_thingsFitting := rfl
theorem l_X2_thingsFitting : mL 28 = 5 := rfl
theorem e_X2_smallerThan : mP 29 = p_X2_smallerThan := rfl
theorem l_X2_smallerThan : mL 29 = 5 := rfl
theorem e_X2_chairs : mP 30 = p_X2_chairs := rfl
theorem l_X2_chairs : mL 30 = 3 := rfl
theorem e_X2_commonScale : mP 31 = p_X2_commonScale := rfl
theorem l_X2_commonScale : mL 31 = 4 := rfl
theorem e_X2_heightOf : mP 32 = p_X2_heightOf := rfl
theorem l_X2_heightOf : mL 32 = 5 := rfl
theorem e_X2_heightOfAll : mP 33 = p_X2_heightOfAll := rfl
theorem l_X2_heightOfAll : mL 33 = 6 := rfl
theorem e_X3_init : mP 34 = p_X3_init := rfl
theorem l_X3_init : mL 34 = 1 := rfl
theorem e_X3_mostPeople : mP 35 = p_X3_mostPeople := rfl
theorem l_X3_mostPeople : mL 35 = 4 := rfl
theorem e_X3_firstThingOf : mP 36 = p_X3_firstThingOf := rfl
theorem l_X3_firstThingOf : mL 36 = 5 := rfl
theorem e_X3_canHouse : mP 37 = p_X3_canHouse := rfl
theorem l_X3_canHouse : mL 37 = 4 := rfl
theorem e_X3_layFrom : mP 38 = p_X3_layFrom := rfl
theorem l_X3_layFrom : mL 38 = 8 := rfl
theorem e_X4_init : mP 39 = p_X4_init := rfl
theorem l_X4_init : mL 39 = 1 := rfl
theorem e_X4_beginAsTold : mP 40 = p_X4_beginAsTold := rfl
theorem l_X4_beginAsTold : mL 40 = 2 := rfl
theorem e_X4_copyFrom : mP 41 = p_X4_copyFrom := rfl
theorem l_X4_copyFrom : mL 41 = 2 := rfl
theorem e_X5_init : mP 42 = p_X5_init := rfl
theorem l_X5_init : mL 42 = 1 := rfl
theorem e_X5_beginAsAtFirst : mP 43 = p_X5_beginAsAtFirst := rfl
theorem l_X5_beginAsAtFirst : mL 43 = 2 := rfl
theorem e_X6_init : mP 44 = p_X6_init := rfl
theorem l_X6_init : mL 44 = 1 := rfl
theorem e_X6_size : mP 45 = p_X6_size := rfl
theorem l_X6_size : mL 45 = 1 := rfl
theorem e_X6_isFull : mP 46 = p_X6_isFull := rfl
theorem l_X6_isFull : mL 46 = 1 := rfl
theorem e_X6_add : mP 47 = p_X6_add := rfl
theorem l_X6_add : mL 47 = 2 := rfl
theorem e_X6_loseAll : mP 48 = p_X6_loseAll := rfl
theorem l_X6_loseAll : mL 48 = 1 := rfl
theorem e_X6_readAll : mP 49 = p_X6_readAll := rfl
theorem l_X6_readAll : mL 49 = 2 := rfl
theorem e_X6_itemsRead : mP 50 = p_X6_itemsRead := rfl
theorem l_X6_itemsRead : mL 50 = 1 := rfl
theorem e_X6_giveTaleFor : mP 51 = p_X6_giveTaleFor := rfl
theorem l_X6_giveTaleFor : mL 51 = 3 := rfl
theorem e_X6_readLaw : mP 52 = p_X6_readLaw := rfl
theorem l_X6_readLaw : mL 52 = 4 := rfl
theorem e_X6_readThing : mP 53 = p_X6_readThing := rfl
theorem l_X6_readThing : mL 53 = 2 := rfl
theorem e_X6_readPerson : mP 54 = p_X6_readPerson := rfl
theorem l_X6_readPerson : mL 54 = 2 := rfl
theorem e_X6_readDoor : mP 55 = p_X6_readDoor := rfl
theorem l_X6_readDoor : mL 55 = 2 := rfl
theorem e_X6_takeNumber : mP 56 = p_X6_takeNumber := rfl
theorem l_X6_takeNumber : mL 56 = 3 := rfl
theorem e_X6_takeEndOfItem : mP 57 = p_X6_takeEndOfItem := rfl
theorem l_X6_takeEndOfItem : mL 57 = 1 := rfl
theorem e_X6_refuseToken : mP 58 = p_X6_refuseToken := rfl
theorem l_X6_refuseToken : mL 58 = 1 := rfl
theorem e_X6_takeToken : mP 59 = p_X6_takeToken := rfl
theorem l_X6_takeToken : mL 59 = 1 := rfl
theorem e_X6_takeDigits : mP 60 = p_X6_takeDigits := rfl
theorem l_X6_takeDigits : mL 60 = 2 := rfl
theorem e_X6_isDigit : mP 61 = p_X6_isDigit := rfl
theorem l_X6_isDigit : mL 61 = 1 := rfl
theorem e_X6_isOwnToken : mP 62 = p_X6_isOwnToken := rfl
theorem l_X6_isOwnToken : mL 62 = 1 := rfl
theorem e_X7_init : mP 63 = p_X7_init := rfl
theorem l_X7_init : mL 63 = 1 := rfl
theorem e_X7_size : mP 64 = p_X7_size := rfl
theorem l_X7_size : mL 64 = 1 := rfl
theorem e_X7_isFull : mP 65 = p_X7_isFull := rfl
theorem l_X7_isFull : mL 65 = 1 := rfl
theorem e_X7_loseAll : mP 66 = p_X7_loseAll := rfl
theorem l_X7_loseAll : mL 66 = 1 := rfl
theorem e_X7_add : mP 67 = p_X7_add := rfl
theorem l_X7_add : mL 67 = 3 := rfl
theorem e_X7_allow : mP 68 = p_X7_allow := rfl
theorem l_X7_allow : mL 68 = 5 := rfl
theorem e_X7_scalesLeft : mP 69 = p_X7_scalesLeft := rfl
theorem l_X7_scalesLeft : mL 69 = 5 := rfl
theorem e_X7_leastScale : mP 70 = p_X7_leastScale := rfl
theorem l_X7_leastScale : mL 70 = 4 := rfl
theorem e_X7_leftAtWorst : mP 71 = p_X7_leftAtWorst := rfl
theorem l_X7_leftAtWorst : mL 71 = 7 := rfl
theorem e_X7_bestToTry : mP 72 = p_X7_bestToTry := rfl
theorem l_X7_bestToTry : mL 72 = 7 := rfl
theorem e_X8_init : mP 73 = p_X8_init := rfl
theorem l_X8_init : mL 73 = 2 := rfl
theorem e_X8_type : mP 74 = p_X8_type := rfl
theorem l_X8_type : mL 74 = 2 := rfl
theorem e_X8_clear : mP 75 = p_X8_clear := rfl
theorem l_X8_clear : mL 75 = 2 := rfl
theorem e_X8_house : mP 76 = p_X8_house := rfl
theorem l_X8_house : mL 76 = 3 := rfl
theorem e_X8_use : mP 77 = p_X8_use := rfl
theorem l_X8_use : mL 77 = 3 := rfl
theorem e_X8_thing : mP 78 = p_X8_thing := rfl
theorem l_X8_thing : mL 78 = 3 := rfl
theorem e_X8_person : mP 79 = p_X8_person := rfl
theorem l_X8_person : mL 79 = 3 := rfl
theorem e_X8_door : mP 80 = p_X8_door := rfl
theorem l_X8_door : mL 80 = 3 := rfl
theorem e_X8_now : mP 81 = p_X8_now := rfl
theorem l_X8_now : mL 81 = 2 := rfl
theorem e_X8_lays : mP 82 = p_X8_lays := rfl
theorem l_X8_lays : mL 82 = 3 := rfl
theorem e_X8_takes : mP 83 = p_X8_takes := rfl
theorem l_X8_takes : mL 83 = 3 := rfl
theorem e_X8_rescales : mP 84 = p_X8_rescales := rfl
theorem l_X8_rescales : mL 84 = 7 := rfl
theorem e_X8_undo : mP 85 = p_X8_undo := rfl
theorem l_X8_undo : mL 85 = 1 := rfl
theorem e_X8_housed : mP 86 = p_X8_housed := rfl
theorem l_X8_housed : mL 86 = 3 := rfl
theorem e_X8_laying : mP 87 = p_X8_laying := rfl
theorem l_X8_laying : mL 87 = 3 := rfl
theorem e_X8_tries : mP 88 = p_X8_tries := rfl
theorem l_X8_tries : mL 88 = 3 := rfl
theorem e_X8_forget : mP 89 = p_X8_forget := rfl
theorem l_X8_forget : mL 89 = 2 := rfl
theorem e_X8_mayBe : mP 90 = p_X8_mayBe := rfl
theorem l_X8_mayBe : mL 90 = 3 := rfl
theorem e_X8_next : mP 91 = p_X8_next := rfl
theorem l_X8_next : mL 91 = 4 := rfl
theorem e_X8_bestScale : mP 92 = p_X8_bestScale := rfl
theorem l_X8_bestScale : mL 92 = 3 := rfl
theorem e_X8_oneMore : mP 93 = p_X8_oneMore := rfl
theorem l_X8_oneMore : mL 93 = 4 := rfl
theorem e_X8_scaleOfMost : mP 94 = p_X8_scaleOfMost := rfl
theorem l_X8_scaleOfMost : mL 94 = 3 := rfl
theorem e_X8_carried : mP 95 = p_X8_carried := rfl
theorem l_X8_carried : mL 95 = 3 := rfl
theorem e_X8_mean : mP 96 = p_X8_mean := rfl
theorem l_X8_mean : mL 96 = 5 := rfl
theorem e_X8_turnsOfAll : mP 97 = p_X8_turnsOfAll := rfl
theorem l_X8_turnsOfAll : mL 97 = 3 := rfl
theorem e_X8_share : mP 98 = p_X8_share := rfl
theorem l_X8_share : mL 98 = 7 := rfl
theorem e_X8_odds : mP 99 = p_X8_odds := rfl
theorem l_X8_odds : mL 99 = 8 := rfl
theorem e_X8_rate : mP 100 = p_X8_rate := rfl
theorem l_X8_rate : mL 100 = 3 := rfl
theorem e_X8_keep : mP 101 = p_X8_keep := rfl
theorem l_X8_keep : mL 101 = 2 := rfl
theorem e_X8_back : mP 102 = p_X8_back := rfl
theorem l_X8_back : mL 102 = 2 := rfl
theorem e_X8_count : mP 103 = p_X8_count := rfl
theorem l_X8_count : mL 103 = 2 := rfl
theorem e_X8_trace : mP 104 = p_X8_trace := rfl
theorem l_X8_trace : mL 104 = 1 := rfl
theorem e_X8_rateOfThing : mP 105 = p_X8_rateOfThing := rfl
theorem l_X8_rateOfThing : mL 105 = 2 := rfl
theorem e_X8_rateOfTurned : mP 106 = p_X8_rateOfTurned := rfl
theorem l_X8_rateOfTurned : mL 106 = 2 := rfl
theorem e_X8_rateOfGlued : mP 107 = p_X8_rateOfGlued := rfl
theorem l_X8_rateOfGlued : mL 107 = 2 := rfl
theorem e_X8_rateOfCarved : mP 108 = p_X8_rateOfCarved := rfl
theorem l_X8_rateOfCarved : mL 108 = 2 := rfl
theorem e_X8_rateOfSoup : mP 109 = p_X8_rateOfSoup := rfl
theorem l_X8_rateOfSoup : mL 109 = 2 := rfl
theorem e_X8_rateOfReal : mP 110 = p_X8_rateOfReal := rfl
theorem l_X8_rateOfReal : mL 110 = 2 := rfl
theorem e_X8_isFirstOrSecond : mP 111 = p_X8_isFirstOrSecond := rfl
theorem l_X8_isFirstOrSecond : mL 111 = 1 := rfl
theorem e_X8_isUse : mP 112 = p_X8_isUse := rfl
theorem l_X8_isUse : mL 112 = 1 := rfl
theorem e_X8_isSize : mP 113 = p_X8_isSize := rfl
theorem l_X8_isSize : mL 113 = 1 := rfl
theorem e_X8_inLowestTerms : mP 114 = p_X8_inLowestTerms := rfl
theorem l_X8_inLowestTerms : mL 114 = 7 := rfl
theorem e_X8_greatestDivisor : mP 115 = p_X8_greatestDivisor := rfl
theorem l_X8_greatestDivisor : mL 115 = 7 := rfl
theorem e_X8_waysToChoose : mP 116 = p_X8_waysToChoose := rfl
theorem l_X8_waysToChoose : mL 116 = 5 := rfl
theorem e_X8_power : mP 117 = p_X8_power := rfl
theorem l_X8_power : mL 117 = 5 := rfl
theorem e_X9_init : mP 118 = p_X9_init := rfl
theorem l_X9_init : mL 118 = 1 := rfl
theorem e_X9_firstLaws : mP 119 = p_X9_firstLaws := rfl
theorem l_X9_firstLaws : mL 119 = 2 := rfl
theorem e_X9_in : mP 120 = p_X9_in := rfl
theorem l_X9_in : mL 120 = 3 := rfl
theorem e_X9_ones : mP 121 = p_X9_ones := rfl
theorem l_X9_ones : mL 121 = 3 := rfl
theorem e_X9_type : mP 122 = p_X9_type := rfl
theorem l_X9_type : mL 122 = 2 := rfl
theorem e_X9_clear : mP 123 = p_X9_clear := rfl
theorem l_X9_clear : mL 123 = 2 := rfl
theorem e_X9_letterAt : mP 124 = p_X9_letterAt := rfl
theorem l_X9_letterAt : mL 124 = 2 := rfl
theorem e_X9_advances : mP 125 = p_X9_advances := rfl
theorem l_X9_advances : mL 125 = 2 := rfl
theorem e_X9_isWell : mP 126 = p_X9_isWell := rfl
theorem l_X9_isWell : mL 126 = 1 := rfl
theorem e_X9_takes : mP 127 = p_X9_takes := rfl
theorem l_X9_takes : mL 127 = 3 := rfl
theorem e_X9_number : mP 128 = p_X9_number := rfl
theorem l_X9_number : mL 128 = 3 := rfl
theorem e_X9_mayBegin : mP 129 = p_X9_mayBegin := rfl
theorem l_X9_mayBegin : mL 129 = 1 := rfl
theorem e_X9_readsItem : mP 130 = p_X9_readsItem := rfl
theorem l_X9_readsItem : mL 130 = 5 := rfl
theorem e_X9_house : mP 131 = p_X9_house := rfl
theorem l_X9_house : mL 131 = 3 := rfl
theorem e_X9_settles : mP 132 = p_X9_settles := rfl
theorem l_X9_settles : mL 132 = 2 := rfl
theorem e_X9_isThingThere : mP 133 = p_X9_isThingThere := rfl
theorem l_X9_isThingThere : mL 133 = 2 := rfl
theorem e_X9_isPerson : mP 134 = p_X9_isPerson := rfl
theorem l_X9_isPerson : mL 134 = 2 := rfl
theorem e_X9_useOf : mP 135 = p_X9_useOf := rfl
theorem l_X9_useOf : mL 135 = 2 := rfl
theorem e_X9_fits : mP 136 = p_X9_fits := rfl
theorem l_X9_fits : mL 136 = 7 := rfl
theorem e_X9_isFit : mP 137 = p_X9_isFit := rfl
theorem l_X9_isFit : mL 137 = 3 := rfl
theorem e_X9_fitsOf : mP 138 = p_X9_fitsOf := rfl
theorem l_X9_fitsOf : mL 138 = 4 := rfl
theorem e_X9_use : mP 139 = p_X9_use := rfl
theorem l_X9_use : mL 139 = 3 := rfl
theorem e_X9_thing : mP 140 = p_X9_thing := rfl
theorem l_X9_thing : mL 140 = 3 := rfl
theorem e_X9_thingsOf : mP 141 = p_X9_thingsOf := rfl
theorem l_X9_thingsOf : mL 141 = 4 := rfl
theorem e_X9_taller : mP 142 = p_X9_taller := rfl
theorem l_X9_taller : mL 142 = 4 := rfl
theorem e_X9_person : mP 143 = p_X9_person := rfl
theorem l_X9_person : mL 143 = 3 := rfl
theorem e_X9_door : mP 144 = p_X9_door := rfl
theorem l_X9_door : mL 144 = 3 := rfl
theorem e_X9_useless : mP 145 = p_X9_useless := rfl
theorem l_X9_useless : mL 145 = 3 := rfl
theorem e_X9_bare : mP 146 = p_X9_bare := rfl
theorem l_X9_bare : mL 146 = 4 := rfl
theorem e_X9_owned : mP 147 = p_X9_owned := rfl
theorem l_X9_owned : mL 147 = 3 := rfl
theorem e_X9_now : mP 148 = p_X9_now := rfl
theorem l_X9_now : mL 148 = 2 := rfl
theorem e_X9_notes : mP 149 = p_X9_notes := rfl
theorem l_X9_notes : mL 149 = 2 := rfl
theorem e_X9_hasOne : mP 150 = p_X9_hasOne := rfl
theorem l_X9_hasOne : mL 150 = 5 := rfl
theorem e_X9_lays : mP 151 = p_X9_lays := rfl
theorem l_X9_lays : mL 151 = 3 := rfl
theorem e_X9_takes_ : mP 152 = p_X9_takes_ := rfl
theorem l_X9_takes_ : mL 152 = 3 := rfl
theorem e_X9_rescales : mP 153 = p_X9_rescales := rfl
theorem l_X9_rescales : mL 153 = 7 := rfl
theorem e_X9_undo : mP 154 = p_X9_undo := rfl
theorem l_X9_undo : mL 154 = 2 := rfl
theorem e_X9_canHave : mP 155 = p_X9_canHave := rfl
theorem l_X9_canHave : mL 155 = 14 := rfl
theorem e_X9_housedSet : mP 156 = p_X9_housedSet := rfl
theorem l_X9_housedSet : mL 156 = 3 := rfl
theorem e_X9_housed : mP 157 = p_X9_housed := rfl
theorem l_X9_housed : mL 157 = 3 := rfl
theorem e_X9_laying : mP 158 = p_X9_laying := rfl
theorem l_X9_laying : mL 158 = 7 := rfl
theorem e_X9_tries : mP 159 = p_X9_tries := rfl
theorem l_X9_tries : mL 159 = 3 := rfl
theorem e_X9_forget : mP 160 = p_X9_forget := rfl
theorem l_X9_forget : mL 160 = 2 := rfl
theorem e_X9_mayBeAt : mP 161 = p_X9_mayBeAt := rfl
theorem l_X9_mayBeAt : mL 161 = 6 := rfl
theorem e_X9_mayBe : mP 162 = p_X9_mayBe := rfl
theorem l_X9_mayBe : mL 162 = 6 := rfl
theorem e_X9_worst : mP 163 = p_X9_worst := rfl
theorem l_X9_worst : mL 163 = 8 := rfl
theorem e_X9_next : mP 164 = p_X9_next := rfl
theorem l_X9_next : mL 164 = 5 := rfl
theorem e_X9_fitsAt : mP 165 = p_X9_fitsAt := rfl
theorem l_X9_fitsAt : mL 165 = 5 := rfl
theorem e_X9_bestScale : mP 166 = p_X9_bestScale := rfl
theorem l_X9_bestScale : mL 166 = 4 := rfl
theorem e_X9_fitsHim : mP 167 = p_X9_fitsHim := rfl
theorem l_X9_fitsHim : mL 167 = 5 := rfl
theorem e_X9_oneMore : mP 168 = p_X9_oneMore := rfl
theorem l_X9_oneMore : mL 168 = 5 := rfl
theorem e_X9_isIn : mP 169 = p_X9_isIn := rfl
theorem l_X9_isIn : mL 169 = 9 := rfl
theorem e_X9_isOrder : mP 170 = p_X9_isOrder := rfl
theorem l_X9_isOrder : mL 170 = 6 := rfl
theorem e_X9_carried : mP 171 = p_X9_carried := rfl
theorem l_X9_carried : mL 171 = 7 := rfl
theorem e_X9_gcd : mP 172 = p_X9_gcd := rfl
theorem l_X9_gcd : mL 172 = 10 := rfl
theorem e_X9_mean : mP 173 = p_X9_mean := rfl
theorem l_X9_mean : mL 173 = 9 := rfl
theorem e_X9_turnsOfAll : mP 174 = p_X9_turnsOfAll := rfl
theorem l_X9_turnsOfAll : mL 174 = 3 := rfl
theorem e_X9_share : mP 175 = p_X9_share := rfl
theorem l_X9_share : mL 175 = 11 := rfl
theorem e_X9_power : mP 176 = p_X9_power := rfl
theorem l_X9_power : mL 176 = 4 := rfl
theorem e_X9_choose : mP 177 = p_X9_choose := rfl
theorem l_X9_choose : mL 177 = 4 := rfl
theorem e_X9_odds : mP 178 = p_X9_odds := rfl
theorem l_X9_odds : mL 178 = 8 := rfl
theorem e_X9_rate : mP 179 = p_X9_rate := rfl
theorem l_X9_rate : mL 179 = 6 := rfl
theorem e_X9_keep : mP 180 = p_X9_keep := rfl
theorem l_X9_keep : mL 180 = 3 := rfl
theorem e_X9_back : mP 181 = p_X9_back := rfl
theorem l_X9_back : mL 181 = 3 := rfl
theorem e_X9_count : mP 182 = p_X9_count := rfl
theorem l_X9_count : mL 182 = 2 := rfl
theorem e_X9_trace : mP 183 = p_X9_trace := rfl
theorem l_X9_trace : mL 183 = 1 := rfl
theorem e_J6_bitCount_0f7a4 : mP 184 = p_J6_bitCount_0f7a4 := rfl
theorem l_J6_bitCount_0f7a4 : mL 184 = 1 := rfl
theorem e_J9_max_7cf53 : mP 185 = p_J9_max_7cf53 := rfl
theorem l_J9_max_7cf53 : mL 185 = 2 := rfl
theorem e_J9_min_7cf53 : mP 186 = p_J9_min_7cf53 := rfl
theorem l_J9_min_7cf53 : mL 186 = 2 := rfl
theorem e_J7_fill_53178 : mP 187 = p_J7_fill_53178 := rfl
theorem l_J7_fill_53178 : mL 187 = 4 := rfl
end
section
/-! THE ABSTRACT MACHINE: values are the machine's, a reference is the number of a cell in the world's list -/
abbrev AE : Type := (Nat × vp_A) ⊕ (Nat × List Value)
abbrev AW : Type := List AE
abbrev AR : Type := Option Value × AW
def st1 (ls : List Value) (i : Nat) (v : Value) : List Value := match i with
  | 0 => ls.set 0 v
  | j + 1 => match ls[j]? with
    | some (.long _) => (ls.set j .null).set (j + 1) v
    | some (.double _) => (ls.set j .null).set (j + 1) v
    | _ => ls.set (j + 1) v
def st2 (ls : List Value) (i : Nat) (v : Value) : List Value := (st1 ls i v).set (i + 1) .null
def swl (x : Int32) (dft : Nat) : List (Int32 × Nat) → Nat
  | [] => dft
  | (k, t) :: r => if x = k then t else swl x dft r
/-- the simple instructions: no cell is written, no condition but a branch's -/
def nx1 (row : Row) (i : Nat) (ls st : List Value) (w : AW) : Option (Nat × List Value × List Value) :=
  match row with
  | (_, ins, a, b, z, zl, sw, _) =>
  match ins with
  | .iconst _ => some (i + 1, ls, .int z :: st)
  | .bipush _ => some (i + 1, ls, .int z :: st)
  | .sipush _ => some (i + 1, ls, .int z :: st)
  | .ldc _ => some (i + 1, ls, .int z :: st)
  | .ldc_w _ => some (i + 1, ls, .int z :: st)
  | .lconst _ => some (i + 1, ls, .long zl :: st)
  | .ldc2_w _ => some (i + 1, ls, .long zl :: st)
  | .iload _ => match ls[a]? with | some (.int x) => some (i + 1, ls, .int x :: st) | _ => none
  | .iload_n _ => match ls[a]? with | some (.int x) => some (i + 1, ls, .int x :: st) | _ => none
  | .lload _ => match ls[a]? with | some (.long x) => some (i + 1, ls, .long x :: st) | _ => none
  | .lload_n _ => match ls[a]? with | some (.long x) => some (i + 1, ls, .long x :: st) | _ => none
  | .aload _ => match ls[a]? with | some (.ref x) => some (i + 1, ls, .ref x :: st) | _ => none
  | .aload_n _ => match ls[a]? with | some (.ref x) => some (i + 1, ls, .ref x :: st) | _ => none
  | .istore _ => match st with | .int x :: st => some (i + 1, st1 ls a (.int x), st) | _ => none
  | .istore_n _ => match st with | .int x :: st => some (i + 1, st1 ls a (.int x), st) | _ => none
  | .astore _ => match st with | .ref x :: st => some (i + 1, st1 ls a (.ref x), st) | _ => none
  | .astore_n _ => match st with | .ref x :: st => some (i + 1, st1 ls a (.ref x), st) | _ => none
  | .lstore _ => match st with | .long x :: st => some (i + 1, st2 ls a (.long x), st) | _ => none
  | .lstore_n _ => match st with | .long x :: st => some (i + 1, st2 ls a (.long x), st) | _ => none
  | .iinc _ _ => match ls[a]? with | some (.int x) => some (i + 1, st1 ls a (.int (x + z)), st) | _ => none
  | .iadd => match st with | .int y :: .int x :: st => some (i + 1, ls, .int (x + y) :: st) | _ => none
  | .isub => match st with | .int y :: .int x :: st => some (i + 1, ls, .int (x - y) :: st) | _ => none
  | .imul => match st with | .int y :: .int x :: st => some (i + 1, ls, .int (x * y) :: st) | _ => none
  | .iand => match st with | .int y :: .int x :: st => some (i + 1, ls, .int (x &&& y) :: st) | _ => none
  | .ior => match st with | .int y :: .int x :: st => some (i + 1, ls, .int (x ||| y) :: st) | _ => none
  | .ixor => match st with | .int y :: .int x :: st => some (i + 1, ls, .int (x ^^^ y) :: st) | _ => none
  | .ishl => match st with | .int y :: .int x :: st => some (i + 1, ls, .int (x <<< (y &&& 31)) :: st) | _ => none
  | .ishr => match st with | .int y :: .int x :: st => some (i + 1, ls, .int (x >>> (y &&& 31)) :: st) | _ => none
  | .iushr => match st with | .int y :: .int x :: st => some (i + 1, ls, .int ((x.toUInt32 >>> (y.toUInt32 &&& Int32.toUInt32 31)).toInt32) :: st) | _ => none
  | .ladd => match st with | .long y :: .long x :: st => some (i + 1, ls, .long (x + y) :: st) | _ => none
  | .lmul => match st with | .long y :: .long x :: st => some (i + 1, ls, .long (x * y) :: st) | _ => none
  | .lcmp => match st with | .long y :: .long x :: st => some (i + 1, ls, .int (lg_cmp x y) :: st) | _ => none
  | .i2l => match st with | .int x :: st => some (i + 1, ls, .long x.toInt64 :: st) | _ => none
  | .l2i => match st with | .long x :: st => some (i + 1, ls, .int x.toInt32 :: st) | _ => none
  | .i2c => match st with | .int x :: st => some (i + 1, ls, .int (x.toUInt32 % 65536).toInt32 :: st) | _ => none
  | .dup => match st with | .int x :: st => some (i + 1, ls, .int x :: .int x :: st) | .ref x :: st => some (i + 1, ls, .ref x :: .ref x :: st) | _ => none
  | .dup2 => match st with | .int x :: .ref y :: st => some (i + 1, ls, .int x :: .ref y :: .int x :: .ref y :: st) | _ => none
  | .pop => match st with | .int _ :: st => some (i + 1, ls, st) | _ => none
  | .goto _ => some (a, ls, st)
  | .ifCond .eq _ => match st with | .int x :: st => some (if x = 0 then a else i + 1, ls, st) | _ => none
  | .ifCond .ne _ => match st with | .int x :: st => some (if x = 0 then i + 1 else a, ls, st) | _ => none
  | .ifCond .lt _ => match st with | .int x :: st => some (if x < 0 then a else i + 1, ls, st) | _ => none
  | .ifCond .ge _ => match st with | .int x :: st => some (if 0 ≤ x then a else i + 1, ls, st) | _ => none
  | .ifCond .gt _ => match st with | .int x :: st => some (if 0 < x then a else i + 1, ls, st) | _ => none
  | .ifCond .le _ => match st with | .int x :: st => some (if x ≤ 0 then a else i + 1, ls, st) | _ => none
  | .if_icmp .eq _ => match st with | .int y :: .int x :: st => some (if x = y then a else i + 1, ls, st) | _ => none
  | .if_icmp .ne _ => match st with | .int y :: .int x :: st => some (if x = y then i + 1 else a, ls, st) | _ => none
  | .if_icmp .lt _ => match st with | .int y :: .int x :: st => some (if x < y then a else i + 1, ls, st) | _ => none
  | .if_icmp .ge _ => match st with | .int y :: .int x :: st => some (if y ≤ x then a else i + 1, ls, st) | _ => none
  | .if_icmp .gt _ => match st with | .int y :: .int x :: st => some (if y < x then a else i + 1, ls, st) | _ => none
  | .if_icmp .le _ => match st with | .int y :: .int x :: st => some (if x ≤ y then a else i + 1, ls, st) | _ => none
  | .tableswitch _ _ _ _ => match st with | .int x :: st => some (swl x a sw, ls, st) | _ => none
  | .lookupswitch _ _ => match st with | .int x :: st => some (swl x a sw, ls, st) | _ => none
  | .getfield _ => match st with
    | .ref k :: st => match w[k]? with
      | some (.inr (ci, fs)) => match Nat.beq ci a with
        | true => match fs[b]? with | some v => some (i + 1, ls, v :: st) | none => none
        | false => none
      | _ => none
    | _ => none
  | _ => none
/-- a class's fields' types, and a new object's fields -/
def fty (ci : Nat) : Nat → FieldType := match ci with
  | 0 => tyX0 | 1 => tyX1 | 2 => tyX2 | 3 => tyX3 | 4 => tyX4 | 5 => tyX5 | 6 => tyX6 | 7 => tyX7 | 8 => tyX8 | _ => tyX9
def fds (ci n : Nat) : List Value := (List.range n).map (fun k => defaultValue (fty ci k))
def low0 (j : Nat) : Int32 := match j with | 0 => 4 | 1 => 20 | _ => 21
def high0 (j : Nat) : Int32 := match j with | 0 => 6 | 1 => 24 | _ => 40
def rNar (rt : Option FieldType) (v : Int32) : Bool := match rt with
  | some .boolean => decide (v = 0 ∨ v = 1)
  | some .int => true
  | _ => false
/-- an index is in its row -/
def vin (j : Int32) (n : Nat) : Bool := decide (0 ≤ j ∧ j.toNatClampNeg < n)
theorem vin_iff {j : Int32} {n : Nat} : vin j n = true ↔ vp_in j n := by
  unfold vin vp_in
  rw [decide_eq_true_eq, not_or, Nat.not_le, Int32.not_lt]
def spr : List Value → List Value
  | [] => []
  | .long x :: l => .long x :: .null :: spr l
  | .double x :: l => .double x :: .null :: spr l
  | v :: l => v :: spr l
def ent (n : Nat) (args : List Value) : List Value := spr args ++ List.replicate (n - (spr args).length) .null
/-- what the others do: on at the next instruction (stack, world), return, or call (depth, method, arguments, the rest of the stack) -/
abbrev A2 : Type := (List Value × AW) ⊕ (Option Value) ⊕ (Nat × Nat × List Value × List Value)
def nx2 (row : Row) (rt : Option FieldType) (d : Nat) (st : List Value) (w : AW) : Option A2 :=
  match row with
  | (_, ins, a, b, _, _, _, _) =>
  match ins with
  | .idiv => match st with | .int y :: .int x :: st => if y = 0 then none else some (.inl ((.int (x / y) :: st), w)) | _ => none
  | .irem => match st with | .int y :: .int x :: st => if y = 0 then none else some (.inl ((.int (x - x / y * y) :: st), w)) | _ => none
  | .ldiv => match st with | .long y :: .long x :: st => if y = 0 then none else some (.inl ((.long (x / y) :: st), w)) | _ => none
  | .lrem => match st with | .long y :: .long x :: st => if y = 0 then none else some (.inl ((.long (x - x / y * y) :: st), w)) | _ => none
  | .putfield _ => match st with
    | v :: .ref k :: st => match w[k]? with
      | some (.inr (ci, fs)) => if ci = a ∧ b < fs.length ∧ narrow (fty a b) v = v ∧ Jvm.fits (fty a b) v = true then some (.inl (st, (w.set k (.inr (ci, fs.set b v))))) else none
      | _ => none
    | _ => none
  | .getstatic _ => some (.inl ((.ref (1000000 + a) :: st), w))
  | .iaload => match st with
    | .int j :: .ref k :: st => if k = 1000000 then (if vin j 3 = true then some (.inl ((.int (low0 j.toNatClampNeg) :: st), w)) else none) else if k = 1000001 then (if vin j 3 = true then some (.inl ((.int (high0 j.toNatClampNeg) :: st), w)) else none) else
      match w[k]? with
      | some (.inl (t, n, .inl f)) => if t = 0 ∧ vin j n = true then some (.inl ((.int (f j.toNatClampNeg) :: st), w)) else none
      | _ => none
    | _ => none
  | .baload => match st with
    | .int j :: .ref k :: st => match w[k]? with
      | some (.inl (t, n, .inl f)) => if t = 1 ∧ vin j n = true then some (.inl ((.int (f j.toNatClampNeg) :: st), w)) else none
      | _ => none
    | _ => none
  | .caload => match st with
    | .int j :: .ref k :: st => match w[k]? with
      | some (.inl (t, n, .inl f)) => if t = 2 ∧ vin j n = true then some (.inl ((.int (f j.toNatClampNeg) :: st), w)) else none
      | _ => none
    | _ => none
  | .aaload => match st with
    | .int j :: .ref k :: st => match w[k]? with
      | some (.inl (t, n, .inr (.inr (.inr (.inr f))))) => if t = 3 ∧ vin j n = true then (match f j.toNatClampNeg with | some q => some (.inl ((.ref q :: st), w)) | none => none) else none
      | _ => none
    | _ => none
  | .iastore => match st with
    | .int x :: .int j :: .ref k :: st => match w[k]? with
      | some (.inl (t, n, .inl f)) => if t = 0 ∧ vin j n = true then some (.inl (st, (w.set k (.inl (t, n, .inl (upd f j.toNatClampNeg x)))))) else none
      | _ => none
    | _ => none
  | .bastore => match st with
    | .int x :: .int j :: .ref k :: st => match w[k]? with
      | some (.inl (t, n, .inl f)) => if t = 1 ∧ vin j n = true ∧ (x = 0 ∨ x = 1) then some (.inl (st, (w.set k (.inl (t, n, .inl (upd f j.toNatClampNeg x)))))) else none
      | _ => none
    | _ => none
  | .castore => match st with
    | .int x :: .int j :: .ref k :: st => match w[k]? with
      | some (.inl (t, n, .inl f)) => if t = 2 ∧ vin j n = true ∧ vp_nar .char x = x then some (.inl (st, (w.set k (.inl (t, n, .inl (upd f j.toNatClampNeg x)))))) else none
      | _ => none
    | _ => none
  | .aastore => match st with
    | .ref v :: .int j :: .ref k :: st => match w[v]? with
      | some (.inr (ci, _)) => match w[k]? with
        | some (.inl (t, n, .inr (.inr (.inr (.inr f))))) => if t = 3 ∧ ci = 4 ∧ vin j n = true then some (.inl (st, (w.set k (.inl (t, n, .inr (.inr (.inr (.inr (va_up f j.toNatClampNeg (some v)))))))))) else none
        | _ => none
      | _ => none
    | _ => none
  | .arraylength => match st with
    | .ref k :: st => match w[k]? with
      | some (.inl (t, n, .inl _)) => if t = 0 ∧ n < 1000 then some (.inl ((.int (Int32.ofNat n) :: st), w)) else none
      | _ => none
    | _ => none
  | .new _ => if w.length < 1000 then some (.inl ((.ref w.length :: st), (w ++ [.inr (a, fds a b)]))) else none
  | .newarray _ => match st with
    | .int n :: st => if ¬ n < 0 ∧ n.toNatClampNeg ≤ 1000 ∧ w.length < 1000 then some (.inl ((.ref w.length :: st), (w ++ [.inl (a, n.toNatClampNeg, .inl (fun _ => 0))]))) else none
    | _ => none
  | .anewarray _ => match st with
    | .int n :: st => if ¬ n < 0 ∧ n.toNatClampNeg ≤ 1000 ∧ w.length < 1000 then some (.inl ((.ref w.length :: st), (w ++ [.inl (3, n.toNatClampNeg, .inr (.inr (.inr (.inr (fun _ => none)))))]))) else none
    | _ => none
  | .ireturn => match st with | [.int v] => if rNar rt v = true then some (.inr (.inl (some (.int v)))) else none | _ => none
  | .lreturn => match st with | [.long v] => if rt = some .long then some (.inr (.inl (some (.long v)))) else none | _ => none
  | .areturn => match st with | [.ref v] => if rt = some (.object "TwoScales$Tale") then some (.inr (.inl (some (.ref v)))) else none | _ => none
  | .return_ => match st with | [] => if rt = none then some (.inr (.inl none)) else none | _ => none
  | .invokestatic _ => if a = 900 then (match st with
      | .int n :: .int dp :: .ref k1 :: .int sp :: .ref k0 :: st => match w[k0]?, w[k1]? with
        | some (.inl (t0, n0, .inl f)), some (.inl (t1, n1, .inl g)) => if t0 = 0 ∧ t1 = 0 ∧ 0 < d ∧ (st.map Value.category).sum ≤ 8 ∧ ¬ sp < 0 ∧ ¬ dp < 0 ∧ ¬ n < 0 ∧ sp.toNatClampNeg + n.toNatClampNeg ≤ n0 ∧ dp.toNatClampNeg + n.toNatClampNeg ≤ n1 then some (.inl (st, (w.set k1 (.inl (t1, n1, .inl (va_cpy f g sp.toNatClampNeg dp.toNatClampNeg n.toNatClampNeg)))))) else none
        | _, _ => none
      | _ => none)
    else match d with
    | 0 => none
    | d' + 1 => if b ≤ st.length ∧ ((st.drop b).map Value.category).sum ≤ 8 ∧ (spr (st.take b).reverse).length ≤ mL a then some (.inr (.inr (d', a, (st.take b).reverse, st.drop b))) else none
  | .invokevirtual _ => match d with
    | 0 => none
    | d' + 1 => match st.drop b with
      | .ref k :: rest => match w[k]? with
        | some (.inr (ci, _)) => if b ≤ st.length ∧ (vwCl[ci]?).map (fun q => q.1) = some (mY a).cls ∧ (rest.map Value.category).sum ≤ 8 ∧ (spr (.ref k :: (st.take b).reverse)).length ≤ mL a then some (.inr (.inr (d', a, .ref k :: (st.take b).reverse, rest))) else none
        | _ => none
      | _ => none
  | .invokespecial _ => match d with
    | 0 => none
    | d' + 1 => if a = 901 then (match st with
        | .ref _ :: rest => if (rest.map Value.category).sum ≤ 8 then some (.inl (rest, w)) else none
        | _ => none)
      else match st.drop b with
      | .ref k :: rest => if b ≤ st.length ∧ (rest.map Value.category).sum ≤ 8 ∧ (spr (.ref k :: (st.take b).reverse)).length ≤ mL a then some (.inr (.inr (d', a, .ref k :: (st.take b).reverse, rest))) else none
      | _ => none
  | _ => none
def run : Nat → Nat → Nat → Nat → List Value → List Value → AW → Option AR
  | 0, _, _, _, _, _, _ => none
  | n + 1, d, M, i, ls, st, w => match (mP M)[i]? with
    | none => none
    | some row => match nx1 row i ls st w with
      | some (i', ls', st') => run n d M i' ls' st' w
      | none => match nx2 row (mR M) d st w with
        | none => none
        | some (.inl (st', w')) => run n d M (i + 1) ls st' w'
        | some (.inr (.inl r)) => some (r, w)
        | some (.inr (.inr (d', M', args, rest))) => match run n d' M' 0 (ent (mL M') args) [] w with
          | none => none
          | some (r, w') => run n d M (i + 1) ls (r.toList ++ rest) w'
def Ev (d M i : Nat) (ls st : List Value) (w : AW) (r : Option Value) (w' : AW) : Prop := ∃ n, run n d M i ls st w = some (r, w')
end
section
/-! steps of the abstract machine -/
theorem run_s1 {n d M i : Nat} {ls st : List Value} {w : AW} {c : List Row} {row : Row} {i' : Nat} {ls' st' : List Value} (hc : mP M = c) (hr : c[i]? = some row) (h : nx1 row i ls st w = some (i', ls', st')) : run (n + 1) d M i ls st w = run n d M i' ls' st' w := by
  simp only [run, hc, hr, h]
theorem run_fuel : ∀ (n d M i : Nat) (ls st : List Value) (w : AW) (x : AR), run n d M i ls st w = some x → run (n + 1) d M i ls st w = some x := by
  intro n
  induction n with
  | zero => intro d M i ls st w x h; simp [run] at h
  | succ n ih =>
    intro d M i ls st w x h
    rw [run] at h ⊢
    cases hr : (mP M)[i]? with
    | none => rw [hr] at h; simp at h
    | some row =>
      rw [hr] at h
      simp only at h ⊢
      cases h1 : nx1 row i ls st w with
      | some q => obtain ⟨i', ls', st'⟩ := q; rw [h1] at h; simp only at h ⊢; exact ih _ _ _ _ _ _ _ h
      | none =>
        rw [h1] at h
        simp only at h ⊢
        cases h2 : nx2 row (mR M) d st w with
        | none => rw [h2] at h; simp at h
        | some q =>
          rw [h2] at h
          match q, h with
          | .inl (st', w'), h => simp only at h ⊢; exact ih _ _ _ _ _ _ _ h
          | .inr (.inl r), h => exact h
          | .inr (.inr (d', M', args, rest)), h =>
            simp only at h ⊢
            cases h3 : run n d' M' 0 (ent (mL M') args) [] w with
            | none => rw [h3] at h; simp at h
            | some q =>
              rw [h3] at h
              rw [ih _ _ _ _ _ _ _ h3]
              obtain ⟨r, w'⟩ := q
              simp only at h ⊢
              exact ih _ _ _ _ _ _ _ h
theorem run_fuel_le {n m d M i : Nat} {ls st : List Value} {w : AW} {x : AR} (hnm : n ≤ m) (h : run n d M i ls st w = some x) : run m d M i ls st w = some x := by
  induction hnm with
  | refl => exact h
  | step _ ih => exact run_fuel _ _ _ _ _ _ _ _ ih
section EV
variable {d M i : Nat} {ls st : List Value} {w w' : AW} {r : Option Value} {c : List Row} {row : Row}
theorem Ev.s1 {i' : Nat} {ls' st' : List Value} (hc : mP M = c) (hr : c[i]? = some row) (h : nx1 row i ls st w = some (i', ls', st')) (k : Ev d M i' ls' st' w r w') : Ev d M i ls st w r w' := by
  obtain ⟨n, hn⟩ := k
  exact ⟨n + 1, by rw [run_s1 hc hr h]; exact hn⟩
/-- several simple steps at once -/
def nxs (c : List Row) (w : AW) : Nat → Nat → List Value → List Value → Option (Nat × List Value × List Value)
  | 0, i, ls, st => some (i, ls, st)
  | k + 1, i, ls, st => match c[i]? with
    | none => none
    | some row => match nx1 row i ls st w with
      | none => none
      | some (i', ls', st') => nxs c w k i' ls' st'
theorem Ev.sn (hc : mP M = c) : ∀ (k : Nat) {i : Nat} {ls st : List Value} {i' : Nat} {ls' st' : List Value}, nxs c w k i ls st = some (i', ls', st') → Ev d M i' ls' st' w r w' → Ev d M i ls st w r w'
  | 0, i, ls, st, i', ls', st', h, k => by
    cases h
    exact k
  | n + 1, i, ls, st, i', ls', st', h, k => by
    rw [nxs] at h
    cases hr : c[i]? with
    | none => rw [hr] at h; cases h
    | some row =>
      rw [hr] at h
      simp only at h
      cases h1 : nx1 row i ls st w with
      | none => rw [h1] at h; cases h
      | some q => obtain ⟨a, b, e⟩ := q; rw [h1] at h; exact Ev.s1 hc hr h1 (Ev.sn hc n h k)
theorem Ev.br {i1 i2 : Nat} {ls' st' : List Value} {p : Prop} [hp : Decidable p] (hc : mP M = c) (hr : c[i]? = some row) (h : nx1 row i ls st w = some (if p then i1 else i2, ls', st')) (k1 : p → Ev d M i1 ls' st' w r w') (k2 : ¬ p → Ev d M i2 ls' st' w r w') : Ev d M i ls st w r w' := by
  refine Ev.s1 hc hr h ?_
  by_cases q : p
  · rw [if_pos q]; exact k1 q
  · rw [if_neg q]; exact k2 q
theorem Ev.go {st' : List Value} {w1 : AW} (hc : mP M = c) (hr : c[i]? = some row) (h1 : nx1 row i ls st w = none) (h2 : nx2 row (mR M) d st w = some (.inl (st', w1))) (k : Ev d M (i + 1) ls st' w1 r w') : Ev d M i ls st w r w' := by
  obtain ⟨n, hn⟩ := k
  exact ⟨n + 1, by simp only [run, hc, hr, h1, h2]; exact hn⟩
theorem Ev.ret (hc : mP M = c) (hr : c[i]? = some row) (h1 : nx1 row i ls st w = none) (h2 : nx2 row (mR M) d st w = some (.inr (.inl r))) : Ev d M i ls st w r w :=
  ⟨1, by simp only [run, hc, hr, h1, h2]⟩
theorem Ev.cl {d' M' : Nat} {args rest ls0 : List Value} {r1 : Option Value} {w1 : AW} (hc : mP M = c) (hr : c[i]? = some row) (h1 : nx1 row i ls st w = none) (h2 : nx2 row (mR M) d st w = some (.inr (.inr (d', M', args, rest)))) (he : ent (mL M') args = ls0) (hk : Ev d' M' 0 ls0 [] w r1 w1) (k : Ev d M (i + 1) ls (r1.toList ++ rest) w1 r w') : Ev d M i ls st w r w' := by
  subst he
  obtain ⟨n, hn⟩ := k
  obtain ⟨m, hm⟩ := hk
  refine ⟨max n m + 1, ?_⟩
  simp only [run, hc, hr, h1, h2, run_fuel_le (Nat.le_max_right n m) hm]
  exact run_fuel_le (Nat.le_max_left n m) hn
theorem Ev.wd {w2 : AW} (h : w = w2) (k : Ev d M i ls st w2 r w') : Ev d M i ls st w r w' := h ▸ k
theorem Ev.rd {r2 : Option Value} (h : r2 = r) (k : Ev d M i ls st w r2 w') : Ev d M i ls st w r w' := h ▸ k
variable {pc a b : Nat} {z : Int32} {zl : Int64} {sw : List (Int32 × Nat)} {ps : List Nat} {i' : Nat} {x y j : Int32} {s0 : List Value} {k n : Nat} {f : Nat → Int32}
theorem Ev.iald (hc : mP M = c) (hr : c[i]? = some (pc, .iaload, a, b, z, zl, sw, ps)) (hi : i + 1 = i') (hw : w[k]? = some (.inl (0, n, .inl f))) (hk : Nat.blt k 1000000 = true) (hj : vin j n = true) (q : Ev d M i' ls (.int (f j.toNatClampNeg) :: s0) w r w') : Ev d M i ls (.int j :: .ref k :: s0) w r w' := by
  subst hi
  have hk := Nat.blt_eq.mp hk
  refine Ev.go hc hr rfl ?_ q
  have e0 : ¬ k = 1000000 := by omega
  have e1 : ¬ k = 1000001 := by omega
  simp only [nx2, hw, hj, if_neg e0, if_neg e1]
  simp
theorem Ev.sald0 (hc : mP M = c) (hr : c[i]? = some (pc, .iaload, a, b, z, zl, sw, ps)) (hi : i + 1 = i') (hj : vin j 3 = true) (q : Ev d M i' ls (.int (low0 j.toNatClampNeg) :: s0) w r w') : Ev d M i ls (.int j :: .ref 1000000 :: s0) w r w' := by
  subst hi
  refine Ev.go hc hr rfl ?_ q
  simp only [nx2, hj, if_true]
theorem Ev.sald1 (hc : mP M = c) (hr : c[i]? = some (pc, .iaload, a, b, z, zl, sw, ps)) (hi : i + 1 = i') (hj : vin j 3 = true) (q : Ev d M i' ls (.int (high0 j.toNatClampNeg) :: s0) w r w') : Ev d M i ls (.int j :: .ref 1000001 :: s0) w r w' := by
  subst hi
  refine Ev.go hc hr rfl ?_ q
  simp only [nx2, hj, if_true]
  rfl
theorem Ev.bald (hc : mP M = c) (hr : c[i]? = some (pc, .baload, a, b, z, zl, sw, ps)) (hi : i + 1 = i') (hw : w[k]? = some (.inl (1, n, .inl f))) (hj : vin j n = true) (q : Ev d M i' ls (.int (f j.toNatClampNeg) :: s0) w r w') : Ev d M i ls (.int j :: .ref k :: s0) w r w' := by
  subst hi
  refine Ev.go hc hr rfl ?_ q
  simp only [nx2, hw, hj]
  simp
theorem Ev.cald (hc : mP M = c) (hr : c[i]? = some (pc, .caload, a, b, z, zl, sw, ps)) (hi : i + 1 = i') (hw : w[k]? = some (.inl (2, n, .inl f))) (hj : vin j n = true) (q : Ev d M i' ls (.int (f j.toNatClampNeg) :: s0) w r w') : Ev d M i ls (.int j :: .ref k :: s0) w r w' := by
  subst hi
  refine Ev.go hc hr rfl ?_ q
  simp only [nx2, hw, hj]
  simp
theorem Ev.aald {fo : Nat → Option Nat} {v : Nat} (hc : mP M = c) (hr : c[i]? = some (pc, .aaload, a, b, z, zl, sw, ps)) (hi : i + 1 = i') (hw : w[k]? = some (.inl (3, n, .inr (.inr (.inr (.inr fo)))))) (hj : vin j n = true) (hv : fo j.toNatClampNeg = some v) (q : Ev d M i' ls (.ref v :: s0) w r w') : Ev d M i ls (.int j :: .ref k :: s0) w r w' := by
  subst hi
  refine Ev.go hc hr rfl ?_ q
  simp only [nx2, hw, hj, hv]
  simp
theorem Ev.iast {w1 : AW} (hc : mP M = c) (hr : c[i]? = some (pc, .iastore, a, b, z, zl, sw, ps)) (hi : i + 1 = i') (hw : w[k]? = some (.inl (0, n, .inl f))) (hj : vin j n = true) (h1 : w.set k (.inl (0, n, .inl (upd f j.toNatClampNeg x))) = w1) (q : Ev d M i' ls s0 w1 r w') : Ev d M i ls (.int x :: .int j :: .ref k :: s0) w r w' := by
  subst hi
  subst h1
  refine Ev.go hc hr rfl ?_ q
  simp only [nx2, hw, hj]
  simp
theorem Ev.bast {w1 : AW} (hc : mP M = c) (hr : c[i]? = some (pc, .bastore, a, b, z, zl, sw, ps)) (hi : i + 1 = i') (hw : w[k]? = some (.inl (1, n, .inl f))) (hj : vin j n = true) (hx : x = 0 ∨ x = 1) (h1 : w.set k (.inl (1, n, .inl (upd f j.toNatClampNeg x))) = w1) (q : Ev d M i' ls s0 w1 r w') : Ev d M i ls (.int x :: .int j :: .ref k :: s0) w r w' := by
  subst hi
  subst h1
  refine Ev.go hc hr rfl ?_ q
  simp only [nx2, hw, hj]
  simp [hx]
theorem Ev.cast {w1 : AW} (hc : mP M = c) (hr : c[i]? = some (pc, .castore, a, b, z, zl, sw, ps)) (hi : i + 1 = i') (hw : w[k]? = some (.inl (2, n, .inl f))) (hj : vin j n = true) (hx : vp_nar .char x = x) (h1 : w.set k (.inl (2, n, .inl (upd f j.toNatClampNeg x))) = w1) (q : Ev d M i' ls s0 w1 r w') : Ev d M i ls (.int x :: .int j :: .ref k :: s0) w r w' := by
  subst hi
  subst h1
  refine Ev.go hc hr rfl ?_ q
  simp only [nx2, hw, hj]
  simp [hx]
theorem Ev.put {w1 : AW} {v : Value} {fs : List Value} (hc : mP M = c) (hr : c[i]? = some (pc, .putfield n, a, b, z, zl, sw, ps)) (hi : i + 1 = i') (hw : w[k]? = some (.inr (a, fs))) (hb : Nat.blt b fs.length = true) (hn : narrow (fty a b) v = v) (hf : Jvm.fits (fty a b) v = true) (h1 : w.set k (.inr (a, fs.set b v)) = w1) (q : Ev d M i' ls s0 w1 r w') : Ev d M i ls (v :: .ref k :: s0) w r w' := by
  subst hi
  subst h1
  refine Ev.go hc hr rfl ?_ q
  simp only [nx2, hw]
  rw [if_pos ⟨trivial, Nat.blt_eq.mp hb, hn, hf⟩]
theorem Ev.alen (hc : mP M = c) (hr : c[i]? = some (pc, .arraylength, a, b, z, zl, sw, ps)) (hi : i + 1 = i') (hw : w[k]? = some (.inl (0, n, .inl f))) (hn : Nat.blt n 1000 = true) (q : Ev d M i' ls (.int (Int32.ofNat n) :: s0) w r w') : Ev d M i ls (.ref k :: s0) w r w' := by
  subst hi
  refine Ev.go hc hr rfl ?_ q
  simp only [nx2, hw]
  rw [if_pos ⟨trivial, Nat.blt_eq.mp hn⟩]
theorem Ev.idiv (hc : mP M = c) (hr : c[i]? = some (pc, .idiv, a, b, z, zl, sw, ps)) (hi : i + 1 = i') (hy : ¬ y = 0) (q : Ev d M i' ls (.int (x / y) :: s0) w r w') : Ev d M i ls (.int y :: .int x :: s0) w r w' := by
  subst hi
  refine Ev.go hc hr rfl ?_ q
  simp only [nx2]
  rw [if_neg hy]
theorem Ev.irem (hc : mP M = c) (hr : c[i]? = some (pc, .irem, a, b, z, zl, sw, ps)) (hi : i + 1 = i') (hy : ¬ y = 0) (q : Ev d M i' ls (.int (x - x / y * y) :: s0) w r w') : Ev d M i ls (.int y :: .int x :: s0) w r w' := by
  subst hi
  refine Ev.go hc hr rfl ?_ q
  simp only [nx2]
  rw [if_neg hy]
theorem Ev.ldiv {x y : Int64} (hc : mP M = c) (hr : c[i]? = some (pc, .ldiv, a, b, z, zl, sw, ps)) (hi : i + 1 = i') (hy : ¬ y = 0) (q : Ev d M i' ls (.long (x / y) :: s0) w r w') : Ev d M i ls (.long y :: .long x :: s0) w r w' := by
  subst hi
  refine Ev.go hc hr rfl ?_ q
  simp only [nx2]
  rw [if_neg hy]
theorem Ev.lrem {x y : Int64} (hc : mP M = c) (hr : c[i]? = some (pc, .lrem, a, b, z, zl, sw, ps)) (hi : i + 1 = i') (hy : ¬ y = 0) (q : Ev d M i' ls (.long (x - x / y * y) :: s0) w r w') : Ev d M i ls (.long y :: .long x :: s0) w r w' := by
  subst hi
  refine Ev.go hc hr rfl ?_ q
  simp only [nx2]
  rw [if_neg hy]
theorem Ev.iret {v : Int32} {rt : Option FieldType} (hc : mP M = c) (hr : c[i]? = some (pc, .ireturn, a, b, z, zl, sw, ps)) (hm : mR M = rt) (hn : rNar rt v = true) (h : v = x) (hw : w = w') : Ev d M i ls [.int v] w (some (.int x)) w' := by
  subst h
  subst hw
  subst hm
  refine Ev.ret hc hr rfl ?_
  simp only [nx2]
  rw [if_pos hn]
theorem Ev.lret {v x : Int64} (hc : mP M = c) (hr : c[i]? = some (pc, .lreturn, a, b, z, zl, sw, ps)) (hm : mR M = some .long) (h : v = x) (hw : w = w') : Ev d M i ls [.long v] w (some (.long x)) w' := by
  subst h
  subst hw
  refine Ev.ret hc hr rfl ?_
  simp only [nx2]
  rw [if_pos hm]
theorem Ev.vret (hc : mP M = c) (hr : c[i]? = some (pc, .return_, a, b, z, zl, sw, ps)) (hm : mR M = none) (hw : w = w') : Ev d M i ls [] w none w' := by
  subst hw
  refine Ev.ret hc hr rfl ?_
  simp only [nx2]
  rw [if_pos hm]
theorem Ev.aret (hc : mP M = c) (hr : c[i]? = some (pc, .areturn, a, b, z, zl, sw, ps)) (hm : mR M = some (.object "TwoScales$Tale")) (hw : w = w') : Ev d M i ls [.ref k] w (some (.ref k)) w' := by
  subst hw
  refine Ev.ret hc hr rfl ?_
  simp only [nx2]
  rw [if_pos hm]
theorem am_take {as rest : List Value} : (as.reverse ++ rest).take as.length = as.reverse := by
  rw [← List.length_reverse, List.take_left]
theorem am_drop {as rest : List Value} : (as.reverse ++ rest).drop as.length = rest := by
  rw [← List.length_reverse, List.drop_left]
/-- calls: the arguments 'as', what they leave on the stack 's0' -/
theorem Ev.clS {as ls0 : List Value} {r1 : Option Value} {w1 : AW} {s1 : List Value} (hc : mP M = c) (hr : c[i]? = some (pc, .invokestatic n, a, b, z, zl, sw, ps)) (ha : Nat.blt a 900 = true) (hi : i + 1 = i') (hst : st = as.reverse ++ s0) (hb : as.length = b) (hcat : Nat.ble (s0.map Value.category).sum 8 = true) (hsp : Nat.ble (spr as).length (mL a) = true) (he : ent (mL a) as = ls0) (hk : Ev d a 0 ls0 [] w r1 w1) (hs : r1.toList ++ s0 = s1) (q : Ev (d + 1) M i' ls s1 w1 r w') : Ev (d + 1) M i ls st w r w' := by
  subst hi
  subst hst
  subst hs
  subst hb
  have ha := Nat.blt_eq.mp ha
  refine Ev.cl hc hr rfl (d' := d) (M' := a) (args := as) (rest := s0) ?_ he hk q
  simp only [nx2]
  rw [if_neg (by omega), am_take, am_drop, List.reverse_reverse, if_pos ⟨by simp, Nat.ble_eq.mp hcat, Nat.ble_eq.mp hsp⟩]
theorem Ev.clV {as ls0 : List Value} {r1 : Option Value} {w1 : AW} {s1 : List Value} {ci : Nat} {fs : List Value} (hc : mP M = c) (hr : c[i]? = some (pc, .invokevirtual n, a, b, z, zl, sw, ps)) (hi : i + 1 = i') (hst : st = as.reverse ++ (.ref k :: s0)) (hb : as.length = b) (hw : w[k]? = some (.inr (ci, fs))) (hcls : (vwCl[ci]?).map (fun q => q.1) = some (mY a).cls) (hcat : Nat.ble (s0.map Value.category).sum 8 = true) (hsp : Nat.ble (spr (.ref k :: as)).length (mL a) = true) (he : ent (mL a) (.ref k :: as) = ls0) (hk : Ev d a 0 ls0 [] w r1 w1) (hs : r1.toList ++ s0 = s1) (q : Ev (d + 1) M i' ls s1 w1 r w') : Ev (d + 1) M i ls st w r w' := by
  subst hi
  subst hst
  subst hs
  subst hb
  refine Ev.cl hc hr rfl (d' := d) (M' := a) (args := .ref k :: as) (rest := s0) ?_ he hk q
  simp only [nx2]
  rw [am_drop, am_take, List.reverse_reverse]
  simp only [hw]
  rw [if_pos ⟨by simp, hcls, Nat.ble_eq.mp hcat, Nat.ble_eq.mp hsp⟩]
theorem Ev.clI {as ls0 : List Value} {w1 : AW} (hc : mP M = c) (hr : c[i]? = some (pc, .invokespecial n, a, b, z, zl, sw, ps)) (ha : Nat.blt a 900 = true) (hi : i + 1 = i') (hst : st = as.reverse ++ (.ref k :: s0)) (hb : as.length = b) (hcat : Nat.ble (s0.map Value.category).sum 8 = true) (hsp : Nat.ble (spr (.ref k :: as)).length (mL a) = true) (he : ent (mL a) (.ref k :: as) = ls0) (hk : Ev d a 0 ls0 [] w none w1) (q : Ev (d + 1) M i' ls s0 w1 r w') : Ev (d + 1) M i ls st w r w' := by
  subst hi
  subst hst
  subst hb
  have ha := Nat.blt_eq.mp ha
  refine Ev.cl hc hr rfl (d' := d) (M' := a) (args := .ref k :: as) (rest := s0) ?_ he hk q
  simp only [nx2]
  rw [am_drop, am_take, List.reverse_reverse, if_neg (by omega)]
  simp only []
  rw [if_pos ⟨by simp, Nat.ble_eq.mp hcat, Nat.ble_eq.mp hsp⟩]
theorem Ev.copy {k0 k1 n0 n1 : Nat} {f0 f1 : Nat → Int32} {sp dp nn : Int32} {w1 : AW} (hc : mP M = c) (hr : c[i]? = some (pc, .invokestatic n, 900, b, z, zl, sw, ps)) (hi : i + 1 = i') (hw0 : w[k0]? = some (.inl (0, n0, .inl f0))) (hw1 : w[k1]? = some (.inl (0, n1, .inl f1))) (hcat : Nat.ble (s0.map Value.category).sum 8 = true) (h1 : ¬ sp < 0) (h2 : ¬ dp < 0) (h3 : ¬ nn < 0) (h4 : sp.toNatClampNeg + nn.toNatClampNeg ≤ n0) (h5 : dp.toNatClampNeg + nn.toNatClampNeg ≤ n1) (hx : w.set k1 (.inl (0, n1, .inl (va_cpy f0 f1 sp.toNatClampNeg dp.toNatClampNeg nn.toNatClampNeg))) = w1) (q : Ev (d + 1) M i' ls s0 w1 r w') : Ev (d + 1) M i ls (.int nn :: .int dp :: .ref k1 :: .int sp :: .ref k0 :: s0) w r w' := by
  subst hi
  subst hx
  refine Ev.go hc hr rfl ?_ q
  simp only [nx2, hw0, hw1]
  rw [if_pos trivial, if_pos ⟨trivial, trivial, Nat.succ_pos d, Nat.ble_eq.mp hcat, h1, h2, h3, h4, h5⟩]
end EV
/-- what is less known: a local that is not known may be anything -/
def lle (a b : List Value) : Prop := a.length = b.length ∧ ∀ (k : Nat) (v : Value), a[k]? = some v → v ≠ .null → b[k]? = some v
end
section
/-! THE WORLDS: g holds all the ints (a register: a row of ints), tr the trace -/
def rowsC (j : Nat) : Option Nat := if j < 10 then some (36 + 4 * j) else none
def imgsC (j : Nat) : Option Nat := if j < 2 then some (87 + 4 * j) else none
def wX (a b : Nat) (g : Nat → Nat → Int32) (tr : Int64) : AW := [
  .inr (8, [.ref 1, .ref 16, .ref 34, .ref 76, .ref 77, .ref 78, .ref 81, .ref 83, .ref 86, .long tr]),
  .inr (6, [.ref 2, .int (g 0 0), .ref a, .int (g 0 1), .int (g 0 2), .int (g 0 3), .int (g 0 4), .int (g 0 5), .int (g 0 6)]),
  .inl (2, 200, .inl (g 1)),
  .inr (5, [.ref 4, .ref 5, .int (g 22 0), .ref 6, .ref 7, .ref 8, .ref 9, .int (g 22 1), .ref 10, .ref 11, .int (g 22 2), .ref 12, .ref 13, .ref 14, .ref 15]),
  .inl (0, 3, .inl (g 10)),
  .inl (0, 3, .inl (g 11)),
  .inl (0, 6, .inl (g 12)),
  .inl (0, 6, .inl (g 13)),
  .inl (0, 6, .inl (g 14)),
  .inl (0, 6, .inl (g 15)),
  .inl (0, 5, .inl (g 16)),
  .inl (0, 5, .inl (g 17)),
  .inl (0, 3, .inl (g 18)),
  .inl (0, 3, .inl (g 19)),
  .inl (0, 3, .inl (g 20)),
  .inl (0, 3, .inl (g 21)),
  .inr (2, [.ref b, .ref 30]),
  .inr (5, [.ref 18, .ref 19, .int (g 42 0), .ref 20, .ref 21, .ref 22, .ref 23, .int (g 42 1), .ref 24, .ref 25, .int (g 42 2), .ref 26, .ref 27, .ref 28, .ref 29]),
  .inl (0, 3, .inl (g 30)),
  .inl (0, 3, .inl (g 31)),
  .inl (0, 6, .inl (g 32)),
  .inl (0, 6, .inl (g 33)),
  .inl (0, 6, .inl (g 34)),
  .inl (0, 6, .inl (g 35)),
  .inl (0, 5, .inl (g 36)),
  .inl (0, 5, .inl (g 37)),
  .inl (0, 3, .inl (g 38)),
  .inl (0, 3, .inl (g 39)),
  .inl (0, 3, .inl (g 40)),
  .inl (0, 3, .inl (g 41)),
  .inr (4, [.ref 31, .ref 32, .ref 33]),
  .inl (0, 6, .inl (g 50)),
  .inl (0, 6, .inl (g 51)),
  .inl (0, 5, .inl (g 52)),
  .inr (1, [.ref 35, .int (g 90 0), .int (g 90 1)]),
  .inl (3, 10, .inr (.inr (.inr (.inr rowsC)))),
  .inr (4, [.ref 37, .ref 38, .ref 39]),
  .inl (0, 6, .inl (g 60)),
  .inl (0, 6, .inl (g 61)),
  .inl (0, 5, .inl (g 62)),
  .inr (4, [.ref 41, .ref 42, .ref 43]),
  .inl (0, 6, .inl (g 63)),
  .inl (0, 6, .inl (g 64)),
  .inl (0, 5, .inl (g 65)),
  .inr (4, [.ref 45, .ref 46, .ref 47]),
  .inl (0, 6, .inl (g 66)),
  .inl (0, 6, .inl (g 67)),
  .inl (0, 5, .inl (g 68)),
  .inr (4, [.ref 49, .ref 50, .ref 51]),
  .inl (0, 6, .inl (g 69)),
  .inl (0, 6, .inl (g 70)),
  .inl (0, 5, .inl (g 71)),
  .inr (4, [.ref 53, .ref 54, .ref 55]),
  .inl (0, 6, .inl (g 72)),
  .inl (0, 6, .inl (g 73)),
  .inl (0, 5, .inl (g 74)),
  .inr (4, [.ref 57, .ref 58, .ref 59]),
  .inl (0, 6, .inl (g 75)),
  .inl (0, 6, .inl (g 76)),
  .inl (0, 5, .inl (g 77)),
  .inr (4, [.ref 61, .ref 62, .ref 63]),
  .inl (0, 6, .inl (g 78)),
  .inl (0, 6, .inl (g 79)),
  .inl (0, 5, .inl (g 80)),
  .inr (4, [.ref 65, .ref 66, .ref 67]),
  .inl (0, 6, .inl (g 81)),
  .inl (0, 6, .inl (g 82)),
  .inl (0, 5, .inl (g 83)),
  .inr (4, [.ref 69, .ref 70, .ref 71]),
  .inl (0, 6, .inl (g 84)),
  .inl (0, 6, .inl (g 85)),
  .inl (0, 5, .inl (g 86)),
  .inr (4, [.ref 73, .ref 74, .ref 75]),
  .inl (0, 6, .inl (g 87)),
  .inl (0, 6, .inl (g 88)),
  .inl (0, 5, .inl (g 89)),
  .inl (3, 2, .inr (.inr (.inr (.inr imgsC)))),
  .inl (1, 2, .inl (g 97)),
  .inr (7, [.ref 79, .ref 80, .int (g 100 0)]),
  .inl (0, 6, .inl (g 98)),
  .inl (1, 6, .inl (g 99)),
  .inr (3, [.ref 82]),
  .inl (0, 5, .inl (g 101)),
  .inr (0, [.ref 84, .ref 85]),
  .inl (0, 64, .inl (g 102)),
  .inl (0, 64, .inl (g 103)),
  .inl (0, 49, .inl (g 104)),
  .inr (4, [.ref 88, .ref 89, .ref 90]),
  .inl (0, 6, .inl (g 91)),
  .inl (0, 6, .inl (g 92)),
  .inl (0, 5, .inl (g 93)),
  .inr (4, [.ref 92, .ref 93, .ref 94]),
  .inl (0, 6, .inl (g 94)),
  .inl (0, 6, .inl (g 95)),
  .inl (0, 5, .inl (g 96))]
def wC (g : Nat → Nat → Int32) (tr : Int64) : AW := wX 3 17 g tr
def wR (g : Nat → Nat → Int32) (tr : Int64) : AW := [
  .inr (9, [.int 0, .long tr, .ref 1, .int (g 0 0), .int (g 0 1), .int (g 0 2), .int (g 0 3), .int (g 0 4), .int (g 0 5), .ref 2, .ref 3, .ref 4, .ref 5, .ref 6, .ref 7, .ref 8, .ref 9, .ref 10, .int (g 0 6), .ref 11, .ref 12, .int (g 0 7), .ref 13, .ref 14, .ref 15]),
  .inl (0, 200, .inl (g 1)),
  .inl (0, 6, .inl (g 2)),
  .inl (0, 48, .inl (g 3)),
  .inl (0, 20, .inl (g 4)),
  .inl (0, 24, .inl (g 5)),
  .inl (0, 12, .inl (g 6)),
  .inl (0, 17, .inl (g 7)),
  .inl (0, 34, .inl (g 8)),
  .inl (1, 2, .inl (g 9)),
  .inl (0, 170, .inl (g 10)),
  .inl (0, 6, .inl (g 11)),
  .inl (0, 6, .inl (g 12)),
  .inl (0, 15, .inl (g 13)),
  .inl (0, 6, .inl (g 14)),
  .inl (0, 6, .inl (g 15))]
end
section
/-! the tables are the code's: checked by the kernel -/
def pcq (c : List Row) (i : Nat) : Nat := match c[i]? with | some r => r.1 | none => 0
def wd (i : Nat) (w : Cond) : Bool := decide (lw_tbl[i]? = some w) && goodWord w
def wdN (i : Nat) (w : Cond) : Bool := decide (lw_tbl[i]? = some w)
def clB (a b q : Nat) : Bool := wd q (.code (mY a) (mB a) (mL a) (mR a)) && (decide ((mY a).cls ≠ "java/lang/invoke/MethodHandle") && (decide ((mY a).cls ≠ "java/lang/invoke/VarHandle") && (decide ((parseMethodDescriptor (mY a).desc).map (fun d => d.parameters.length) = some b) && (Nat.ble (mL a) 40 && Nat.blt a 188))))
def swT (c : List Row) (pc : Nat) (lo : Int) : Nat → List (Int32 × Nat) → List Int → Bool
  | _, [], [] => true
  | j, (k, t) :: r, o :: os => decide (k.toInt = lo + j) && (decide ((pc : Int) + o = (pcq c t : Int)) && swT c pc lo (j + 1) r os)
  | _, _, _ => false
def swL (c : List Row) (pc : Nat) : List (Int32 × Nat) → List (Int × Int) → Bool
  | [], [] => true
  | (k, t) :: r, (x, o) :: os => decide (k.toInt = x) && (decide ((pc : Int) + o = (pcq c t : Int)) && swL c pc r os)
  | _, _ => false
def nestHost : String := "TwoScales"
def rowB (y : MethodName) (bs : ByteArray) (mx : Nat) (c : List Row) (i : Nat) (r : Row) : Bool :=
  match r with
  | (pc, ins, a, b, z, zl, sw, ps) =>
  let dc : Nat → Bool := fun len => decide (decode bs pc = .ok (ins, len))
  let nx : Nat → Bool := fun len => dc len && decide (pcq c (i + 1) = pc + len)
  let jp : Int → Bool := fun off => decide ((pc : Int) + off = (pcq c a : Int))
  match ins with
  | .iconst n => nx 1 && decide (Int32.ofInt n = z)
  | .bipush n => nx 2 && decide ((Int8.ofInt n).toInt32 = z)
  | .sipush n => nx 3 && decide ((Int16.ofInt n).toInt32 = z)
  | .ldc k => nx 2 && wd (ps.getD 0 0) (.constant y.cls k z)
  | .ldc_w k => nx 3 && wd (ps.getD 0 0) (.constant y.cls k z)
  | .lconst n => nx 1 && decide (Int64.ofNat (n : Nat) = zl)
  | .ldc2_w k => nx 3 && wd (ps.getD 0 0) (.constantLong y.cls k zl)
  | .iload k => nx 2 && decide (k = a)
  | .lload k => nx 2 && decide (k = a)
  | .aload k => nx 2 && decide (k = a)
  | .iload_n k => nx 1 && decide ((k : Nat) = a)
  | .lload_n k => nx 1 && decide ((k : Nat) = a)
  | .aload_n k => nx 1 && decide ((k : Nat) = a)
  | .istore k => nx 2 && (decide (k = a) && decide (a < mx))
  | .astore k => nx 2 && (decide (k = a) && decide (a < mx))
  | .lstore k => nx 2 && (decide (k = a) && decide (a + 1 < mx))
  | .istore_n k => nx 1 && (decide ((k : Nat) = a) && decide (a < mx))
  | .astore_n k => nx 1 && (decide ((k : Nat) = a) && decide (a < mx))
  | .lstore_n k => nx 1 && (decide ((k : Nat) = a) && decide (a + 1 < mx))
  | .iinc k n => nx 3 && (decide (k = a) && (decide (a < mx) && decide (Int32.ofInt n = z)))
  | .iadd => nx 1 | .isub => nx 1 | .imul => nx 1 | .iand => nx 1 | .ior => nx 1 | .ixor => nx 1 | .ishl => nx 1 | .ishr => nx 1 | .iushr => nx 1
  | .ladd => nx 1 | .lmul => nx 1 | .lcmp => nx 1 | .i2l => nx 1 | .l2i => nx 1 | .i2c => nx 1 | .dup => nx 1 | .dup2 => nx 1 | .pop => nx 1
  | .idiv => nx 1 | .irem => nx 1 | .ldiv => nx 1 | .lrem => nx 1
  | .goto off => dc 3 && jp off
  | .ifCond _ off => nx 3 && jp off
  | .if_icmp _ off => nx 3 && jp off
  | .tableswitch df lo hi offs => dc b && (jp df && (swT c pc lo 0 sw offs.toList && decide (lo + (sw.length : Int) = hi + 1)))
  | .lookupswitch df prs => dc b && (jp df && (swL c pc sw prs.toList && (prs.toList.zip (prs.toList.drop 1)).all (fun (a, next) => a.1 < next.1)))
  | .getfield k => nx 3 && (match vwCl[a]? with
    | some (_, T, N) => decide (b < N) && wd (ps.getD 0 0) (.fieldLink y.cls k (T b).1 (T b).2.1 (T b).2.2.1)
    | none => false)
  | .putfield k => nx 3 && (match vwCl[a]? with
    | some (_, T, N) => decide (b < N) && (wd (ps.getD 0 0) (.fieldLink y.cls k (T b).1 (T b).2.1 (T b).2.2.1) && (!(T b).2.2.2 || (decide (y.name = "<init>") && decide ((T b).1 = y.cls))))
    | none => false)
  | .getstatic k => nx 3 && (if a = 0 then wd (ps.getD 0 0) (.fieldLink y.cls k "TwoScales$Tale" "LOW_AT_FIRST" "[I") else decide (a = 1) && wd (ps.getD 0 0) (.fieldLink y.cls k "TwoScales$Tale" "HIGH_AT_FIRST" "[I"))
  | .iaload => nx 1 | .baload => nx 1 | .caload => nx 1 | .aaload => nx 1 | .iastore => nx 1 | .bastore => nx 1 | .castore => nx 1 | .aastore => nx 1 | .arraylength => nx 1
  | .new k => nx 3 && (match vwCl[a]? with
    | some (C, _, N) => decide (b = N) && (wd (ps.getD 0 0) (.classLink y.cls k C) && (wd (ps.getD 1 0) (.instantiable C N) && wd (ps.getD 2 0) (.initialized C)))
    | none => false)
  | .newarray t => nx 2 && (decide (a < 3) && (decide ([FieldType.int, .boolean, .char][a]? = some (newarray.typeOf t)) && wd (ps.getD 0 0) (.arrayClass (newarray.typeOf t))))
  | .anewarray k => nx 3 && wd (ps.getD 0 0) (.classLink y.cls k "TwoScales$Now")
  | .ireturn => dc 1 | .lreturn => dc 1 | .areturn => dc 1 | .return_ => dc 1
  | .invokestatic k => nx 3 && (if a = 900 then wd (ps.getD 0 0) (.methodLink y.cls k arraycopyName) && (wd (ps.getD 1 0) (.native arraycopyName) && (wd (ps.getD 2 0) (.static arraycopyName) && wd (ps.getD 3 0) (.initialized "java/lang/System")))
    else wd (ps.getD 0 0) (.methodLink y.cls k (mY a)) && (wd (ps.getD 1 0) (.static (mY a)) && (wd (ps.getD 2 0) (.initialized (mY a).cls) && clB a b (ps.getD 3 0))))
  | .invokevirtual k => nx 3 && (wd (ps.getD 0 0) (.methodLink y.cls k (mY a)) && (wd (ps.getD 1 0) (.instanceMethod (mY a)) && (wd (ps.getD 2 0) (.selects (mY a).cls (mY a) (mY a)) && (wd (ps.getD 3 0) (.initialized (mY a).cls) && clB a b (ps.getD 4 0)))))
  | .invokespecial k => nx 3 && (if a = 901 then wd (ps.getD 0 0) (.methodLink y.cls k objectInit) && (wd (ps.getD 1 0) (.instanceMethod objectInit) && wd (ps.getD 2 0) (.code objectInit ⟨#[0xb1]⟩ 1 none))
    else (if z = 1 then wdN (ps.getD 0 0) (.methodLinkNest y.cls k (mY a) nestHost) else wd (ps.getD 0 0) (.methodLink y.cls k (mY a))) && (wd (ps.getD 1 0) (.instanceMethod (mY a)) && (wd (ps.getD 2 0) (.initialized (mY a).cls) && (decide ((mY a).name = "<init>") && (decide (mR a = none) && clB a b (ps.getD 3 0))))))
  | _ => false
def mPos (M : Nat) : Nat := (mI M).2.2.2.2.1
def mokB (M : Nat) : Bool := (mP M).zipIdx.all (fun q => rowB (mY M) (mB M) (mL M) (mP M) q.2 q.1) && (plainName (mY M).cls && (decide (pcq (mP M) 0 = 0) && wd (mPos M) (.code (mY M) (mB M) (mL M) (mR M))))
end
section
/-! the abstract machine's states, and the machine's -/
def cV (ρ : Nat → Nat) : Value → Value
  | .ref k => .ref (ρ k)
  | .int x => .int x
  | .long x => .long x
  | .float x => .float x
  | .double x => .double x
  | .null => .null
  | .retAddr x => .retAddr x
theorem cV_cat (ρ : Nat → Nat) (v : Value) : (cV ρ v).category = v.category := by cases v <;> rfl
theorem cats (ρ : Nat → Nat) (l : List Value) : ((l.map (cV ρ)).map fun v => v.category).sum = (l.map Value.category).sum := by
  rw [List.map_map]
  congr 1
  exact List.map_congr_left (fun v _ => cV_cat ρ v)
def cA (ρ : Nat → Nat) (x : vp_A) : vp_A := match x with
  | (n, .inl f) => (n, .inl f)
  | (n, .inr (.inl f)) => (n, .inr (.inl f))
  | (n, .inr (.inr (.inl f))) => (n, .inr (.inr (.inl f)))
  | (n, .inr (.inr (.inr (.inl f)))) => (n, .inr (.inr (.inr (.inl f))))
  | (n, .inr (.inr (.inr (.inr f)))) => (n, .inr (.inr (.inr (.inr (fun j => (f j).map ρ)))))
def cE (ρ : Nat → Nat) (tys : List (ClassId × FieldType)) (x : AE) : va_E := match x with
  | .inl (t, x) => .inl ((tys.getD t (0, .int)).1, cA ρ x)
  | .inr (ci, fs) => .inr (ci, fs.map (cV ρ))
def cW (ρ : Nat → Nat) (tys : List (ClassId × FieldType)) (w : AW) : va_W := w.mapIdx (fun k e => (ρ k, cE ρ tys e))
section CW
variable {ρ : Nat → Nat} {tys : List (ClassId × FieldType)} {w : AW} {k : Nat} {e : AE}
theorem cW_at (h : w[k]? = some e) : (cW ρ tys w)[k]? = some (ρ k, cE ρ tys e) := by
  simp [cW, List.getElem?_mapIdx, h]
theorem cW_of {q : Nat × va_E} (h : (cW ρ tys w)[k]? = some q) : ∃ e, w[k]? = some e ∧ q = (ρ k, cE ρ tys e) := by
  simp only [cW, List.getElem?_mapIdx, Option.map_eq_some_iff] at h
  obtain ⟨e, h1, h2⟩ := h
  exact ⟨e, h1, h2.symm⟩
theorem cW_set : cW ρ tys (w.set k e) = (cW ρ tys w).set k (ρ k, cE ρ tys e) := by
  apply List.ext_getElem?
  intro j
  simp only [cW, List.getElem?_mapIdx, List.getElem?_set, List.length_mapIdx]
  by_cases h : k = j
  · subst h
    by_cases h2 : k < w.length
    · simp [h2]
    · simp [h2]
  · simp [h]
theorem cW_push : cW ρ tys (w ++ [e]) = cW ρ tys w ++ [(ρ w.length, cE ρ tys e)] := by
  simp [cW, List.mapIdx_append]
end CW
/-- what is yet to be made comes in a row -/
def Fut (ρ : Nat → Nat) (n sz : Nat) : Prop := ∀ k, n ≤ k → k < 1000000 → ρ k = sz + (k - n)
def sl1 (e : AE) : Nat := match e with
  | .inl (_, n, _) => n
  | .inr (_, fs) => fs.length
def sl (w : AW) : Nat := (w.map sl1).sum
theorem sl_push (w : AW) (e : AE) : sl (w ++ [e]) = sl w + sl1 e := by simp [sl]
theorem sl_set {w : AW} {k : Nat} {e e' : AE} (h : w[k]? = some e) (hs : sl1 e' = sl1 e) : sl (w.set k e') = sl w := by
  unfold sl
  congr 1
  apply List.ext_getElem?
  intro j
  simp only [List.getElem?_map, List.getElem?_set]
  by_cases h2 : k = j
  · subst h2
    obtain ⟨hl, he⟩ := List.getElem?_eq_some_iff.mp h
    simp [hl, he, hs]
  · simp [h2]
/-- locals -/
def LR (ρ : Nat → Nat) (nL : Nat) (ls : List Value) (lc : Array Slot) : Prop := lc.size = nL ∧ lv_wf lc ∧ ls.length = nL ∧ ∀ (k : Nat) (v : Value), ls[k]? = some v → v ≠ .null → lc[k]? = some (.val (cV ρ v))
def lvl (ρ : Nat → Nat) (ls : List Value) : List (Nat × Value) := (ls.mapIdx (fun k v => (k, cV ρ v))).filter (fun q => decide (q.2 ≠ .null))
theorem cV_null {ρ : Nat → Nat} {v : Value} : cV ρ v = .null ↔ v = .null := by cases v <;> simp [cV]
theorem lvl_mem {ρ : Nat → Nat} {ls : List Value} {q : Nat × Value} : q ∈ lvl ρ ls ↔ ∃ v, ls[q.1]? = some v ∧ v ≠ .null ∧ q.2 = cV ρ v := by
  simp only [lvl, List.mem_filter, List.mem_mapIdx, decide_eq_true_eq]
  constructor
  · rintro ⟨⟨i, hi, rfl⟩, h2⟩
    exact ⟨ls[i], by simp [hi], fun h => h2 (cV_null.mpr h), rfl⟩
  · rintro ⟨v, h1, h2, h3⟩
    obtain ⟨hl, he⟩ := List.getElem?_eq_some_iff.mp h1
    refine ⟨⟨q.1, hl, ?_⟩, by rw [h3]; exact fun h => h2 (cV_null.mp h)⟩
    rw [he, ← h3]
theorem LR.has {ρ : Nat → Nat} {nL : Nat} {ls : List Value} {lc : Array Slot} (h : LR ρ nL ls lc) : lv_has lc nL (lvl ρ ls) := by
  refine ⟨h.1, h.2.1, fun q hq => ?_⟩
  obtain ⟨v, h1, h2, h3⟩ := lvl_mem.mp hq
  rw [h3]
  exact h.2.2.2 _ _ h1 h2
theorem LR.of {ρ : Nat → Nat} {nL : Nat} {ls : List Value} {lc : Array Slot} {l : List (Nat × Value)} (h : lv_has lc nL l) (hl : ls.length = nL) (hm : ∀ (k : Nat) (v : Value), ls[k]? = some v → v ≠ .null → (k, cV ρ v) ∈ l) : LR ρ nL ls lc :=
  ⟨h.1, h.2.1, hl, fun k v h1 h2 => h.2.2 _ (hm k v h1 h2)⟩
theorem LR.at {ρ : Nat → Nat} {nL : Nat} {ls : List Value} {lc : Array Slot} (h : LR ρ nL ls lc) {k : Nat} {v : Value} (h1 : ls[k]? = some v) (h2 : v ≠ .null) : lc[k]? = some (.val (cV ρ v)) := h.2.2.2 k v h1 h2
theorem st1_main {ls l2 : List Value} {j k : Nat} {v u : Value} (hi : j + 1 < ls.length) (hu : u ≠ .null) (h2 : ∀ k : Nat, l2[k]? = ls[k]? ∨ (k = j ∧ l2[k]? = some .null)) (hl : l2.length = ls.length) (h : (l2.set (j + 1) v)[k]? = some u) (hc : ls[j]? = some u → u.category = 2 → l2[j]? = some .null) : (k = j + 1 ∧ u = v) ∨ (k ≠ j + 1 ∧ ls[k]? = some u ∧ ¬ (k + 1 = j + 1 ∧ u.category = 2)) := by
  simp only [List.getElem?_set] at h
  by_cases hk : j + 1 = k
  · subst hk
    simp [hl, hi] at h
    exact Or.inl ⟨rfl, h.symm⟩
  · simp only [hk, if_false] at h
    have h5 : ls[k]? = some u := by
      rcases h2 k with h3 | ⟨h3, h4⟩
      · rw [← h3]; exact h
      · rw [h4] at h; cases h; exact absurd rfl hu
    refine Or.inr ⟨fun e => hk e.symm, h5, ?_⟩
    rintro ⟨e1, e2⟩
    have e1 : k = j := by omega
    subst e1
    rw [hc h5 e2] at h
    cases h
    exact hu rfl
theorem st1_at {ls : List Value} {i k : Nat} {v u : Value} (hi : i < ls.length) (h : (st1 ls i v)[k]? = some u) (hu : u ≠ .null) : (k = i ∧ u = v) ∨ (k ≠ i ∧ ls[k]? = some u ∧ ¬ (k + 1 = i ∧ u.category = 2)) := by
  cases i with
  | zero =>
    simp only [st1, List.getElem?_set] at h
    by_cases hk : 0 = k
    · subst hk
      simp [hi] at h
      exact Or.inl ⟨rfl, h.symm⟩
    · simp [hk] at h
      exact Or.inr ⟨fun e => hk e.symm, h, by omega⟩
  | succ j =>
    have hj : j < ls.length := by omega
    have two : ∀ k : Nat, (ls.set j .null)[k]? = ls[k]? ∨ (k = j ∧ (ls.set j .null)[k]? = some .null) := by
      intro k
      by_cases e : k = j
      · subst e; exact Or.inr ⟨rfl, by simp [hj]⟩
      · exact Or.inl (by simp [List.getElem?_set, Ne.symm e])
    simp only [st1] at h
    split at h
    · exact st1_main hi hu two (by simp) h (fun _ _ => by simp [hj])
    · exact st1_main hi hu two (by simp) h (fun _ _ => by simp [hj])
    · rename_i n1 n2
      refine st1_main hi hu (fun k => Or.inl rfl) rfl h (fun h5 h6 => ?_)
      cases u <;> simp [Value.category] at h6
      · exact absurd h5 (n1 _)
      · exact absurd h5 (n2 _)
theorem st1_len (ls : List Value) (i : Nat) (v : Value) : (st1 ls i v).length = ls.length := by
  unfold st1
  cases i with
  | zero => simp
  | succ j => simp only []; split <;> simp
theorem LR.store1 {ρ : Nat → Nat} {nL : Nat} {ls : List Value} {lc lc' : Array Slot} {i : Nat} {v : Value} (h : LR ρ nL ls lc) (hi : i < nL) (hh : lv_has lc' nL ((i, cV ρ v) :: (lvl ρ ls).filter (fun q => !(q.1 == i) && !(q.1 + 1 == i && q.2.category == 2)))) : LR ρ nL (st1 ls i v) lc' := by
  refine LR.of hh (by rw [st1_len]; exact h.2.2.1) (fun k u h1 h2 => ?_)
  rcases st1_at (by rw [h.2.2.1]; exact hi) h1 h2 with ⟨rfl, rfl⟩ | ⟨a1, a2, a3⟩
  · exact List.mem_cons_self
  · refine List.mem_cons_of_mem _ (List.mem_filter.mpr ⟨lvl_mem.mpr ⟨u, a2, h2, rfl⟩, ?_⟩)
    simp only [Bool.and_eq_true, Bool.not_eq_true', beq_eq_false_iff_ne, ne_eq, Bool.and_eq_false_iff]
    refine ⟨a1, ?_⟩
    by_cases e : k + 1 = i
    · refine Or.inr ?_
      rw [cV_cat]
      exact fun q => a3 ⟨e, q⟩
    · exact Or.inl e
theorem LR.store2 {ρ : Nat → Nat} {nL : Nat} {ls : List Value} {lc lc' : Array Slot} {i : Nat} {v : Value} (h : LR ρ nL ls lc) (hi : i + 1 < nL) (hh : lv_has lc' nL ((i, cV ρ v) :: (lvl ρ ls).filter (fun q => !(q.1 == i) && (!(q.1 == i + 1) && !(q.1 + 1 == i && q.2.category == 2))))) : LR ρ nL (st2 ls i v) lc' := by
  refine LR.of hh (by unfold st2; rw [List.length_set, st1_len]; exact h.2.2.1) (fun k u h1 h2 => ?_)
  unfold st2 at h1
  have hlen : (st1 ls i v).length = nL := by rw [st1_len]; exact h.2.2.1
  have hk : k ≠ i + 1 := by
    intro e
    subst e
    rw [List.getElem?_set_self (by omega)] at h1
    cases h1
    exact h2 rfl
  rw [List.getElem?_set_ne (Ne.symm hk)] at h1
  rcases st1_at (by rw [h.2.2.1]; omega) h1 h2 with ⟨rfl, rfl⟩ | ⟨a1, a2, a3⟩
  · exact List.mem_cons_self
  · refine List.mem_cons_of_mem _ (List.mem_filter.mpr ⟨lvl_mem.mpr ⟨u, a2, h2, rfl⟩, ?_⟩)
    simp only [Bool.and_eq_true, Bool.not_eq_true', beq_eq_false_iff_ne, ne_eq, Bool.and_eq_false_iff]
    refine ⟨a1, hk, ?_⟩
    by_cases e : k + 1 = i
    · refine Or.inr ?_
      rw [cV_cat]
      exact fun q => a3 ⟨e, q⟩
    · exact Or.inl e
theorem lgl_len (ρ : Nat → Nat) : ∀ (vs : List Value), (lg_sl (vs.map (cV ρ))).length = (spr vs).length
  | [] => by simp [lg_sl, spr]
  | v :: vs => by
    have ih := lgl_len ρ vs
    have e : ∀ (u : Value) (us : List Value), lg_sl (u :: us) = (if u.category = 2 then [Slot.val u, .second] else [Slot.val u]) ++ lg_sl us := fun u us => by simp only [lg_sl, List.flatMap_cons]
    rw [List.map_cons, e, List.length_append, ih, cV_cat]
    cases v <;> simp [spr, Value.category] <;> omega
theorem ent_mem (ρ : Nat → Nat) : ∀ (vs : List Value) (n i k : Nat) (v : Value), (spr vs ++ List.replicate n Value.null)[k]? = some v → v ≠ .null → (i + k, cV ρ v) ∈ lv_args i (vs.map (cV ρ))
  | [], n, i, k, v, h, hv => by
    simp only [spr, List.nil_append, List.getElem?_replicate] at h
    split at h
    · cases h; exact absurd rfl hv
    · cases h
  | u :: vs, n, i, k, v, h, hv => by
    have one : (v = u ∧ k = 0) ∨ (u.category = 1 ∧ ∃ j, k = j + 1 ∧ (spr vs ++ List.replicate n Value.null)[j]? = some v) ∨ (u.category = 2 ∧ ∃ j, k = j + 2 ∧ (spr vs ++ List.replicate n Value.null)[j]? = some v) := by
      cases k with
      | zero => cases u <;> simp [spr] at h <;> exact Or.inl ⟨h.symm, rfl⟩
      | succ k =>
        have w2 : ∀ l : List Value, (Value.null :: l)[k]? = some v → ∃ j, k = j + 1 ∧ l[j]? = some v := by
          intro l hl
          cases k with
          | zero => simp at hl; exact absurd hl.symm hv
          | succ j => exact ⟨j, rfl, by simpa using hl⟩
        cases u <;> simp only [spr, List.cons_append, List.getElem?_cons_succ] at h
        case long =>
          obtain ⟨j, e, hj⟩ := w2 _ h
          exact Or.inr (Or.inr ⟨rfl, j, by omega, hj⟩)
        case double =>
          obtain ⟨j, e, hj⟩ := w2 _ h
          exact Or.inr (Or.inr ⟨rfl, j, by omega, hj⟩)
        all_goals exact Or.inr (Or.inl ⟨rfl, k, rfl, h⟩)
    rcases one with ⟨rfl, rfl⟩ | ⟨hc, j, rfl, hj⟩ | ⟨hc, j, rfl, hj⟩
    · exact List.mem_cons_self
    · have := ent_mem ρ vs n (i + 1) j v hj hv
      simp only [List.map_cons, lv_args, cV_cat, hc]
      exact List.mem_cons_of_mem _ (by simpa [Nat.add_assoc, Nat.add_comm, Nat.add_left_comm] using this)
    · have := ent_mem ρ vs n (i + 2) j v hj hv
      simp only [List.map_cons, lv_args, cV_cat, hc]
      exact List.mem_cons_of_mem _ (by simpa [Nat.add_assoc, Nat.add_comm, Nat.add_left_comm] using this)
theorem LR.entry {ρ : Nat → Nat} {nL : Nat} {vs : List Value} (h : (spr vs).length ≤ nL) : LR ρ nL (ent nL vs) ((lg_sl (vs.map (cV ρ)) ++ List.replicate (nL - (lg_sl (vs.map (cV ρ))).length) Slot.unset).toArray) := by
  refine LR.of (lv_entry (vs.map (cV ρ)) (by rw [lgl_len]; exact h)) (by simp [ent]; omega) (fun k v h1 h2 => ?_)
  have := ent_mem ρ vs _ 0 k v h1 h2
  simpa using this
end
section
/-! the simple steps are the machine's -/
theorem inAll {ci : Nat} {C : String} {T : u_T} {N : Nat} (h : vwCl[ci]? = some (C, T, N)) : ∀ x ∈ u_ws C T N, x ∈ AL := by
  match ci, h with
  | 0, h => cases h; exact inAX0
  | 1, h => cases h; exact inAX1
  | 2, h => cases h; exact inAX2
  | 3, h => cases h; exact inAX3
  | 4, h => cases h; exact inAX4
  | 5, h => cases h; exact inAX5
  | 6, h => cases h; exact inAX6
  | 7, h => cases h; exact inAX7
  | 8, h => cases h; exact inAX8
  | 9, h => cases h; exact inAX9
  | n + 10, h => simp [vwCl] at h
section SND1
variable {p : Program} {l : Launch} {e : Env} {R : Room} {s : State} {m : MethodId} {args : Array Value} {below : List Frame} {meth : Method} {c : Code} {H : Heap} {locs : List Loc} {cells slots : Nat} {Q : State → Prop}
variable {D : va_G} {tys : List (ClassId × FieldType)} {ρ : Nat → Nat} {w : AW} {y : MethodName} {bs : ByteArray} {mx : Nat} {cr : List Row}
theorem wd_in {i : Nat} {x : Cond} (h : wd i x = true) : x ∈ AL := by
  simp only [wd, Bool.and_eq_true, decide_eq_true_eq] at h
  exact AL_of (List.mem_of_getElem? h.1) h.2
theorem swT_ok {pc : Nat} {lo : Int} {df : Nat} {x : Int32} : ∀ (sw : List (Int32 × Nat)) (os : List Int) (j : Nat), swT cr pc lo j sw os = true → ((∃ k, k < sw.length ∧ x.toInt = lo + j + k ∧ ∃ o, os[k]? = some o ∧ (pc : Int) + o = (pcq cr (swl x df sw) : Int)) ∨ ((∀ k : Nat, k < sw.length → x.toInt ≠ lo + j + k) ∧ swl x df sw = df))
  | [], os, j, h => Or.inr ⟨fun k hk => absurd hk (Nat.not_lt_zero k), rfl⟩
  | (q, t) :: r, [], j, h => by simp [swT] at h
  | (q, t) :: r, o :: os, j, h => by
    simp only [swT, Bool.and_eq_true, decide_eq_true_eq] at h
    obtain ⟨h1, h2, h3⟩ := h
    by_cases hx : x = q
    · refine Or.inl ⟨0, Nat.succ_pos _, by rw [hx, h1]; omega, o, rfl, ?_⟩
      rw [swl, if_pos hx]
      exact h2
    · rw [swl, if_neg hx]
      have hne : x.toInt ≠ lo + j := fun e => hx (Int32.toInt_inj.mp (by rw [e, h1]))
      rcases swT_ok r os (j + 1) h3 with ⟨k, k1, k2, o2, k3, k4⟩ | ⟨k1, k2⟩
      · refine Or.inl ⟨k + 1, by simp only [List.length_cons]; omega, by rw [k2]; omega, o2, by simpa using k3, k4⟩
      · refine Or.inr ⟨fun k hk => ?_, k2⟩
        cases k with
        | zero => simpa using hne
        | succ k =>
          have := k1 k (by simp only [List.length_cons] at hk; omega)
          omega
theorem swL_ok {pc : Nat} {df : Nat} {dfo : Int} {x : Int32} (hd : (pc : Int) + dfo = (pcq cr df : Int)) : ∀ (sw : List (Int32 × Nat)) (os : List (Int × Int)), swL cr pc sw os = true → (pc : Int) + Op.lookupswitch.offset os dfo x.toInt = (pcq cr (swl x df sw) : Int)
  | [], [], h => hd
  | [], _ :: _, h => by simp [swL] at h
  | (q, t) :: r, [], h => by simp [swL] at h
  | (q, t) :: r, (k, o) :: os, h => by
    simp only [swL, Bool.and_eq_true, decide_eq_true_eq] at h
    obtain ⟨h1, h2, h3⟩ := h
    rw [Op.lookupswitch.offset_cons, swl]
    by_cases hx : x = q
    · rw [if_pos hx, if_pos (by rw [hx, h1])]
      exact h2
    · rw [if_neg hx, if_neg (fun e => hx (Int32.toInt_inj.mp (by rw [h1, e])))]
      exact swL_ok hd r os h3
set_option maxHeartbeats 4000000 in
set_option maxRecDepth 100000 in
theorem snd1 (hx : p.tables.exec = Jvm.exec) (hb : c.code = bs) (hown : s.vm.findClass y.cls = some m.cls) (hts : ∀ x ∈ AL, x.before args s = true) (hK : va_K D vwCl tys s) (hP : va_P D vwCl (cW ρ tys w) H) {row : Row} {i : Nat} (hrow : cr[i]? = some row) (hok : rowB y bs mx cr i row = true) {ls st : List Value} {i' : Nat} {ls' st' : List Value} (h : nx1 row i ls st w = some (i', ls', st')) {lc : Array Slot} (hL : LR ρ mx ls lc)
    (K : ∀ lc', LR ρ mx ls' lc' → W p l e R s m args below meth c H locs cells slots Q (F0 m (pcq cr i') lc' (st'.map (cV ρ)))) : W p l e R s m args below meth c H locs cells slots Q (F0 m (pcq cr i) lc (st.map (cV ρ))) := by
  have hpc : pcq cr i = row.1 := by simp [pcq, hrow]
  rw [hpc]
  obtain ⟨pc, ins, a, b, z, zl, sw, ps⟩ := row
  cases ins with
  | iconst n =>
    simp only [rowB, Bool.and_eq_true, decide_eq_true_eq] at hok
    simp only [nx1, Option.some.injEq, Prod.mk.injEq] at h
    obtain ⟨rfl, rfl, rfl⟩ := h
    obtain ⟨⟨h1, h2⟩, h3⟩ := hok
    refine lv_iconst hx hb h1 h3 ?_
    rw [← h2]
    exact K lc hL
  | bipush n =>
    simp only [rowB, Bool.and_eq_true, decide_eq_true_eq] at hok
    simp only [nx1, Option.some.injEq, Prod.mk.injEq] at h
    obtain ⟨rfl, rfl, rfl⟩ := h
    obtain ⟨⟨h1, h2⟩, h3⟩ := hok
    refine lv_bipush hx hb h1 h3 ?_
    rw [← h2]
    exact K lc hL
  | sipush n =>
    simp only [rowB, Bool.and_eq_true, decide_eq_true_eq] at hok
    simp only [nx1, Option.some.injEq, Prod.mk.injEq] at h
    obtain ⟨rfl, rfl, rfl⟩ := h
    obtain ⟨⟨h1, h2⟩, h3⟩ := hok
    refine lv_sipush hx hb h1 h3 ?_
    rw [← h2]
    exact K lc hL
  | ldc k =>
    simp only [rowB, Bool.and_eq_true, decide_eq_true_eq] at hok
    simp only [nx1, Option.some.injEq, Prod.mk.injEq] at h
    obtain ⟨rfl, rfl, rfl⟩ := h
    obtain ⟨⟨h1, h2⟩, h3⟩ := hok
    refine lv_ldc hx hb hown (hts _ (wd_in h3)) h1 ?_
    rw [← h2]
    exact K lc hL
  | ldc_w k =>
    simp only [rowB, Bool.and_eq_true, decide_eq_true_eq] at hok
    simp only [nx1, Option.some.injEq, Prod.mk.injEq] at h
    obtain ⟨rfl, rfl, rfl⟩ := h
    obtain ⟨⟨h1, h2⟩, h3⟩ := hok
    refine lv_ldcw hx hb hown (hts _ (wd_in h3)) h1 ?_
    rw [← h2]
    exact K lc hL
  | lconst n =>
    simp only [rowB, Bool.and_eq_true, decide_eq_true_eq] at hok
    simp only [nx1, Option.some.injEq, Prod.mk.injEq] at h
    obtain ⟨rfl, rfl, rfl⟩ := h
    obtain ⟨⟨h1, h2⟩, h3⟩ := hok
    refine lv_lconst hx hb h1 h3 ?_
    rw [← h2]
    exact K lc hL
  | ldc2_w k =>
    simp only [rowB, Bool.and_eq_true, decide_eq_true_eq] at hok
    simp only [nx1, Option.some.injEq, Prod.mk.injEq] at h
    obtain ⟨rfl, rfl, rfl⟩ := h
    obtain ⟨⟨h1, h2⟩, h3⟩ := hok
    refine lv_ldc2 hx hb hown (hts _ (wd_in h3)) h1 ?_
    rw [← h2]
    exact K lc hL
  | iload k =>
    simp only [rowB, Bool.and_eq_true, decide_eq_true_eq] at hok
    simp only [nx1] at h
    split at h
    · rename_i x hx2
      simp only [Option.some.injEq, Prod.mk.injEq] at h
      obtain ⟨rfl, rfl, rfl⟩ := h
      obtain ⟨⟨h1, h2⟩, h3⟩ := hok
      subst h3
      refine lv_iload hx hb h1 (hL.at hx2 (by simp)) ?_
      rw [← h2]
      exact K lc hL
    · cases h
  | iload_n k =>
    simp only [rowB, Bool.and_eq_true, decide_eq_true_eq] at hok
    simp only [nx1] at h
    split at h
    · rename_i x hx2
      simp only [Option.some.injEq, Prod.mk.injEq] at h
      obtain ⟨rfl, rfl, rfl⟩ := h
      obtain ⟨⟨h1, h2⟩, h3⟩ := hok
      refine lv_iload_n hx hb h1 h3 (hL.at hx2 (by simp)) ?_
      rw [← h2]
      exact K lc hL
    · cases h
  | lload k =>
    simp only [rowB, Bool.and_eq_true, decide_eq_true_eq] at hok
    simp only [nx1] at h
    split at h
    · rename_i x hx2
      simp only [Option.some.injEq, Prod.mk.injEq] at h
      obtain ⟨rfl, rfl, rfl⟩ := h
      obtain ⟨⟨h1, h2⟩, h3⟩ := hok
      subst h3
      refine lv_lload hx hb h1 (hL.at hx2 (by simp)) ?_
      rw [← h2]
      exact K lc hL
    · cases h
  | lload_n k =>
    simp only [rowB, Bool.and_eq_true, decide_eq_true_eq] at hok
    simp only [nx1] at h
    split at h
    · rename_i x hx2
      simp only [Option.some.injEq, Prod.mk.injEq] at h
      obtain ⟨rfl, rfl, rfl⟩ := h
      obtain ⟨⟨h1, h2⟩, h3⟩ := hok
      refine lv_lload_n hx hb h1 h3 (hL.at hx2 (by simp)) ?_
      rw [← h2]
      exact K lc hL
    · cases h
  | aload k =>
    simp only [rowB, Bool.and_eq_true, decide_eq_true_eq] at hok
    simp only [nx1] at h
    split at h
    · rename_i x hx2
      simp only [Option.some.injEq, Prod.mk.injEq] at h
      obtain ⟨rfl, rfl, rfl⟩ := h
      obtain ⟨⟨h1, h2⟩, h3⟩ := hok
      subst h3
      refine lv_aload hx hb h1 (hL.at hx2 (by simp)) ?_
      rw [← h2]
      exact K lc hL
    · cases h
  | aload_n k =>
    simp only [rowB, Bool.and_eq_true, decide_eq_true_eq] at hok
    simp only [nx1] at h
    split at h
    · rename_i x hx2
      simp only [Option.some.injEq, Prod.mk.injEq] at h
      obtain ⟨rfl, rfl, rfl⟩ := h
      obtain ⟨⟨h1, h2⟩, h3⟩ := hok
      refine lv_aload_n hx hb h1 h3 (hL.at hx2 (by simp)) ?_
      rw [← h2]
      exact K lc hL
    · cases h
  | istore k =>
    simp only [rowB, Bool.and_eq_true, decide_eq_true_eq] at hok
    simp only [nx1] at h
    split at h
    · simp only [Option.some.injEq, Prod.mk.injEq] at h
      obtain ⟨rfl, rfl, rfl⟩ := h
      obtain ⟨⟨h1, h2⟩, h3, h4⟩ := hok
      subst h3
      refine lv_istore hx hb h1 hL.has h4 rfl (fun lc' hl' => ?_)
      rw [← h2]
      exact K lc' (hL.store1 h4 hl')
    · cases h
  | istore_n k =>
    simp only [rowB, Bool.and_eq_true, decide_eq_true_eq] at hok
    simp only [nx1] at h
    split at h
    · simp only [Option.some.injEq, Prod.mk.injEq] at h
      obtain ⟨rfl, rfl, rfl⟩ := h
      obtain ⟨⟨h1, h2⟩, h3, h4⟩ := hok
      refine lv_istore_n hx hb h1 h3 hL.has h4 rfl (fun lc' hl' => ?_)
      rw [← h2]
      exact K lc' (hL.store1 h4 hl')
    · cases h
  | astore k =>
    simp only [rowB, Bool.and_eq_true, decide_eq_true_eq] at hok
    simp only [nx1] at h
    split at h
    · simp only [Option.some.injEq, Prod.mk.injEq] at h
      obtain ⟨rfl, rfl, rfl⟩ := h
      obtain ⟨⟨h1, h2⟩, h3, h4⟩ := hok
      subst h3
      refine lv_astore hx hb h1 hL.has h4 rfl (fun lc' hl' => ?_)
      rw [← h2]
      exact K lc' (hL.store1 h4 hl')
    · cases h
  | astore_n k =>
    simp only [rowB, Bool.and_eq_true, decide_eq_true_eq] at hok
    simp only [nx1] at h
    split at h
    · simp only [Option.some.injEq, Prod.mk.injEq] at h
      obtain ⟨rfl, rfl, rfl⟩ := h
      obtain ⟨⟨h1, h2⟩, h3, h4⟩ := hok
      refine lv_astore_n hx hb h1 h3 hL.has h4 rfl (fun lc' hl' => ?_)
      rw [← h2]
      exact K lc' (hL.store1 h4 hl')
    · cases h
  | lstore k =>
    simp only [rowB, Bool.and_eq_true, decide_eq_true_eq] at hok
    simp only [nx1] at h
    split at h
    · simp only [Option.some.injEq, Prod.mk.injEq] at h
      obtain ⟨rfl, rfl, rfl⟩ := h
      obtain ⟨⟨h1, h2⟩, h3, h4⟩ := hok
      subst h3
      refine lv_lstore hx hb h1 hL.has h4 rfl (fun lc' hl' => ?_)
      rw [← h2]
      exact K lc' (hL.store2 h4 hl')
    · cases h
  | lstore_n k =>
    simp only [rowB, Bool.and_eq_true, decide_eq_true_eq] at hok
    simp only [nx1] at h
    split at h
    · simp only [Option.some.injEq, Prod.mk.injEq] at h
      obtain ⟨rfl, rfl, rfl⟩ := h
      obtain ⟨⟨h1, h2⟩, h3, h4⟩ := hok
      refine lv_lstore_n hx hb h1 h3 hL.has h4 rfl (fun lc' hl' => ?_)
      rw [← h2]
      exact K lc' (hL.store2 h4 hl')
    · cases h
  | iinc k n =>
    simp only [rowB, Bool.and_eq_true, decide_eq_true_eq] at hok
    simp only [nx1] at h
    split at h
    · rename_i x hx2
      simp only [Option.some.injEq, Prod.mk.injEq] at h
      obtain ⟨rfl, rfl, rfl⟩ := h
      obtain ⟨⟨h1, h2⟩, h3, h4, h5⟩ := hok
      subst h3
      subst h5
      obtain ⟨q, hq⟩ := List.getElem?_of_mem (lvl_mem (ρ := ρ) (ls := ls) (q := (k, .int x)) |>.mpr ⟨_, hx2, by simp, rfl⟩)
      refine lv_iinc hx hb h1 hL.has hq rfl h4 rfl (fun lc' hl' => ?_)
      rw [← h2]
      exact K lc' (hL.store1 (v := .int (x + Int32.ofInt n)) h4 hl')
    · cases h
  | iadd =>
    simp only [rowB, Bool.and_eq_true, decide_eq_true_eq] at hok
    simp only [nx1] at h
    split at h
    · simp only [Option.some.injEq, Prod.mk.injEq] at h
      obtain ⟨rfl, rfl, rfl⟩ := h
      obtain ⟨h1, h2⟩ := hok
      refine lv_iadd hx hb h1 ?_
      rw [← h2]
      exact K lc hL
    · cases h
  | isub =>
    simp only [rowB, Bool.and_eq_true, decide_eq_true_eq] at hok
    simp only [nx1] at h
    split at h
    · simp only [Option.some.injEq, Prod.mk.injEq] at h
      obtain ⟨rfl, rfl, rfl⟩ := h
      obtain ⟨h1, h2⟩ := hok
      refine lv_isub hx hb h1 ?_
      rw [← h2]
      exact K lc hL
    · cases h
  | imul =>
    simp only [rowB, Bool.and_eq_true, decide_eq_true_eq] at hok
    simp only [nx1] at h
    split at h
    · simp only [Option.some.injEq, Prod.mk.injEq] at h
      obtain ⟨rfl, rfl, rfl⟩ := h
      obtain ⟨h1, h2⟩ := hok
      refine lv_imul hx hb h1 ?_
      rw [← h2]
      exact K lc hL
    · cases h
  | iand =>
    simp only [rowB, Bool.and_eq_true, decide_eq_true_eq] at hok
    simp only [nx1] at h
    split at h
    · simp only [Option.some.injEq, Prod.mk.injEq] at h
      obtain ⟨rfl, rfl, rfl⟩ := h
      obtain ⟨h1, h2⟩ := hok
      refine lv_iand hx hb h1 ?_
      rw [← h2]
      exact K lc hL
    · cases h
  | ior =>
    simp only [rowB, Bool.and_eq_true, decide_eq_true_eq] at hok
    simp only [nx1] at h
    split at h
    · simp only [Option.some.injEq, Prod.mk.injEq] at h
      obtain ⟨rfl, rfl, rfl⟩ := h
      obtain ⟨h1, h2⟩ := hok
      refine lv_ior hx hb h1 ?_
      rw [← h2]
      exact K lc hL
    · cases h
  | ixor =>
    simp only [rowB, Bool.and_eq_true, decide_eq_true_eq] at hok
    simp only [nx1] at h
    split at h
    · simp only [Option.some.injEq, Prod.mk.injEq] at h
      obtain ⟨rfl, rfl, rfl⟩ := h
      obtain ⟨h1, h2⟩ := hok
      refine lv_ixor hx hb h1 ?_
      rw [← h2]
      exact K lc hL
    · cases h
  | ishl =>
    simp only [rowB, Bool.and_eq_true, decide_eq_true_eq] at hok
    simp only [nx1] at h
    split at h
    · simp only [Option.some.injEq, Prod.mk.injEq] at h
      obtain ⟨rfl, rfl, rfl⟩ := h
      obtain ⟨h1, h2⟩ := hok
      refine lv_ishl hx hb h1 ?_
      rw [← h2]
      exact K lc hL
    · cases h
  | ishr =>
    simp only [rowB, Bool.and_eq_true, decide_eq_true_eq] at hok
    simp only [nx1] at h
    split at h
    · simp only [Option.some.injEq, Prod.mk.injEq] at h
      obtain ⟨rfl, rfl, rfl⟩ := h
      obtain ⟨h1, h2⟩ := hok
      refine lv_ishr hx hb h1 ?_
      rw [← h2]
      exact K lc hL
    · cases h
  | ladd =>
    simp only [rowB, Bool.and_eq_true, decide_eq_true_eq] at hok
    simp only [nx1] at h
    split at h
    · simp only [Option.some.injEq, Prod.mk.injEq] at h
      obtain ⟨rfl, rfl, rfl⟩ := h
      obtain ⟨h1, h2⟩ := hok
      refine lv_ladd hx hb h1 ?_
      rw [← h2]
      exact K lc hL
    · cases h
  | lmul =>
    simp only [rowB, Bool.and_eq_true, decide_eq_true_eq] at hok
    simp only [nx1] at h
    split at h
    · simp only [Option.some.injEq, Prod.mk.injEq] at h
      obtain ⟨rfl, rfl, rfl⟩ := h
      obtain ⟨h1, h2⟩ := hok
      refine lv_lmul hx hb h1 ?_
      rw [← h2]
      exact K lc hL
    · cases h
  | iushr =>
    simp only [rowB, Bool.and_eq_true, decide_eq_true_eq] at hok
    simp only [nx1] at h
    split at h
    · simp only [Option.some.injEq, Prod.mk.injEq] at h
      obtain ⟨rfl, rfl, rfl⟩ := h
      obtain ⟨h1, h2⟩ := hok
      refine lv_iushr hx hb h1 rfl ?_
      rw [← h2]
      exact K lc hL
    · cases h
  | i2l =>
    simp only [rowB, Bool.and_eq_true, decide_eq_true_eq] at hok
    simp only [nx1] at h
    split at h
    · simp only [Option.some.injEq, Prod.mk.injEq] at h
      obtain ⟨rfl, rfl, rfl⟩ := h
      obtain ⟨h1, h2⟩ := hok
      refine lv_i2l hx hb h1 rfl ?_
      rw [← h2]
      exact K lc hL
    · cases h
  | l2i =>
    simp only [rowB, Bool.and_eq_true, decide_eq_true_eq] at hok
    simp only [nx1] at h
    split at h
    · simp only [Option.some.injEq, Prod.mk.injEq] at h
      obtain ⟨rfl, rfl, rfl⟩ := h
      obtain ⟨h1, h2⟩ := hok
      refine lv_l2i hx hb h1 rfl ?_
      rw [← h2]
      exact K lc hL
    · cases h
  | i2c =>
    simp only [rowB, Bool.and_eq_true, decide_eq_true_eq] at hok
    simp only [nx1] at h
    split at h
    · simp only [Option.some.injEq, Prod.mk.injEq] at h
      obtain ⟨rfl, rfl, rfl⟩ := h
      obtain ⟨h1, h2⟩ := hok
      refine lv_i2c hx hb h1 rfl ?_
      rw [← h2]
      exact K lc hL
    · cases h
  | lcmp =>
    simp only [rowB, Bool.and_eq_true, decide_eq_true_eq] at hok
    simp only [nx1] at h
    split at h
    · simp only [Option.some.injEq, Prod.mk.injEq] at h
      obtain ⟨rfl, rfl, rfl⟩ := h
      obtain ⟨h1, h2⟩ := hok
      refine W.lcmp hx hb h1 ?_
      rw [← h2]
      exact K lc hL
    · cases h
  | dup =>
    simp only [rowB, Bool.and_eq_true, decide_eq_true_eq] at hok
    simp only [nx1] at h
    obtain ⟨h1, h2⟩ := hok
    split at h
    · simp only [Option.some.injEq, Prod.mk.injEq] at h
      obtain ⟨rfl, rfl, rfl⟩ := h
      refine lv_dup hx hb h1 rfl ?_
      rw [← h2]
      exact K lc hL
    · simp only [Option.some.injEq, Prod.mk.injEq] at h
      obtain ⟨rfl, rfl, rfl⟩ := h
      refine lv_dup hx hb h1 rfl ?_
      rw [← h2]
      exact K lc hL
    · cases h
  | dup2 =>
    simp only [rowB, Bool.and_eq_true, decide_eq_true_eq] at hok
    simp only [nx1] at h
    obtain ⟨h1, h2⟩ := hok
    split at h
    · simp only [Option.some.injEq, Prod.mk.injEq] at h
      obtain ⟨rfl, rfl, rfl⟩ := h
      refine lv_dup2_11 hx hb h1 rfl rfl ?_
      rw [← h2]
      exact K lc hL
    · cases h
  | pop =>
    simp only [rowB, Bool.and_eq_true, decide_eq_true_eq] at hok
    simp only [nx1] at h
    obtain ⟨h1, h2⟩ := hok
    split at h
    · simp only [Option.some.injEq, Prod.mk.injEq] at h
      obtain ⟨rfl, rfl, rfl⟩ := h
      refine lv_pop hx hb h1 rfl ?_
      rw [← h2]
      exact K lc hL
    · cases h
  | goto off =>
    simp only [rowB, Bool.and_eq_true, decide_eq_true_eq] at hok
    simp only [nx1, Option.some.injEq, Prod.mk.injEq] at h
    obtain ⟨rfl, rfl, rfl⟩ := h
    obtain ⟨h1, h2⟩ := hok
    exact lv_goto hx hb h1 h2 (K lc hL)
  | ifCond cnd off =>
    simp only [rowB, Bool.and_eq_true, decide_eq_true_eq] at hok
    obtain ⟨⟨h1, h2⟩, h3⟩ := hok
    cases cnd with
    | eq =>
      simp only [nx1] at h
      split at h
      · simp only [Option.some.injEq, Prod.mk.injEq] at h
        obtain ⟨rfl, rfl, rfl⟩ := h
        refine lv_if_eq hx hb h1 h3 (fun q => ?_) (fun q => ?_)
        · have := K lc hL
          rw [if_pos q] at this
          exact this
        · have := K lc hL
          rw [if_neg q, h2] at this
          exact this
      · cases h
    | ne =>
      simp only [nx1] at h
      split at h
      · simp only [Option.some.injEq, Prod.mk.injEq] at h
        obtain ⟨rfl, rfl, rfl⟩ := h
        refine lv_if_ne hx hb h1 h3 (fun q => ?_) (fun q => ?_)
        · have := K lc hL
          rw [if_neg q] at this
          exact this
        · have := K lc hL
          rw [if_pos q, h2] at this
          exact this
      · cases h
    | lt =>
      simp only [nx1] at h
      split at h
      · simp only [Option.some.injEq, Prod.mk.injEq] at h
        obtain ⟨rfl, rfl, rfl⟩ := h
        refine lv_if_lt hx hb h1 h3 (fun q => ?_) (fun q => ?_)
        · have := K lc hL
          rw [if_pos q] at this
          exact this
        · have := K lc hL
          rw [if_neg q, h2] at this
          exact this
      · cases h
    | ge =>
      simp only [nx1] at h
      split at h
      · simp only [Option.some.injEq, Prod.mk.injEq] at h
        obtain ⟨rfl, rfl, rfl⟩ := h
        refine lv_if_ge hx hb h1 h3 (fun q => ?_) (fun q => ?_)
        · have := K lc hL
          rw [if_pos q] at this
          exact this
        · have := K lc hL
          rw [if_neg q, h2] at this
          exact this
      · cases h
    | gt =>
      simp only [nx1] at h
      split at h
      · simp only [Option.some.injEq, Prod.mk.injEq] at h
        obtain ⟨rfl, rfl, rfl⟩ := h
        refine lv_if_gt hx hb h1 h3 (fun q => ?_) (fun q => ?_)
        · have := K lc hL
          rw [if_pos q] at this
          exact this
        · have := K lc hL
          rw [if_neg q, h2] at this
          exact this
      · cases h
    | le =>
      simp only [nx1] at h
      split at h
      · simp only [Option.some.injEq, Prod.mk.injEq] at h
        obtain ⟨rfl, rfl, rfl⟩ := h
        refine lv_if_le hx hb h1 h3 (fun q => ?_) (fun q => ?_)
        · have := K lc hL
          rw [if_pos q] at this
          exact this
        · have := K lc hL
          rw [if_neg q, h2] at this
          exact this
      · cases h
  | if_icmp cnd off =>
    simp only [rowB, Bool.and_eq_true, decide_eq_true_eq] at hok
    obtain ⟨⟨h1, h2⟩, h3⟩ := hok
    cases cnd with
    | eq =>
      simp only [nx1] at h
      split at h
      · simp only [Option.some.injEq, Prod.mk.injEq] at h
        obtain ⟨rfl, rfl, rfl⟩ := h
        refine lv_icmp_eq hx hb h1 h3 (fun q => ?_) (fun q => ?_)
        · have := K lc hL
          rw [if_pos q] at this
          exact this
        · have := K lc hL
          rw [if_neg q, h2] at this
          exact this
      · cases h
    | ne =>
      simp only [nx1] at h
      split at h
      · simp only [Option.some.injEq, Prod.mk.injEq] at h
        obtain ⟨rfl, rfl, rfl⟩ := h
        refine lv_icmp_ne hx hb h1 h3 (fun q => ?_) (fun q => ?_)
        · have := K lc hL
          rw [if_neg q] at this
          exact this
        · have := K lc hL
          rw [if_pos q, h2] at this
          exact this
      · cases h
    | lt =>
      simp only [nx1] at h
      split at h
      · simp only [Option.some.injEq, Prod.mk.injEq] at h
        obtain ⟨rfl, rfl, rfl⟩ := h
        refine lv_icmp_lt hx hb h1 h3 (fun q => ?_) (fun q => ?_)
        · have := K lc hL
          rw [if_pos q] at this
          exact this
        · have := K lc hL
          rw [if_neg q, h2] at this
          exact this
      · cases h
    | ge =>
      simp only [nx1] at h
      split at h
      · simp only [Option.some.injEq, Prod.mk.injEq] at h
        obtain ⟨rfl, rfl, rfl⟩ := h
        refine lv_icmp_ge hx hb h1 h3 (fun q => ?_) (fun q => ?_)
        · have := K lc hL
          rw [if_pos q] at this
          exact this
        · have := K lc hL
          rw [if_neg q, h2] at this
          exact this
      · cases h
    | gt =>
      simp only [nx1] at h
      split at h
      · simp only [Option.some.injEq, Prod.mk.injEq] at h
        obtain ⟨rfl, rfl, rfl⟩ := h
        refine lv_icmp_gt hx hb h1 h3 (fun q => ?_) (fun q => ?_)
        · have := K lc hL
          rw [if_pos q] at this
          exact this
        · have := K lc hL
          rw [if_neg q, h2] at this
          exact this
      · cases h
    | le =>
      simp only [nx1] at h
      split at h
      · simp only [Option.some.injEq, Prod.mk.injEq] at h
        obtain ⟨rfl, rfl, rfl⟩ := h
        refine lv_icmp_le hx hb h1 h3 (fun q => ?_) (fun q => ?_)
        · have := K lc hL
          rw [if_pos q] at this
          exact this
        · have := K lc hL
          rw [if_neg q, h2] at this
          exact this
      · cases h
  | tableswitch df lo hi offs =>
    simp only [rowB, Bool.and_eq_true, decide_eq_true_eq] at hok
    simp only [nx1] at h
    split at h
    · rename_i x st0
      simp only [Option.some.injEq, Prod.mk.injEq] at h
      obtain ⟨rfl, rfl, rfl⟩ := h
      obtain ⟨h1, h2, h3, h4⟩ := hok
      rcases swT_ok (x := x) (df := a) sw offs.toList 0 h3 with ⟨k, k1, k2, o, k3, k4⟩ | ⟨k1, k2⟩
      · refine lv_tableIn hx hb h1 (by omega) (by omega) (off := o) ?_ k4 (K lc hL)
        rw [show (x.toInt - lo).toNat = k by omega, ← Array.getElem?_toList]
        exact k3
      · have hK2 := K lc hL
        rw [k2] at hK2
        refine lv_tableOut hx hb h1 ?_ h2 hK2
        rcases Int.lt_or_le x.toInt lo with q | q
        · exact Or.inl q
        · refine Or.inr ?_
          rcases Int.lt_or_le hi x.toInt with q2 | q2
          · exact q2
          · exact absurd (show x.toInt = lo + ((0 : Nat) : Int) + ((x.toInt - lo).toNat : Int) by omega) (k1 (x.toInt - lo).toNat (by omega))
    · cases h
  | lookupswitch df prs =>
    simp only [rowB, Bool.and_eq_true, decide_eq_true_eq] at hok
    simp only [nx1] at h
    split at h
    · rename_i x st0
      simp only [Option.some.injEq, Prod.mk.injEq] at h
      obtain ⟨rfl, rfl, rfl⟩ := h
      obtain ⟨h1, h2, h3, h4⟩ := hok
      exact lv_lookup hx hb h1 h4 rfl (swL_ok h2 sw prs.toList h3) (K lc hL)
    · cases h
  | getfield k =>
    simp only [rowB, Bool.and_eq_true, decide_eq_true_eq] at hok
    obtain ⟨⟨h1, h2⟩, h3⟩ := hok
    simp only [nx1] at h
    split at h
    · rename_i k0 st0
      split at h
      · rename_i ci fs hw
        split at h
        · rename_i hbq
          have hca := Nat.eq_of_beq_eq_true hbq
          subst hca
          split at h
          · rename_i v hv
            simp only [Option.some.injEq, Prod.mk.injEq] at h
            obtain ⟨rfl, rfl, rfl⟩ := h
            split at h3
            · rename_i C T N hc
              simp only [Bool.and_eq_true, decide_eq_true_eq] at h3
              have hin := inAll hc
              refine va_get hx hb hts hin hown hK hP k0 (cW_at hw) hc b h3.1 (hts _ (wd_in h3.2)) (fun _ q => q) (v := cV ρ v) (by rw [List.getElem?_map, hv]; rfl) h1 ?_
              rw [← h2]
              exact K lc hL
            · cases h3
          · cases h
        · cases h
      · cases h
    · cases h
  | _ => simp [nx1] at h
end SND1
end
section
/-! the other steps that go on are the machine's -/
theorem ftyAll {ci : Nat} {C : String} {T : u_T} {N : Nat} (h : vwCl[ci]? = some (C, T, N)) : ∀ k, k < N → parseFieldDescriptor (T k).2.2.1 = some (fty ci k) := by
  match ci, h with
  | 0, h => cases h; exact tyX0_ok
  | 1, h => cases h; exact tyX1_ok
  | 2, h => cases h; exact tyX2_ok
  | 3, h => cases h; exact tyX3_ok
  | 4, h => cases h; exact tyX4_ok
  | 5, h => cases h; exact tyX5_ok
  | 6, h => cases h; exact tyX6_ok
  | 7, h => cases h; exact tyX7_ok
  | 8, h => cases h; exact tyX8_ok
  | 9, h => cases h; exact tyX9_ok
  | n + 10, h => simp [vwCl] at h
theorem nmAll {ci : Nat} {C : String} {T : u_T} {N : Nat} (h : vwCl[ci]? = some (C, T, N)) : ∀ a, a < N → ∀ b, b < N → a ≠ b → (T a).2.1 ≠ (T b).2.1 := by
  match ci, h with
  | 0, h => cases h; exact nmX0
  | 1, h => cases h; exact nmX1
  | 2, h => cases h; exact nmX2
  | 3, h => cases h; exact nmX3
  | 4, h => cases h; exact nmX4
  | 5, h => cases h; exact nmX5
  | 6, h => cases h; exact nmX6
  | 7, h => cases h; exact nmX7
  | 8, h => cases h; exact nmX8
  | 9, h => cases h; exact nmX9
  | n + 10, h => simp [vwCl] at h
theorem nar_cV {ρ : Nat → Nat} {ty : FieldType} {v : Value} (h : narrow ty v = v) : narrow ty (cV ρ v) = cV ρ v := by
  cases v <;> first | exact h | (cases ty <;> rfl)
theorem fits_cV {ρ : Nat → Nat} {ty : FieldType} {v : Value} (h : Jvm.fits ty v = true) : Jvm.fits ty (cV ρ v) = true := by
  cases v <;> first | exact h | (cases ty <;> first | exact h | rfl)
theorem cV_dflt (ρ : Nat → Nat) (ty : FieldType) : cV ρ (defaultValue ty) = defaultValue ty := by cases ty <;> rfl
def tysA (cI cZ cC cN : ClassId) : List (ClassId × FieldType) := [(cI, .int), (cZ, .boolean), (cC, .char), (cN, .object "TwoScales$Now")]
/-- the static arrays, as they are read -/
def STs (ρ : Nat → Nat) (A : Nat → Prop) (U : State) : Prop :=
  (va_Z "TwoScales$Tale" "LOW_AT_FIRST" "[I" (.ref (ρ 1000000)) A U U.heap ∧ va_X (ρ 1000000) 3 low0 U U.heap ∧ ρ 1000000 < U.heap.size ∧ ¬ A (ρ 1000000)) ∧
  (va_Z "TwoScales$Tale" "HIGH_AT_FIRST" "[I" (.ref (ρ 1000001)) A U U.heap ∧ va_X (ρ 1000001) 3 high0 U U.heap ∧ ρ 1000001 < U.heap.size ∧ ¬ A (ρ 1000001))
section SND2
variable {p : Program} {l : Launch} {e : Env} {R : Room} {s : State} {m : MethodId} {args : Array Value} {below : List Frame} {meth : Method} {c : Code} {H : Heap} {locs : List Loc} {cells slots : Nat} {Q : State → Prop} {g : JFrame}
theorem W.sized (hlow : s.heap.size + cells ≤ H.size) (k : H.size = s.heap.size + cells → W p l e R s m args below meth c H locs cells slots Q g) : W p l e R s m args below meth c H locs cells slots Q g := fun T hT X => k (by
  have h := X.heapSize
  rw [hT] at h
  omega) T hT X
variable {D : va_G} {cI cZ cC cN : ClassId} {ρ : Nat → Nat} {w w1 : AW} {y : MethodName} {bs : ByteArray} {mx : Nat} {cr : List Row} {A : Nat → Prop} {cc0 sl0 d : Nat}
/-- how large the heap is at least -/
theorem am_low {tys : List (ClassId × FieldType)} (hP : va_P D vwCl (cW ρ tys w) H) (hS : va_S A s.heap H locs) (hw : w.length ≤ 1000) (hF : ∀ k, cc0 ≤ k → k < 1000000 → ρ k = s.heap.size + (k - cc0)) : s.heap.size + (w.length - cc0) ≤ H.size := by
  by_cases h : cc0 < w.length
  · obtain ⟨x, hx⟩ : ∃ x, w[w.length - 1]? = some x := ⟨w[w.length - 1], by rw [List.getElem?_eq_getElem]⟩
    have h1 := (hP _ _ (cW_at hx)).lt
    have h2 := hF (w.length - 1) (by omega) (by omega)
    simp only at h1
    omega
  · have := hS.1
    omega
/-- a cell that is new stands where the next one must -/
theorem am_new {tys : List (ClassId × FieldType)} {q : Nat} {x : va_E} {H1 : Heap} (hA : ∀ q, A q → s.heap.size ≤ q ∨ ∃ k, k < cc0 ∧ q = ρ k) (hcc : cc0 ≤ w.length) (hw : w.length < 1000) (hF : ∀ k, cc0 ≤ k → k < 1000000 → ρ k = s.heap.size + (k - cc0))
    (hD : va_D A (cW ρ tys w ++ [(q, x)])) (hP : va_P D vwCl (cW ρ tys w ++ [(q, x)]) H1) (hz : H1.size ≤ s.heap.size + (w.length - cc0 + 1)) : q = ρ w.length := by
  have hlen : (cW ρ tys w).length = w.length := by simp [cW]
  have hq : (cW ρ tys w ++ [(q, x)])[w.length]? = some (q, x) := by
    rw [List.getElem?_append_right (by omega), hlen, Nat.sub_self]
    rfl
  have hne : ∀ k, k < w.length → q ≠ ρ k := by
    intro k hk hqk
    obtain ⟨y, hy⟩ : ∃ y, w[k]? = some y := ⟨w[k], by rw [List.getElem?_eq_getElem]⟩
    have h1 : (cW ρ tys w ++ [(q, x)])[k]? = some (ρ k, cE ρ tys y) := by
      rw [List.getElem?_append_left (by omega)]
      exact cW_at hy
    have := hD.1 k w.length _ _ h1 hq hqk.symm
    omega
  have hlt : q < H1.size := (hP _ _ hq).lt
  have hAq : A q := hD.2 _ _ hq
  have h3 := hF w.length hcc (by omega)
  rcases hA q hAq with h4 | ⟨k, h5, h6⟩
  · by_cases h7 : q = s.heap.size + (w.length - cc0)
    · omega
    · have h8 := hF (cc0 + (q - s.heap.size)) (by omega) (by omega)
      exact absurd (by omega) (hne (cc0 + (q - s.heap.size)) (by omega))
  · exact absurd h6 (hne k (by omega))
theorem am_tyAt {t : Nat} {ty : FieldType} (h : (tysA cI cZ cC cN)[t]?.map (fun q => q.2) = some ty) : (tysA cI cZ cC cN)[t]? = some (((tysA cI cZ cC cN).getD t (0, .int)).1, ty) := by
  match t, h with
  | 0, h => cases h; rfl
  | 1, h => cases h; rfl
  | 2, h => cases h; rfl
  | 3, h => cases h; rfl
  | n + 4, h => simp [tysA] at h
set_option maxHeartbeats 4000000 in
set_option maxRecDepth 100000 in
theorem snd2 (hx : p.tables.exec = Jvm.exec) (hb : c.code = bs) (hml : c.maxLocals = mx) (hown : s.vm.findClass y.cls = some m.cls) (hin2 : y.name = "<init>" → meth.name = "<init>") (hts : ∀ x ∈ AL, x.before args s = true) (hao : va_AO "TwoScales$Now" s) (hK : va_K D vwCl (tysA cI cZ cC cN) s) (hST : STs ρ A s)
    (hA : ∀ q, s.heap.size ≤ q → A q) (hA2 : ∀ q, A q → s.heap.size ≤ q ∨ ∃ k, k < cc0 ∧ q = ρ k) (hF : ∀ k, cc0 ≤ k → k < 1000000 → ρ k = s.heap.size + (k - cc0)) (hcc : cc0 ≤ w.length) (hsl : sl0 ≤ sl w) (hwl : w.length ≤ 1000)
    (hRf : R.frames = d) (hRl : R.locals = 64 * d) (hRc : w1.length - cc0 ≤ R.cells) (hRs : sl w1 - sl0 ≤ R.slots)
    (hP : va_P D vwCl (cW ρ (tysA cI cZ cC cN) w) H) (hD : va_D A (cW ρ (tysA cI cZ cC cN) w)) (hS : va_S A s.heap H locs) {row : Row} {i : Nat} (hrow : cr[i]? = some row) (hok : rowB y bs mx cr i row = true) {rt : Option FieldType} {st : List Value} {st' : List Value} (h : nx2 row rt d st w = some (.inl (st', w1))) {ls : List Value} {lc : Array Slot} (hL : LR ρ mx ls lc)
    (K : w1.length ≤ 1000 → ∀ (H1 : Heap) (locs1 : List Loc), va_P D vwCl (cW ρ (tysA cI cZ cC cN) w1) H1 → va_D A (cW ρ (tysA cI cZ cC cN) w1) → va_S A s.heap H1 locs1 → W p l e R s m args below meth c H1 locs1 (w1.length - cc0) (sl w1 - sl0) Q (F0 m (pcq cr (i + 1)) lc (st'.map (cV ρ)))) :
    W p l e R s m args below meth c H locs (w.length - cc0) (sl w - sl0) Q (F0 m (pcq cr i) lc (st.map (cV ρ))) := by
  have hpc : pcq cr i = row.1 := by simp [pcq, hrow]
  rw [hpc]
  obtain ⟨pc, ins, a, b, z, zl, sw, ps⟩ := row
  cases ins with
  | idiv =>
    simp only [rowB, Bool.and_eq_true, decide_eq_true_eq] at hok
    simp only [nx2] at h
    split at h
    · split at h
      · cases h
      · rename_i hne
        simp only [Option.some.injEq, Sum.inl.injEq, Prod.mk.injEq] at h
        obtain ⟨rfl, rfl⟩ := h
        obtain ⟨h1, h2⟩ := hok
        refine lv_idiv hx hb h1 hne ?_
        rw [← h2]
        exact K hwl H locs hP hD hS
    · cases h
  | irem =>
    simp only [rowB, Bool.and_eq_true, decide_eq_true_eq] at hok
    simp only [nx2] at h
    split at h
    · split at h
      · cases h
      · rename_i hne
        simp only [Option.some.injEq, Sum.inl.injEq, Prod.mk.injEq] at h
        obtain ⟨rfl, rfl⟩ := h
        obtain ⟨h1, h2⟩ := hok
        refine lv_irem hx hb h1 hne ?_
        rw [← h2]
        exact K hwl H locs hP hD hS
    · cases h
  | ldiv =>
    simp only [rowB, Bool.and_eq_true, decide_eq_true_eq] at hok
    simp only [nx2] at h
    split at h
    · split at h
      · cases h
      · rename_i hne
        simp only [Option.some.injEq, Sum.inl.injEq, Prod.mk.injEq] at h
        obtain ⟨rfl, rfl⟩ := h
        obtain ⟨h1, h2⟩ := hok
        refine lv_ldiv hx hb h1 hne ?_
        rw [← h2]
        exact K hwl H locs hP hD hS
    · cases h
  | lrem =>
    simp only [rowB, Bool.and_eq_true, decide_eq_true_eq] at hok
    simp only [nx2] at h
    split at h
    · split at h
      · cases h
      · rename_i hne
        simp only [Option.some.injEq, Sum.inl.injEq, Prod.mk.injEq] at h
        obtain ⟨rfl, rfl⟩ := h
        obtain ⟨h1, h2⟩ := hok
        refine lv_lrem hx hb h1 hne ?_
        rw [← h2]
        exact K hwl H locs hP hD hS
    · cases h
  | putfield k =>
    simp only [rowB, Bool.and_eq_true, decide_eq_true_eq] at hok
    obtain ⟨⟨h1, h2⟩, h3⟩ := hok
    simp only [nx2] at h
    split at h
    · rename_i v k0 st0
      split at h
      · rename_i ci fs hw
        split at h
        · rename_i hcond
          obtain ⟨hca, hbl, hn, hf⟩ := hcond
          subst hca
          simp only [Option.some.injEq, Sum.inl.injEq, Prod.mk.injEq] at h
          obtain ⟨rfl, rfl⟩ := h
          split at h3
          · rename_i C T N hc
            simp only [Bool.and_eq_true, decide_eq_true_eq, Bool.or_eq_true, Bool.not_eq_true'] at h3
            obtain ⟨h3, h4, h5⟩ := h3
            have key : ∀ (H1 : Heap) (locs1 : List Loc), va_P D vwCl ((cW ρ (tysA cI cZ cC cN) w).set k0 (ρ k0, .inr (ci, (fs.map (cV ρ)).set b (cV ρ v)))) H1 → va_D A ((cW ρ (tysA cI cZ cC cN) w).set k0 (ρ k0, .inr (ci, (fs.map (cV ρ)).set b (cV ρ v)))) → va_S A s.heap H1 locs1 → W p l e R s m args below meth c H1 locs1 (w.length - cc0) (sl w - sl0) Q (F0 m (pc + 3) lc (st0.map (cV ρ))) := by
              intro H1 locs1 hP1 hD1 hS1
              have e1 : (cW ρ (tysA cI cZ cC cN) w).set k0 (ρ k0, .inr (ci, (fs.map (cV ρ)).set b (cV ρ v))) = cW ρ (tysA cI cZ cC cN) (w.set k0 (.inr (ci, fs.set b v))) := by
                rw [cW_set]
                simp only [cE, List.map_set]
              rw [e1] at hP1 hD1
              have e2 : sl (w.set k0 (.inr (ci, fs.set b v))) = sl w := sl_set hw (by simp [sl1])
              have := K (by simpa using hwl) H1 locs1 hP1 hD1 hS1
              rw [e2, List.length_set, h2] at this
              exact this
            by_cases hfin : (T b).2.2.2 = true
            · have h6 := h5.resolve_left (by rw [hfin]; simp)
              exact va_putF hx hb hts (inAll hc) (fty ci) (ftyAll hc) (nmAll hc) hown hK hP hD hS k0 (cW_at hw) hc b h3 (hts _ (wd_in h4)) (fun _ q => q) hfin (hin2 h6.1) h6.2 (ftyAll hc b h3) (nar_cV hn) (fits_cV hf) (by simpa using hbl) h1 key
            · exact va_put hx hb hts (inAll hc) (fty ci) (ftyAll hc) (nmAll hc) hown hK hP hD hS k0 (cW_at hw) hc b h3 (hts _ (wd_in h4)) (fun _ q => q) (by simpa using hfin) (ftyAll hc b h3) (nar_cV hn) (fits_cV hf) (by simpa using hbl) h1 key
          · cases h3
        · cases h
      · cases h
    · cases h
  | getstatic k =>
    simp only [rowB, Bool.and_eq_true, decide_eq_true_eq] at hok
    obtain ⟨⟨h1, h2⟩, h3⟩ := hok
    simp only [nx2, Option.some.injEq, Sum.inl.injEq, Prod.mk.injEq] at h
    obtain ⟨rfl, rfl⟩ := h
    split at h3
    · rename_i ha
      subst ha
      refine va_gets hx hb hST.1.1 hS hown (hts _ (wd_in h3)) (fun _ q => q) h1 ?_
      rw [← h2]
      exact K hwl H locs hP hD hS
    · simp only [Bool.and_eq_true, decide_eq_true_eq] at h3
      obtain ⟨ha, h3⟩ := h3
      subst ha
      refine va_gets hx hb hST.2.1 hS hown (hts _ (wd_in h3)) (fun _ q => q) h1 ?_
      rw [← h2]
      exact K hwl H locs hP hD hS
  | iaload =>
    simp only [rowB, Bool.and_eq_true, decide_eq_true_eq] at hok
    obtain ⟨h1, h2⟩ := hok
    simp only [nx2] at h
    split at h
    · rename_i j k0 st0
      split at h
      · rename_i hk
        subst hk
        split at h
        · rename_i hj
          simp only [Option.some.injEq, Sum.inl.injEq, Prod.mk.injEq] at h
          obtain ⟨rfl, rfl⟩ := h
          refine va_sld hx hb hST.1.2.1 hST.1.2.2.1 hST.1.2.2.2 hS (vin_iff.mp hj) h1 ?_
          rw [← h2]
          exact K hwl H locs hP hD hS
        · cases h
      · split at h
        · rename_i hk
          subst hk
          split at h
          · rename_i hj
            simp only [Option.some.injEq, Sum.inl.injEq, Prod.mk.injEq] at h
            obtain ⟨rfl, rfl⟩ := h
            refine va_sld hx hb hST.2.2.1 hST.2.2.2.1 hST.2.2.2.2 hS (vin_iff.mp hj) h1 ?_
            rw [← h2]
            exact K hwl H locs hP hD hS
          · cases h
        · split at h
          · rename_i t n f hw
            split at h
            · rename_i hj
              obtain ⟨ht, hj⟩ := hj
              subst ht
              simp only [Option.some.injEq, Sum.inl.injEq, Prod.mk.injEq] at h
              obtain ⟨rfl, rfl⟩ := h
              refine va_iald hx hb hK hP k0 0 (cW_at hw) (am_tyAt rfl) (vin_iff.mp hj) h1 ?_
              rw [← h2]
              exact K hwl H locs hP hD hS
            · cases h
          · cases h
    · cases h
  | baload =>
    simp only [rowB, Bool.and_eq_true, decide_eq_true_eq] at hok
    obtain ⟨h1, h2⟩ := hok
    simp only [nx2] at h
    split at h
    · rename_i j k0 st0
      split at h
      · rename_i t n f hw
        split at h
        · rename_i hj
          obtain ⟨ht, hj⟩ := hj
          subst ht
          simp only [Option.some.injEq, Sum.inl.injEq, Prod.mk.injEq] at h
          obtain ⟨rfl, rfl⟩ := h
          refine va_zald hx hb hK hP k0 1 (cW_at hw) (am_tyAt rfl) (vin_iff.mp hj) h1 ?_
          rw [← h2]
          exact K hwl H locs hP hD hS
        · cases h
      · cases h
    · cases h
  | caload =>
    simp only [rowB, Bool.and_eq_true, decide_eq_true_eq] at hok
    obtain ⟨h1, h2⟩ := hok
    simp only [nx2] at h
    split at h
    · rename_i j k0 st0
      split at h
      · rename_i t n f hw
        split at h
        · rename_i hj
          obtain ⟨ht, hj⟩ := hj
          subst ht
          simp only [Option.some.injEq, Sum.inl.injEq, Prod.mk.injEq] at h
          obtain ⟨rfl, rfl⟩ := h
          refine va_cald hx hb hK hP k0 2 (cW_at hw) (am_tyAt rfl) (vin_iff.mp hj) h1 ?_
          rw [← h2]
          exact K hwl H locs hP hD hS
        · cases h
      · cases h
    · cases h
  | aaload =>
    simp only [rowB, Bool.and_eq_true, decide_eq_true_eq] at hok
    obtain ⟨h1, h2⟩ := hok
    simp only [nx2] at h
    split at h
    · rename_i j k0 st0
      split at h
      · rename_i t n f hw
        split at h
        · rename_i hj
          obtain ⟨ht, hj⟩ := hj
          subst ht
          split at h
          · rename_i q hq
            simp only [Option.some.injEq, Sum.inl.injEq, Prod.mk.injEq] at h
            obtain ⟨rfl, rfl⟩ := h
            refine va_aldq hx hb hK hP k0 3 (cW_at hw) (am_tyAt rfl) (vin_iff.mp hj) h1 ?_
            rw [← h2, hq]
            exact K hwl H locs hP hD hS
          · cases h
        · cases h
      · cases h
    · cases h
  | iastore =>
    simp only [rowB, Bool.and_eq_true, decide_eq_true_eq] at hok
    obtain ⟨h1, h2⟩ := hok
    simp only [nx2] at h
    split at h
    · rename_i x j k0 st0
      split at h
      · rename_i t n f hw
        split at h
        · rename_i hj
          obtain ⟨ht, hj⟩ := hj
          subst ht
          simp only [Option.some.injEq, Sum.inl.injEq, Prod.mk.injEq] at h
          obtain ⟨rfl, rfl⟩ := h
          refine va_iast hx hb hK hP hD hS k0 0 (cW_at hw) (am_tyAt rfl) (vin_iff.mp hj) h1 (fun H1 locs1 hP1 hD1 hS1 => ?_)
          have e1 : (cW ρ (tysA cI cZ cC cN) w).set k0 (ρ k0, .inl (((tysA cI cZ cC cN).getD 0 (0, .int)).1, n, .inl (upd f j.toNatClampNeg x))) = cW ρ (tysA cI cZ cC cN) (w.set k0 (.inl (0, n, .inl (upd f j.toNatClampNeg x)))) := by
            rw [cW_set]
            rfl
          rw [e1] at hP1 hD1
          have e2 : sl (w.set k0 (.inl (0, n, .inl (upd f j.toNatClampNeg x)))) = sl w := sl_set hw rfl
          have := K (by simpa using hwl) H1 locs1 hP1 hD1 hS1
          rw [e2, List.length_set, h2] at this
          exact this
        · cases h
      · cases h
    · cases h
  | bastore =>
    simp only [rowB, Bool.and_eq_true, decide_eq_true_eq] at hok
    obtain ⟨h1, h2⟩ := hok
    simp only [nx2] at h
    split at h
    · rename_i x j k0 st0
      split at h
      · rename_i t n f hw
        split at h
        · rename_i hj
          obtain ⟨ht, hj, hx01⟩ := hj
          subst ht
          simp only [Option.some.injEq, Sum.inl.injEq, Prod.mk.injEq] at h
          obtain ⟨rfl, rfl⟩ := h
          refine va_zast hx hb hK hP hD hS k0 1 (cW_at hw) (am_tyAt rfl) (vin_iff.mp hj) h1 (fun H1 locs1 hP1 hD1 hS1 => ?_)
          rw [show vp_nar .boolean x = x by rcases hx01 with rfl | rfl <;> rfl] at hP1 hD1
          have e1 : (cW ρ (tysA cI cZ cC cN) w).set k0 (ρ k0, .inl (((tysA cI cZ cC cN).getD 1 (0, .int)).1, n, .inl (upd f j.toNatClampNeg x))) = cW ρ (tysA cI cZ cC cN) (w.set k0 (.inl (1, n, .inl (upd f j.toNatClampNeg x)))) := by
            rw [cW_set]
            rfl
          rw [e1] at hP1 hD1
          have e2 : sl (w.set k0 (.inl (1, n, .inl (upd f j.toNatClampNeg x)))) = sl w := sl_set hw rfl
          have := K (by simpa using hwl) H1 locs1 hP1 hD1 hS1
          rw [e2, List.length_set, h2] at this
          exact this
        · cases h
      · cases h
    · cases h
  | castore =>
    simp only [rowB, Bool.and_eq_true, decide_eq_true_eq] at hok
    obtain ⟨h1, h2⟩ := hok
    simp only [nx2] at h
    split at h
    · rename_i x j k0 st0
      split at h
      · rename_i t n f hw
        split at h
        · rename_i hj
          obtain ⟨ht, hj, hx01⟩ := hj
          subst ht
          simp only [Option.some.injEq, Sum.inl.injEq, Prod.mk.injEq] at h
          obtain ⟨rfl, rfl⟩ := h
          refine va_cast hx hb hK hP hD hS k0 2 (cW_at hw) (am_tyAt rfl) (vin_iff.mp hj) h1 (fun H1 locs1 hP1 hD1 hS1 => ?_)
          rw [hx01] at hP1 hD1
          have e1 : (cW ρ (tysA cI cZ cC cN) w).set k0 (ρ k0, .inl (((tysA cI cZ cC cN).getD 2 (0, .int)).1, n, .inl (upd f j.toNatClampNeg x))) = cW ρ (tysA cI cZ cC cN) (w.set k0 (.inl (2, n, .inl (upd f j.toNatClampNeg x)))) := by
            rw [cW_set]
            rfl
          rw [e1] at hP1 hD1
          have e2 : sl (w.set k0 (.inl (2, n, .inl (upd f j.toNatClampNeg x)))) = sl w := sl_set hw rfl
          have := K (by simpa using hwl) H1 locs1 hP1 hD1 hS1
          rw [e2, List.length_set, h2] at this
          exact this
        · cases h
      · cases h
    · cases h
  | aastore =>
    simp only [rowB, Bool.and_eq_true, decide_eq_true_eq] at hok
    obtain ⟨h1, h2⟩ := hok
    simp only [nx2] at h
    split at h
    · rename_i v j k0 st0
      split at h
      · rename_i ci fs hv
        split at h
        · rename_i t n f hw
          split at h
          · rename_i hj
            obtain ⟨ht, hci, hj⟩ := hj
            subst ht
            subst hci
            simp only [Option.some.injEq, Sum.inl.injEq, Prod.mk.injEq] at h
            obtain ⟨rfl, rfl⟩ := h
            refine va_astq hx hb hK hP hD hS k0 3 v 4 (r := (RX4, TX4, 3)) (cW_at hw) (am_tyAt rfl) (cW_at hv) rfl (vin_iff.mp hj) h1 (fun H1 locs1 hP1 hD1 hS1 => ?_)
            have e0 : va_up (fun i => (f i).map ρ) j.toNatClampNeg (some (ρ v)) = fun i => (va_up f j.toNatClampNeg (some v) i).map ρ := by
              funext q
              by_cases hq : q = j.toNatClampNeg
              · simp [va_up, hq]
              · simp [va_up, hq]
            rw [e0] at hP1 hD1
            have e1 : (cW ρ (tysA cI cZ cC cN) w).set k0 (ρ k0, .inl (((tysA cI cZ cC cN).getD 3 (0, .int)).1, n, .inr (.inr (.inr (.inr (fun i => (va_up f j.toNatClampNeg (some v) i).map ρ)))))) = cW ρ (tysA cI cZ cC cN) (w.set k0 (.inl (3, n, .inr (.inr (.inr (.inr (va_up f j.toNatClampNeg (some v)))))))) := by
              rw [cW_set]
              rfl
            rw [e1] at hP1 hD1
            have e2 : sl (w.set k0 (.inl (3, n, .inr (.inr (.inr (.inr (va_up f j.toNatClampNeg (some v)))))))) = sl w := sl_set hw rfl
            have := K (by simpa using hwl) H1 locs1 hP1 hD1 hS1
            rw [e2, List.length_set, h2] at this
            exact this
          · cases h
        · cases h
      · cases h
    · cases h
  | arraylength =>
    simp only [rowB, Bool.and_eq_true, decide_eq_true_eq] at hok
    obtain ⟨h1, h2⟩ := hok
    simp only [nx2] at h
    split at h
    · rename_i k0 st0
      split at h
      · rename_i t n f hw
        split at h
        · rename_i hj
          obtain ⟨ht, hj⟩ := hj
          subst ht
          simp only [Option.some.injEq, Sum.inl.injEq, Prod.mk.injEq] at h
          obtain ⟨rfl, rfl⟩ := h
          refine va_alen hx hb hK hP k0 0 (cW_at hw) (am_tyAt (ty := .int) rfl) rfl h1 ?_
          rw [← h2]
          exact K hwl H locs hP hD hS
        · cases h
      · cases h
    · cases h
  | new k =>
    simp only [rowB, Bool.and_eq_true, decide_eq_true_eq] at hok
    obtain ⟨⟨h1, h2⟩, h3⟩ := hok
    simp only [nx2] at h
    split at h
    · rename_i hw1
      simp only [Option.some.injEq, Sum.inl.injEq, Prod.mk.injEq] at h
      obtain ⟨rfl, rfl⟩ := h
      split at h3
      · rename_i C T N hc
        simp only [Bool.and_eq_true, decide_eq_true_eq] at h3
        obtain ⟨h3, h4, h5, h6⟩ := h3
        subst h3
        have hsz : sl (w ++ [Sum.inr (a, fds a b)]) = sl w + b := by rw [sl_push]; simp [sl1, fds]
        have hln : (w ++ [(Sum.inr (a, fds a b) : AE)]).length = w.length + 1 := by simp
        rw [hsz] at hRs K
        rw [hln] at hRc K
        refine W.sized (am_low hP hS hwl hF) (fun hH => ?_)
        refine va_new (ci := a) (fs := (fds a b).map (cV ρ)) hx hb hts (inAll hc) (fty a) (ftyAll hc) hown (hts _ (wd_in h4)) (hts _ (wd_in h5)) (hts _ (wd_in h6)) hK hP hD hS hA hc (fun j hj => ?_) (by omega) (by omega) h1 (fun q H1 hP1 hD1 hS1 => ?_)
        · simp [vp_V, fds, hj, cV_dflt]
        · intro T hT X
          have hh := X.heapSize
          rw [hT] at hh
          have hq := am_new hA2 hcc hw1 hF hD1 hP1 hh
          subst hq
          have e1 : cW ρ (tysA cI cZ cC cN) w ++ [(ρ w.length, .inr (a, (fds a b).map (cV ρ)))] = cW ρ (tysA cI cZ cC cN) (w ++ [.inr (a, fds a b)]) := by rw [cW_push]; rfl
          rw [e1] at hP1 hD1
          have := K (by omega) H1 locs hP1 hD1 hS1
          rw [h2, show w.length + 1 - cc0 = w.length - cc0 + 1 by omega, show sl w + b - sl0 = sl w - sl0 + b by omega] at this
          exact this T hT X
      · cases h3
    · cases h
  | newarray t =>
    simp only [rowB, Bool.and_eq_true, decide_eq_true_eq] at hok
    obtain ⟨⟨h1, h2⟩, h3, h4, h5⟩ := hok
    simp only [nx2] at h
    split at h
    · rename_i n st0
      split at h
      · rename_i hw1
        obtain ⟨hn, hn2, hw1⟩ := hw1
        simp only [Option.some.injEq, Sum.inl.injEq, Prod.mk.injEq] at h
        obtain ⟨rfl, rfl⟩ := h
        have hsz : sl (w ++ [(Sum.inl (a, n.toNatClampNeg, .inl (fun _ => 0)) : AE)]) = sl w + n.toNatClampNeg := by rw [sl_push]; rfl
        have hln : (w ++ [(Sum.inl (a, n.toNatClampNeg, .inl (fun _ => 0)) : AE)]).length = w.length + 1 := by simp
        rw [hsz] at hRs K
        rw [hln] at hRc K
        generalize hty : newarray.typeOf t = ty at h4 h5
        have hdv : ∀ cA : ClassId, vp_cell cA (n.toNatClampNeg, .inl (fun _ => 0)) = arrV cA n.toNatClampNeg (fun _ => defaultValue ty) := by
          intro cA
          match a, h4 with
          | 0, h4 => cases h4; rfl
          | 1, h4 => cases h4; rfl
          | 2, h4 => cases h4; rfl
        have hcb : n.toNatClampNeg * componentBytes ty ≤ 536870912 := by
          have : componentBytes ty ≤ 8 := by cases ty <;> simp [componentBytes]
          calc n.toNatClampNeg * componentBytes ty ≤ 1000 * 8 := Nat.mul_le_mul hn2 this
            _ ≤ 536870912 := by omega
        have hat : (tysA cI cZ cC cN)[a]? = some (((tysA cI cZ cC cN).getD a (0, .int)).1, ty) := by
          match a, h4 with
          | 0, h4 => cases h4; rfl
          | 1, h4 => cases h4; rfl
          | 2, h4 => cases h4; rfl
        refine W.sized (am_low hP hS hwl hF) (fun hH => ?_)
        refine va_newa hx hb (by rw [hty]; exact hts _ (wd_in h5)) hty hK hP hD hS hA (a0 := (n.toNatClampNeg, .inl (fun _ => 0))) hdv hn rfl hcb (by omega) (by omega) h1 (fun q cA H1 hK1 hP1 hD1 hS1 => ?_)
        have hcA : ((tysA cI cZ cC cN).getD a (0, .int)).1 = cA := by
          have g1 := (hK.2 a _ hat).2
          have g2 := (hK1.2 4 (cA, ty) rfl).2
          match a, h4 with
          | 0, h4 => cases h4; exact Option.some.inj (g1.symm.trans g2)
          | 1, h4 => cases h4; exact Option.some.inj (g1.symm.trans g2)
          | 2, h4 => cases h4; exact Option.some.inj (g1.symm.trans g2)
        intro T hT X
        have hh := X.heapSize
        rw [hT] at hh
        have hq := am_new hA2 hcc hw1 hF hD1 hP1 hh
        subst hq
        have e1 : cW ρ (tysA cI cZ cC cN) w ++ [(ρ w.length, .inl (cA, n.toNatClampNeg, .inl (fun _ => 0)))] = cW ρ (tysA cI cZ cC cN) (w ++ [.inl (a, n.toNatClampNeg, .inl (fun _ => 0))]) := by
          rw [cW_push, ← hcA]
          rfl
        rw [e1] at hP1 hD1
        have := K (by omega) H1 locs hP1 hD1 hS1
        rw [h2, show w.length + 1 - cc0 = w.length - cc0 + 1 by omega, show sl w + n.toNatClampNeg - sl0 = sl w - sl0 + n.toNatClampNeg by omega] at this
        exact this T hT X
      · cases h
    · cases h
  | anewarray k =>
    simp only [rowB, Bool.and_eq_true, decide_eq_true_eq] at hok
    obtain ⟨⟨h1, h2⟩, h3⟩ := hok
    simp only [nx2] at h
    split at h
    · rename_i n st0
      split at h
      · rename_i hw1
        obtain ⟨hn, hn2, hw1⟩ := hw1
        simp only [Option.some.injEq, Sum.inl.injEq, Prod.mk.injEq] at h
        obtain ⟨rfl, rfl⟩ := h
        have hsz : sl (w ++ [(Sum.inl (3, n.toNatClampNeg, .inr (.inr (.inr (.inr (fun _ => none))))) : AE)]) = sl w + n.toNatClampNeg := by rw [sl_push]; rfl
        have hln : (w ++ [(Sum.inl (3, n.toNatClampNeg, .inr (.inr (.inr (.inr (fun _ => none))))) : AE)]).length = w.length + 1 := by simp
        rw [hsz] at hRs K
        rw [hln] at hRc K
        refine W.sized (am_low hP hS hwl hF) (fun hH => ?_)
        refine va_newq hx hb hown (hts _ (wd_in h3)) hao hK hP hD hS hA hn rfl (by omega) (by omega) (by omega) h1 (fun q cA H1 hK1 hP1 hD1 hS1 => ?_)
        have hcA : ((tysA cI cZ cC cN).getD 3 (0, .int)).1 = cA := by
          obtain ⟨_, _, _, _, _, g1⟩ := (hK.2 3 (cN, .object "TwoScales$Now") rfl).2
          obtain ⟨_, _, _, _, _, g2⟩ := (hK1.2 4 (cA, .object "TwoScales$Now") rfl).2
          exact Option.some.inj (g1.symm.trans g2)
        intro T hT X
        have hh := X.heapSize
        rw [hT] at hh
        have hq := am_new hA2 hcc hw1 hF hD1 hP1 hh
        subst hq
        have e1 : cW ρ (tysA cI cZ cC cN) w ++ [(ρ w.length, .inl (cA, n.toNatClampNeg, .inr (.inr (.inr (.inr (fun _ => none))))))] = cW ρ (tysA cI cZ cC cN) (w ++ [.inl (3, n.toNatClampNeg, .inr (.inr (.inr (.inr (fun _ => none)))))]) := by
          rw [cW_push, ← hcA]
          rfl
        rw [e1] at hP1 hD1
        have := K (by omega) H1 locs hP1 hD1 hS1
        rw [h2, show w.length + 1 - cc0 = w.length - cc0 + 1 by omega, show sl w + n.toNatClampNeg - sl0 = sl w - sl0 + n.toNatClampNeg by omega] at this
        exact this T hT X
      · cases h
    · cases h
  | invokestatic k =>
    simp only [rowB, Bool.and_eq_true, decide_eq_true_eq] at hok
    obtain ⟨⟨h1, h2⟩, h3⟩ := hok
    simp only [nx2] at h
    split at h
    · rename_i ha
      rw [if_pos ha] at h3
      simp only [Bool.and_eq_true] at h3
      obtain ⟨h3, h4, h5, h6⟩ := h3
      split at h
      · rename_i n dp k1 sp k0 st0
        split at h
        · rename_i t0 n0 f t1 n1 g hw0 hw1
          split at h
          · rename_i hcond
            obtain ⟨ht0, ht1, hd, hcat, c1, c2, c3, c4, c5⟩ := hcond
            subst ht0
            subst ht1
            simp only [Option.some.injEq, Sum.inl.injEq, Prod.mk.injEq] at h
            obtain ⟨rfl, rfl⟩ := h
            refine va_copyi hx hb (by rw [hml]; exact hL.1.symm) hown (hts _ (wd_in h3)) (hts _ (wd_in h4)) (hts _ (wd_in h5)) (hts _ (wd_in h6)) hK hP hD hS k0 k1 0 0 (cW_at hw0) (cW_at hw1) (am_tyAt rfl) (am_tyAt rfl) rfl c1 c2 c3 c4 c5 (fun _ _ => rfl) (by omega) ?_ h1 (fun H1 locs1 hP1 hD1 hS1 => ?_)
            · rw [cats]
              have : nativeFrameWords "java/lang/System" "arraycopy" 5 = 7 := by decide +kernel
              omega
            · have e1 : (cW ρ (tysA cI cZ cC cN) w).set k1 (ρ k1, .inl (((tysA cI cZ cC cN).getD 0 (0, .int)).1, n1, .inl (va_cpy f g sp.toNatClampNeg dp.toNatClampNeg n.toNatClampNeg))) = cW ρ (tysA cI cZ cC cN) (w.set k1 (.inl (0, n1, .inl (va_cpy f g sp.toNatClampNeg dp.toNatClampNeg n.toNatClampNeg)))) := by
                rw [cW_set]
                rfl
              rw [e1] at hP1 hD1
              have e2 : sl (w.set k1 (.inl (0, n1, .inl (va_cpy f g sp.toNatClampNeg dp.toNatClampNeg n.toNatClampNeg)))) = sl w := sl_set hw1 rfl
              have := K (by simpa using hwl) H1 locs1 hP1 hD1 hS1
              rw [e2, List.length_set, h2] at this
              exact this
          · cases h
        · cases h
      · cases h
    · split at h
      · cases h
      · split at h
        · simp at h
        · cases h
  | invokevirtual k =>
    simp only [nx2] at h
    split at h
    · cases h
    · split at h
      · split at h
        · split at h
          · simp at h
          · cases h
        · cases h
      · cases h
  | invokespecial k =>
    simp only [rowB, Bool.and_eq_true, decide_eq_true_eq] at hok
    obtain ⟨⟨h1, h2⟩, h3⟩ := hok
    simp only [nx2] at h
    split at h
    · cases h
    · split at h
      · rename_i ha
        rw [if_pos ha] at h3
        simp only [Bool.and_eq_true] at h3
        obtain ⟨h3, h4, h5⟩ := h3
        split at h
        · rename_i k0 rest
          split at h
          · rename_i hcat
            simp only [Option.some.injEq, Sum.inl.injEq, Prod.mk.injEq] at h
            obtain ⟨rfl, rfl⟩ := h
            refine W.objInit hx hb hown (hts _ (wd_in h3)) (hts _ (wd_in h4)) (hts _ (wd_in h5)) rfl (by rw [hml]; exact hL.1) rfl h1 (by omega) ?_ ?_
            · show 2 * 0 + (((rest.map (cV ρ)).map fun v => v.category).sum) + 12 ≤ R.locals
              rw [cats]
              omega
            · have := K hwl H locs hP hD hS
              rw [h2] at this
              exact this
          · cases h
        · cases h
      · split at h
        · split at h
          · simp at h
          · cases h
        · cases h
  | ireturn =>
    simp only [nx2] at h
    split at h
    · split at h
      · simp at h
      · cases h
    · cases h
  | lreturn =>
    simp only [nx2] at h
    split at h
    · split at h
      · simp at h
      · cases h
    · cases h
  | areturn =>
    simp only [nx2] at h
    split at h
    · split at h
      · simp at h
      · cases h
    · cases h
  | return_ =>
    simp only [nx2] at h
    split at h
    · split at h
      · simp at h
      · cases h
    · cases h
  | _ => simp [nx2] at h
end SND2
end
section
/-! SOUNDNESS: what the abstract machine answers, the machine does -/
theorem mok_row {M i : Nat} {row : Row} (h : mokB M = true) (hr : (mP M)[i]? = some row) : rowB (mY M) (mB M) (mL M) (mP M) i row = true := by
  simp only [mokB, Bool.and_eq_true] at h
  have h1 := List.all_eq_true.mp h.1 (row, i) (by
    rw [List.mem_iff_getElem?]
    exact ⟨i, by simp [List.getElem?_zipIdx, hr]⟩)
  exact h1
def NW (U : State) : Prop := ∀ (a : String) (i : Nat) (x : MethodName) (h : String), Cond.methodLinkNest a i x h ∈ lw_tbl → va_Nw (.methodLinkNest a i x h) U
def PcA (D : va_G) (cI cZ cC cN : ClassId) (ρ : Nat → Nat) (as : List Value) (w : AW) (sz : Nat) : Array Value → State → Prop := fun v U =>
  v = (as.map (cV ρ)).toArray ∧ U.heap.size = sz ∧ va_P D vwCl (cW ρ (tysA cI cZ cC cN) w) U.heap ∧ va_K D vwCl (tysA cI cZ cC cN) U ∧ va_D (fun _ => True) (cW ρ (tysA cI cZ cC cN) w) ∧ (∀ k, w.length ≤ k → k < 1000000 → ρ k = sz + (k - w.length)) ∧ NW U ∧ va_AO "TwoScales$Now" U ∧ STs ρ (va_A (cW ρ (tysA cI cZ cC cN) w) sz) U
def QcA (D : va_G) (cI cZ cC cN : ClassId) (ρ : Nat → Nat) (r : Option Value) (w w' : AW) (sz : Nat) : Array Value → State → Outcome → State → Prop := fun _ st oc t =>
  oc = .returned (r.map (cV ρ)) ∧ va_P D vwCl (cW ρ (tysA cI cZ cC cN) w') t.heap ∧ va_D (va_A (cW ρ (tysA cI cZ cC cN) w) sz) (cW ρ (tysA cI cZ cC cN) w') ∧ va_F (va_A (cW ρ (tysA cI cZ cC cN) w) sz) st t
theorem PcA_blind {D : va_G} {cI cZ cC cN : ClassId} {ρ : Nat → Nat} {as : List Value} {w : AW} {sz : Nat} : FrameBlind (PcA D cI cZ cC cN ρ as w sz) := by
  intro a U g mk q
  obtain ⟨q0, q1, qP, qK, qD, qF, qN, qO, qS⟩ := q
  refine ⟨q0, q1, qP, va_K.moved (u := U) (U := U.calling g mk a) (Vm.Alike.refl U.vm) qK, qD, qF, fun a1 i x h hm => va_Nw.same (u := U) rfl rfl (qN a1 i x h hm), va_AO.moved (u := U) (Vm.Alike.refl U.vm) qO, ?_⟩
  exact ⟨⟨va_Z.moved (u := U) (Vm.Alike.refl U.vm) qS.1.1, va_X.moved (u := U) (Vm.Alike.refl U.vm) qS.1.2.1, qS.1.2.2⟩, ⟨va_Z.moved (u := U) (Vm.Alike.refl U.vm) qS.2.1, va_X.moved (u := U) (Vm.Alike.refl U.vm) qS.2.2.1, qS.2.2.2⟩⟩
set_option maxHeartbeats 4000000 in
theorem nx2_grow {row : Row} {rt : Option FieldType} {d : Nat} {st st' : List Value} {w w1 : AW} (h : nx2 row rt d st w = some (.inl (st', w1))) : w.length ≤ w1.length ∧ sl w ≤ sl w1 := by
  obtain ⟨pc, ins, a, b, z, zl, sw, ps⟩ := row
  cases ins <;> simp only [nx2] at h
  all_goals first
    | (simp at h; done)
    | (repeat' split at h)
  all_goals first
    | (cases h; done)
    | (simp at h; done)
    | (simp only [Option.some.injEq, Sum.inl.injEq, Prod.mk.injEq] at h
       obtain ⟨rfl, rfl⟩ := h
       first
         | exact ⟨Nat.le_refl _, Nat.le_refl _⟩
         | exact ⟨by simp, Nat.le_of_eq (sl_set (by assumption) (by simp [sl1])).symm⟩
         | exact ⟨by simp, by rw [sl_push]; omega⟩)
theorem run_grow : ∀ (n d M i : Nat) (ls st : List Value) (w : AW) (r : Option Value) (w' : AW), run n d M i ls st w = some (r, w') → w.length ≤ w'.length ∧ sl w ≤ sl w' := by
  intro n
  induction n with
  | zero => intro d M i ls st w r w' h; simp [run] at h
  | succ n ih =>
    intro d M i ls st w r w' h
    rw [run] at h
    cases hr : (mP M)[i]? with
    | none => rw [hr] at h; simp at h
    | some row =>
      rw [hr] at h
      simp only at h
      cases h1 : nx1 row i ls st w with
      | some q => obtain ⟨i', ls', st'⟩ := q; rw [h1] at h; simp only at h; exact ih _ _ _ _ _ _ _ _ h
      | none =>
        rw [h1] at h
        simp only at h
        cases h2 : nx2 row (mR M) d st w with
        | none => rw [h2] at h; simp at h
        | some q =>
          rw [h2] at h
          match q, h, h2 with
          | .inl (st', w1), h, h2 =>
            simp only at h
            have a1 := nx2_grow h2
            have a2 := ih _ _ _ _ _ _ _ _ h
            exact ⟨Nat.le_trans a1.1 a2.1, Nat.le_trans a1.2 a2.2⟩
          | .inr (.inl r), h, h2 => simp at h; rw [h.2]; exact ⟨Nat.le_refl _, Nat.le_refl _⟩
          | .inr (.inr (d', M', args, rest)), h, h2 =>
            simp only at h
            cases h3 : run n d' M' 0 (ent (mL M') args) [] w with
            | none => rw [h3] at h; simp at h
            | some q =>
              rw [h3] at h
              obtain ⟨r1, w1⟩ := q
              simp only at h
              have a1 := ih _ _ _ _ _ _ _ _ h3
              have a2 := ih _ _ _ _ _ _ _ _ h
              exact ⟨Nat.le_trans a1.1 a2.1, Nat.le_trans a1.2 a2.2⟩
section SND
variable {p : Program} {l : Launch} {e : Env} {R : Room} {s : State} {m : MethodId} {args : Array Value} {below : List Frame} {meth : Method} {c : Code} {H : Heap} {locs : List Loc} {cells slots : Nat} {Q : State → Prop}
/-- behind a call, whatever it answers -/
theorem am_call {pc : Nat} {lc : Array Slot} {st0 rest : List Value} {Qa : State → Outcome → State → Prop} {free : Addr → Prop} {mc ms : Nat} (hr : va_Run p l e R s m args below meth c H locs cells slots mc ms (F0 m pc lc st0) rest Qa free)
    (kk : ∀ (v : Option Value) (st₀ t : State) (L : List Loc), st₀.heap = H → (∀ q ∈ L, free q.base) → s.vm.Alike t.vm → Qa st₀ (.returned v) t → W p l e R s m args below meth c t.heap (locs ++ L) (cells + mc) (slots + ms) Q (F0 m (pc + 3) lc (v.toList ++ rest))) : W p l e R s m args below meth c H locs cells slots Q (F0 m pc lc st0) := by
  intro T hT X
  obtain ⟨v, st₀, t, T', L, h0, X', hL, e1, e2, hq, st⟩ := hr T hT X
  obtain ⟨t2, a1, b1⟩ := kk v st₀ t L h0 hL (by rw [← e2]; exact X'.warmed.alike) hq T' e1 X'
  exact ⟨t2, st t2 a1, b1⟩
variable {D : va_G} {cI cZ cC cN : ClassId} {ρ : Nat → Nat} {w : AW} {A : Nat → Prop} {cc0 sl0 d : Nat}
theorem am_free (hA : ∀ q, s.heap.size ≤ q → A q) (hD : va_D A (cW ρ (tysA cI cZ cC cN) w)) (hS : va_S A s.heap H locs) : ∀ q, va_A (cW ρ (tysA cI cZ cC cN) w) H.size q → A q := by
  intro q h
  rcases h with ⟨k, x, h⟩ | h
  · exact hD.2 k (q, x) h
  · exact hA q (Nat.le_trans hS.1 h)
/-- what a callee starts with -/
theorem am_pc {as : List Value} (hNW : NW s) (hao : va_AO "TwoScales$Now" s) (hK : va_K D vwCl (tysA cI cZ cC cN) s) (hST : STs ρ A s) (hA : ∀ q, s.heap.size ≤ q → A q) (hF : ∀ k, cc0 ≤ k → k < 1000000 → ρ k = s.heap.size + (k - cc0)) (hcc : cc0 ≤ w.length) (hP : va_P D vwCl (cW ρ (tysA cI cZ cC cN) w) H) (hD : va_D A (cW ρ (tysA cI cZ cC cN) w)) (hS : va_S A s.heap H locs) (hH : H.size = s.heap.size + (w.length - cc0)) :
    ∀ U : State, U.heap = H → s.WarmedH U.vm → PcA D cI cZ cC cN ρ as w H.size (as.map (cV ρ)).toArray U := by
  intro U hU hW
  have hfree := am_free hA hD hS
  have keep : ∀ q : Nat, q < s.heap.size → ¬ A q → H[q]? = s.heap[q]? := hS.2.1
  refine ⟨rfl, by rw [hU], by rw [hU]; exact hP, va_K.moved hW.alike hK, hD.weaken (fun _ _ _ _ => trivial), fun k h1 h2 => ?_, fun a i x h hm => va_Nw.warmM hW (hNW a i x h hm), va_AO.moved hW.alike hao, ?_⟩
  · rw [hF k (by omega) h2, hH]
    omega
  · have one : ∀ {n : String} {b : Nat} {f : Nat → Int32}, (va_Z "TwoScales$Tale" n "[I" (.ref b) A s s.heap ∧ va_X b 3 f s s.heap ∧ b < s.heap.size ∧ ¬ A b) → (va_Z "TwoScales$Tale" n "[I" (.ref b) (va_A (cW ρ (tysA cI cZ cC cN) w) H.size) U U.heap ∧ va_X b 3 f U U.heap ∧ b < U.heap.size ∧ ¬ va_A (cW ρ (tysA cI cZ cC cN) w) H.size b) := by
      intro n b f h
      obtain ⟨h1, h2, h3, h4⟩ := h
      rw [hU]
      refine ⟨(va_Z.moved hW.alike (h1.kept keep)).narrow hfree, va_X.moved hW.alike (h2.kept (keep b h3 h4)), Nat.lt_of_lt_of_le h3 hS.1, fun q => h4 (hfree b q)⟩
    exact ⟨one hST.1, one hST.2⟩
end SND
end
section
section SNDR
variable {p : Program} {l : Launch} {e : Env} {R : Room} {s : State} {m : MethodId} {args : Array Value} {below : List Frame} {meth : Method} {c : Code} {H : Heap} {locs : List Loc} {cells slots : Nat}
variable {ρ : Nat → Nat} {w : AW} {y : MethodName} {bs : ByteArray} {mx : Nat} {cr : List Row} {A : Nat → Prop} {d : Nat}
set_option maxHeartbeats 4000000 in
/-- returns -/
theorem snd2r (hx : p.tables.exec = Jvm.exec) (hb : c.code = bs) {rt : Option FieldType} (hr : meth.sig.returnType = rt) (hlocks : meth.locks = false) {row : Row} {i : Nat} (hrow : cr[i]? = some row) (hok : rowB y bs mx cr i row = true) {st : List Value} {r : Option Value} (h : nx2 row rt d st w = some (.inr (.inl r))) {lc : Array Slot} {Qc : Array Value → State → Outcome → State → Prop} (hl : ∀ q ∈ locs, A q.base)
    (hQ : ∀ t : State, t.heap = H → s.WarmedH t.vm → Qc args s (.returned (r.map (cV ρ))) t) : W p l e R s m args below meth c H locs cells slots (MQ below Qc args s cells slots A) (F0 m (pcq cr i) lc (st.map (cV ρ))) := by
  have hpc : pcq cr i = row.1 := by simp [pcq, hrow]
  rw [hpc]
  obtain ⟨pc, ins, a, b, z, zl, sw, ps⟩ := row
  cases ins with
  | ireturn =>
    simp only [rowB, decide_eq_true_eq] at hok
    simp only [nx2] at h
    split at h
    · rename_i v
      split at h
      · rename_i hn
        simp only [Option.some.injEq, Sum.inr.injEq, Sum.inl.injEq] at h
        subst h
        unfold rNar at hn
        split at hn
        · simp only [decide_eq_true_eq] at hn
          exact W.zret (ty := .boolean) hx hb hr (by rcases hn with rfl | rfl <;> rfl) hQ hl hok hlocks
        · exact W.zret (ty := .int) hx hb hr rfl hQ hl hok hlocks
        · cases hn
      · cases h
    · cases h
  | lreturn =>
    simp only [rowB, decide_eq_true_eq] at hok
    simp only [nx2] at h
    split at h
    · split at h
      · rename_i hn
        simp only [Option.some.injEq, Sum.inr.injEq, Sum.inl.injEq] at h
        subst h
        exact W.lret hx hb (hr.trans hn) hQ hl hok hlocks
      · cases h
    · cases h
  | areturn =>
    simp only [rowB, decide_eq_true_eq] at hok
    simp only [nx2] at h
    split at h
    · split at h
      · rename_i hn
        simp only [Option.some.injEq, Sum.inr.injEq, Sum.inl.injEq] at h
        subst h
        exact W.aret hx hb (hr.trans hn) (Or.inl ⟨_, rfl⟩) (Or.inr ⟨_, rfl⟩) hQ hl hok hlocks
      · cases h
    · cases h
  | return_ =>
    simp only [rowB, decide_eq_true_eq] at hok
    simp only [nx2] at h
    split at h
    · split at h
      · rename_i hn
        simp only [Option.some.injEq, Sum.inr.injEq, Sum.inl.injEq] at h
        subst h
        exact W.vret hx hb (hr.trans hn) hQ hl hok hlocks
      · cases h
    · cases h
  | _ =>
    simp only [nx2] at h
    first
      | (simp at h; done)
      | (repeat' split at h)
    all_goals first
      | (cases h; done)
      | (simp at h; done)
end SNDR
/-- a contract of every method, out of the abstract machine's run -/
def Bdy (n : Nat) : Prop := ∀ (d M i : Nat) (ls st : List Value) (w : AW) (r : Option Value) (w' : AW), run n d M i ls st w = some (r, w') → M < 188 →
  ∀ (p : Program) (l : Launch) (e : Env) (s : State) (m : MethodId) (args : Array Value) (below : List Frame) (meth : Method) (c : Code) (H : Heap) (locs : List Loc) (D : va_G) (cI cZ cC cN : ClassId) (ρ : Nat → Nat) (A : Nat → Prop) (cc0 sl0 : Nat) (lc : Array Slot) (Qc : Array Value → State → Outcome → State → Prop),
  p.tables.exec = Jvm.exec → c.code = mB M → c.maxLocals = mL M → meth.sig.returnType = mR M → meth.locks = false → s.vm.findClass (mY M).cls = some m.cls → ((mY M).name = "<init>" → meth.name = "<init>") → (∀ x ∈ AL, x.before args s = true) → NW s → va_AO "TwoScales$Now" s → va_K D vwCl (tysA cI cZ cC cN) s → STs ρ A s →
  (∀ q, s.heap.size ≤ q → A q) → (∀ q, A q → s.heap.size ≤ q ∨ ∃ k, k < cc0 ∧ q = ρ k) → (∀ k, cc0 ≤ k → k < 1000000 → ρ k = s.heap.size + (k - cc0)) → cc0 ≤ w.length → sl0 ≤ sl w → w.length ≤ 1000 →
  va_P D vwCl (cW ρ (tysA cI cZ cC cN) w) H → va_D A (cW ρ (tysA cI cZ cC cN) w) → va_S A s.heap H locs → LR ρ (mL M) ls lc →
  (∀ t : State, va_P D vwCl (cW ρ (tysA cI cZ cC cN) w') t.heap → va_D A (cW ρ (tysA cI cZ cC cN) w') → va_F A s t → Qc args s (.returned (r.map (cV ρ))) t) →
  W p l e { frames := d, cells := w'.length - cc0, slots := sl w' - sl0, locals := 64 * d } s m args below meth c H locs (w.length - cc0) (sl w - sl0) (MQ below Qc args s (w'.length - cc0) (sl w' - sl0) A) (F0 m (pcq (mP M) i) lc (st.map (cV ρ)))
theorem met_of {n : Nat} (ih : Bdy n) {d M : Nat} (hmok : mokB M = true) (hM : M < 188) {as : List Value} {w w1 : AW} {r : Option Value} (hrun : run n d M 0 (ent (mL M) as) [] w = some (r, w1)) (hsp : (spr as).length ≤ mL M) (hwl : w.length ≤ 1000) (l : Launch) (D : va_G) (cI cZ cC cN : ClassId) (ρ : Nat → Nat) (sz : Nat) :
    Met l (mY M) (.code (mY M) (mB M) (mL M) (mR M) :: AL) { frames := d, cells := w1.length - w.length, slots := sl w1 - sl w, locals := 64 * d } (PcA D cI cZ cC cN ρ as w sz) (QcA D cI cZ cC cN ρ r w w1 sz) (w1.length - w.length) (sl w1 - sl w) (va_A (cW ρ (tysA cI cZ cC cN) w) sz) := by
  simp only [mokB, Bool.and_eq_true, decide_eq_true_eq] at hmok
  obtain ⟨-, hpl, hpc0, hcw⟩ := hmok
  refine Met.ofW (cc := mB M) (maxL := mL M) (ret := mR M) hpl rfl ?_
  intro p e s m args below meth c s₁ B hml hv
  obtain ⟨rfl, hsz, hP, hK, hD0, hF, hNW, hao, hST⟩ := hv
  subst hsz
  have hts := atoms_spec (ws := .code (mY M) (mB M) (mL M) (mR M) :: AL) B.pre
  have hnm := name_of_methodNamed B.named B.method
  rw [lg_entry_eq]
  have hD := hD0.self (sz := s.heap.size)
  have key := ih d M 0 (ent (mL M) as) [] w r w1 hrun hM p l e s m (as.map (cV ρ)).toArray below meth c s.heap [] D cI cZ cC cN ρ (va_A (cW ρ (tysA cI cZ cC cN) w) s.heap.size) w.length (sl w) _ (QcA D cI cZ cC cN ρ r w w1 s.heap.size)
    B.exec B.bytes hml B.returns B.notSynchronized (findClass_of_methodNamed B.named) (fun q => by rw [hnm.1]; exact q) (fun x hx => hts x (List.mem_cons_of_mem _ hx)) hNW hao hK hST (fun q h => Or.inr h) (fun q h => by
      rcases h with ⟨k, x, h⟩ | h
      · obtain ⟨y, h1, h2⟩ := cW_of h
        have h3 : q = ρ k := congrArg Prod.fst h2
        exact Or.inr ⟨k, (List.getElem?_eq_some_iff.mp h1).1, h3⟩
      · exact Or.inl h) hF (Nat.le_refl _) (Nat.le_refl _) hwl hP hD va_S.rf (LR.entry hsp) (fun t h1 h2 h3 => ⟨rfl, h1, h2, h3⟩)
  rw [Nat.sub_self, Nat.sub_self, hpc0] at key
  exact key
set_option maxHeartbeats 4000000 in
theorem nx2_small {row : Row} {rt : Option FieldType} {d : Nat} {st st' : List Value} {w w1 : AW} (h : nx2 row rt d st w = some (.inl (st', w1))) (hw : w.length ≤ 1000) : w1.length ≤ 1000 := by
  obtain ⟨pc, ins, a, b, z, zl, sw, ps⟩ := row
  cases ins <;> simp only [nx2] at h
  all_goals first
    | (simp at h; done)
    | (repeat' split at h)
  all_goals first
    | (cases h; done)
    | (simp at h; done)
    | (simp only [Option.some.injEq, Sum.inl.injEq, Prod.mk.injEq] at h
       obtain ⟨rfl, rfl⟩ := h
       first
         | exact hw
         | (simp only [List.length_set]; exact hw)
         | (simp only [List.length_append, List.length_cons, List.length_nil]; omega))
theorem run_small : ∀ (n d M i : Nat) (ls st : List Value) (w : AW) (r : Option Value) (w' : AW), run n d M i ls st w = some (r, w') → w.length ≤ 1000 → w'.length ≤ 1000 := by
  intro n
  induction n with
  | zero => intro d M i ls st w r w' h; simp [run] at h
  | succ n ih =>
    intro d M i ls st w r w' h hw
    rw [run] at h
    cases hr : (mP M)[i]? with
    | none => rw [hr] at h; simp at h
    | some row =>
      rw [hr] at h
      simp only at h
      cases h1 : nx1 row i ls st w with
      | some q => obtain ⟨i', ls', st'⟩ := q; rw [h1] at h; simp only at h; exact ih _ _ _ _ _ _ _ _ h hw
      | none =>
        rw [h1] at h
        simp only at h
        cases h2 : nx2 row (mR M) d st w with
        | none => rw [h2] at h; simp at h
        | some q =>
          rw [h2] at h
          match q, h, h2 with
          | .inl (st', w1), h, h2 => simp only at h; exact ih _ _ _ _ _ _ _ _ h (nx2_small h2 hw)
          | .inr (.inl r), h, h2 => simp at h; rw [← h.2]; exact hw
          | .inr (.inr (d', M', args, rest)), h, h2 =>
            simp only at h
            cases h3 : run n d' M' 0 (ent (mL M') args) [] w with
            | none => rw [h3] at h; simp at h
            | some q =>
              rw [h3] at h
              obtain ⟨r1, w1⟩ := q
              simp only at h
              exact ih _ _ _ _ _ _ _ _ h (ih _ _ _ _ _ _ _ _ h3 hw)
theorem clB_facts {a b q : Nat} (h : clB a b q = true) : Cond.code (mY a) (mB a) (mL a) (mR a) ∈ AL ∧ ((mY a).cls ≠ "java/lang/invoke/MethodHandle" ∧ (mY a).cls ≠ "java/lang/invoke/VarHandle" ∧ (parseMethodDescriptor (mY a).desc).map (fun d => d.parameters.length) = some b) ∧ mL a ≤ 40 ∧ a < 188 := by
  simp only [clB, Bool.and_eq_true, decide_eq_true_eq] at h
  obtain ⟨h1, h2, h3, h4, h5, h6⟩ := h
  exact ⟨wd_in h1, ⟨h2, h3, h4⟩, Nat.ble_eq.mp h5, Nat.blt_eq.mp h6⟩
theorem AL_cons {x : Cond} (h : x ∈ AL) : GoodIn AL (x :: AL) := fun w hw => AL_self w ((List.mem_cons.mp hw).elim (fun e => e ▸ h) id)
theorem am_stk {ρ : Nat → Nat} {st : List Value} (b : Nat) : st.map (cV ρ) = (((st.take b).reverse).map (cV ρ)).reverse ++ (st.drop b).map (cV ρ) := by
  rw [← List.map_reverse, List.reverse_reverse, ← List.map_append, List.take_append_drop]
set_option maxHeartbeats 4000000 in
set_option maxRecDepth 100000 in
theorem snd (hmok : ∀ M, M < 188 → mokB M = true) : ∀ n, Bdy n := by
  intro n
  induction n with
  | zero => intro d M i ls st w r w' h; simp [run] at h
  | succ n ih =>
    intro d M i ls st w r w' h hM p l e s m args below meth c H locs D cI cZ cC cN ρ A cc0 sl0 lc Qc hx hb hml hr hlocks hown hin2 hts hNW hao hK hST hA hA2 hF hcc hsl hwl hP hD hS hL hQ
    have hg := run_grow _ _ _ _ _ _ _ _ _ h
    rw [run] at h
    cases hrow : (mP M)[i]? with
    | none => rw [hrow] at h; simp at h
    | some row =>
      have hok := mok_row (hmok M hM) hrow
      rw [hrow] at h
      simp only at h
      cases h1 : nx1 row i ls st w with
      | some q =>
        obtain ⟨i', ls', st'⟩ := q
        rw [h1] at h
        simp only at h
        exact snd1 hx hb hown hts hK hP hrow hok h1 hL (fun lc' hL' => ih d M i' ls' st' w r w' h hM p l e s m args below meth c H locs D cI cZ cC cN ρ A cc0 sl0 lc' Qc hx hb hml hr hlocks hown hin2 hts hNW hao hK hST hA hA2 hF hcc hsl hwl hP hD hS hL' hQ)
      | none =>
        rw [h1] at h
        simp only at h
        cases h2 : nx2 row (mR M) d st w with
        | none => rw [h2] at h; simp at h
        | some q =>
          rw [h2] at h
          match q, h, h2 with
          | .inl (st', w1), h, h2 =>
            simp only at h
            have g2 := run_grow _ _ _ _ _ _ _ _ _ h
            have g1 := nx2_grow h2
            refine snd2 (d := d) hx hb hml hown hin2 hts hao hK hST hA hA2 hF hcc hsl hwl rfl rfl (by show _ ≤ w'.length - cc0; omega) (by show _ ≤ sl w' - sl0; omega) hP hD hS hrow hok h2 hL (fun hwl1 H1 locs1 hP1 hD1 hS1 => ?_)
            exact ih d M (i + 1) ls st' w1 r w' h hM p l e s m args below meth c H1 locs1 D cI cZ cC cN ρ A cc0 sl0 lc Qc hx hb hml hr hlocks hown hin2 hts hNW hao hK hST hA hA2 hF (by omega) (by omega) hwl1 hP1 hD1 hS1 hL hQ
          | .inr (.inl r0), h, h2 =>
            simp only [Option.some.injEq, Prod.mk.injEq] at h
            obtain ⟨rfl, rfl⟩ := h
            exact snd2r hx hb hr hlocks hrow hok h2 hS.2.2 (fun t ht hW => hQ t (by rw [ht]; exact hP) hD (hS.F ht))
          | .inr (.inr (d', M', as, rest)), h, h2 =>
            simp only at h
            cases h3 : run n d' M' 0 (ent (mL M') as) [] w with
            | none => rw [h3] at h; simp at h
            | some q =>
              rw [h3] at h
              obtain ⟨r1, w1⟩ := q
              simp only at h
              have g1 := run_grow _ _ _ _ _ _ _ _ _ h3
              have g2 := run_grow _ _ _ _ _ _ _ _ _ h
              refine W.sized (am_low hP hS hwl hF) (fun hH => ?_)
              have hpcU := am_pc (as := as) hNW hao hK hST hA hF hcc hP hD hS hH
              have hfree := am_free hA hD hS
              have hwl1 := run_small _ _ _ _ _ _ _ _ _ h3 hwl
              suffices hR : (mokB M' = true → M' < 188 → (spr as).length ≤ mL M' → va_Run p l e { frames := d, cells := w'.length - cc0, slots := sl w' - sl0, locals := 64 * d } s m args below meth c H locs (w.length - cc0) (sl w - sl0) (w1.length - w.length) (sl w1 - sl w) (F0 m (pcq (mP M) i) lc (st.map (cV ρ))) (rest.map (cV ρ)) (QcA D cI cZ cC cN ρ r1 w w1 H.size (as.map (cV ρ)).toArray) (va_A (cW ρ (tysA cI cZ cC cN) w) H.size)) ∧ pcq (mP M) (i + 1) = pcq (mP M) i + 3 ∧ M' < 188 ∧ (spr as).length ≤ mL M' by
                obtain ⟨hR, hpc, hM', hsp⟩ := hR
                refine am_call (hR (hmok M' hM') hM' hsp) (fun v st₀ t L h0 hLf hvm hq => ?_)
                obtain ⟨hv, hP1, hD1, hF1⟩ := hq
                have hv2 : v = r1.map (cV ρ) := by cases hv; rfl
                subst hv2
                have hz1 : H.size ≤ t.heap.size := by rw [← h0]; exact hF1.1
                have hk1 : ∀ q : Nat, q < H.size → ¬ va_A (cW ρ (tysA cI cZ cC cN) w) H.size q → t.heap[q]? = H[q]? := by
                  intro q q1 q2
                  rw [hF1.2 q (by rw [h0]; exact q1) q2, h0]
                have hS1 : va_S A s.heap t.heap (locs ++ L) := by
                  refine ⟨Nat.le_trans hS.1 hz1, fun q q1 q2 => ?_, fun q hq => ?_⟩
                  · rw [hk1 q (Nat.lt_of_lt_of_le q1 hS.1) (fun z => q2 (hfree q z))]
                    exact hS.2.1 q q1 q2
                  · rcases List.mem_append.mp hq with z | z
                    · exact hS.2.2 q z
                    · exact hfree _ (hLf q z)
                have key := ih d M (i + 1) ls (r1.toList ++ rest) w1 r w' h hM p l e s m args below meth c t.heap (locs ++ L) D cI cZ cC cN ρ A cc0 sl0 lc Qc hx hb hml hr hlocks hown hin2 hts hNW hao hK hST hA hA2 hF (by omega) (by omega) hwl1 hP1 (hD1.weaken (fun _ q _ z => hfree _ z)) hS1 hL hQ
                rw [hpc, show w1.length - cc0 = w.length - cc0 + (w1.length - w.length) by omega, show sl w1 - sl0 = sl w - sl0 + (sl w1 - sl w) by omega, List.map_append] at key
                have e0 : (r1.map (cV ρ)).toList = r1.toList.map (cV ρ) := by cases r1 <;> rfl
                rw [e0]
                exact key
              have hroom : w.length - cc0 + (w1.length - w.length) ≤ w'.length - cc0 ∧ sl w - sl0 + (sl w1 - sl w) ≤ sl w' - sl0 := by constructor <;> omega
              have hpc0 : pcq (mP M) i = row.1 := by simp [pcq, hrow]
              obtain ⟨pc, ins, a, b, z, zl, sw, ps⟩ := row
              have S0 : CallFix p m c (mB M) (mL M) s args AL (mY M).cls := ⟨hx, hb, hml, hown, hts⟩
              cases ins with
              | invokestatic k =>
                simp only [rowB, Bool.and_eq_true, decide_eq_true_eq] at hok
                obtain ⟨⟨q1, q2⟩, q3⟩ := hok
                simp only [nx2] at h2
                split at h2
                · repeat' split at h2
                  all_goals first
                    | (cases h2; done)
                    | (simp at h2; done)
                · rename_i ha
                  rw [if_neg ha] at q3
                  simp only [Bool.and_eq_true] at q3
                  obtain ⟨q3, q4, q5, q6⟩ := q3
                  obtain ⟨f1, f2, f3, f4⟩ := clB_facts q6
                  split at h2
                  · cases h2
                  · skip
                    split at h2
                    · rename_i hcond
                      obtain ⟨c1, c2, c3⟩ := hcond
                      simp only [Option.some.injEq, Sum.inr.injEq, Prod.mk.injEq] at h2
                      obtain ⟨rfl, rfl, rfl, rfl⟩ := h2
                      refine ⟨fun hm1 hm2 hm3 => ?_, by rw [q2, hpc0], f4, c3⟩
                      rw [hpc0]
                      exact va_runS S0 (met_of ih hm1 hm2 h3 hm3 hwl l D cI cZ cC cN ρ H.size) ⟨callB_of b hts (AL_cons f1) rfl rfl rfl (hts _ (wd_in q5)) (hts _ (wd_in q3)) f2 ⟨Nat.le_refl _, by show 8 + (mL a + 11) + 64 * _ ≤ 64 * (_ + 1); omega⟩, hts _ (wd_in q4)⟩ ⟨PcA_blind, hpcU⟩ rfl (by simp [c1]) hL.1 (am_stk b) (lv_room (by rw [cats]; exact c2)) q1 hroom
                    · cases h2
              | invokevirtual k =>
                simp only [rowB, Bool.and_eq_true, decide_eq_true_eq] at hok
                obtain ⟨⟨q1, q2⟩, q3, q4, q5, q6, q7⟩ := hok
                obtain ⟨f1, f2, f3, f4⟩ := clB_facts q7
                simp only [nx2] at h2
                split at h2
                · cases h2
                · skip
                  split at h2
                  · rename_i k0 rest0 hdrop
                    split at h2
                    · rename_i ci fs hw
                      split at h2
                      · rename_i hcond
                        obtain ⟨c1, c2, c3, c4⟩ := hcond
                        simp only [Option.some.injEq, Sum.inr.injEq, Prod.mk.injEq] at h2
                        obtain ⟨rfl, rfl, rfl, rfl⟩ := h2
                        obtain ⟨qC, hqC, hqn⟩ := Option.map_eq_some_iff.mp c2
                        refine ⟨fun hm1 hm2 hm3 => ?_, by rw [q2, hpc0], f4, c4⟩
                        rw [hpc0]
                        have hrec := va_recv hK hP hqC (cW_at hw)
                        rw [hqn] at hrec
                        exact va_runV S0 (met_of ih hm1 hm2 h3 hm3 hwl l D cI cZ cC cN ρ H.size) ⟨callB_of b hts (AL_cons f1) rfl rfl rfl (hts _ (wd_in q6)) (hts _ (wd_in q3)) f2 ⟨Nat.le_refl _, by show 8 + (mL a + 11) + 64 * _ ≤ 64 * (_ + 1); omega⟩, hts _ (wd_in q4), hts _ (wd_in q5)⟩ ⟨PcA_blind, hrec, hpcU⟩ rfl (by simp [c1]) hL.1 (by rw [am_stk b, hdrop]; rfl) (lv_room (by rw [cats]; exact c3)) q1 hroom
                      · cases h2
                    · cases h2
                  · cases h2
              | invokespecial k =>
                simp only [rowB, Bool.and_eq_true, decide_eq_true_eq] at hok
                obtain ⟨⟨q1, q2⟩, q3⟩ := hok
                simp only [nx2] at h2
                split at h2
                · cases h2
                · skip
                  split at h2
                  · repeat' split at h2
                    all_goals first
                      | (cases h2; done)
                      | (simp at h2; done)
                  · rename_i ha
                    rw [if_neg ha] at q3
                    simp only [Bool.and_eq_true, decide_eq_true_eq] at q3
                    obtain ⟨q3, q4, q5, q6, q7, q8⟩ := q3
                    obtain ⟨f1, f2, f3, f4⟩ := clB_facts q8
                    split at h2
                    · rename_i k0 rest0 hdrop
                      split at h2
                      · rename_i hcond
                        obtain ⟨c1, c2, c3⟩ := hcond
                        simp only [Option.some.injEq, Sum.inr.injEq, Prod.mk.injEq] at h2
                        obtain ⟨rfl, rfl, rfl, rfl⟩ := h2
                        refine ⟨fun hm1 hm2 hm3 => ?_, by rw [q2, hpc0], f4, c3⟩
                        rw [hpc0]
                        have hmet := met_of ih hm1 hm2 h3 hm3 hwl l D cI cZ cC cN ρ H.size
                        rw [q7] at hmet f1
                        split at q3
                        · simp only [wdN, decide_eq_true_eq] at q3
                          exact va_runIN S0 hmet ⟨va_cnB b hts (AL_cons f1) rfl rfl rfl (hNW _ _ _ _ (List.mem_of_getElem? q3)) (hts _ (wd_in q5)) f2 ⟨Nat.le_refl _, by show 8 + (mL a + 11) + 64 * _ ≤ 64 * (_ + 1); omega⟩, q6, hts _ (wd_in q4)⟩ ⟨PcA_blind, hpcU⟩ rfl (by simp [c1]) hL.1 (by rw [am_stk b, hdrop]; rfl) (lv_room (by rw [cats]; exact c2)) q1 hroom
                        · exact va_runI S0 hmet ⟨callB_of b hts (AL_cons f1) rfl rfl rfl (hts _ (wd_in q5)) (hts _ (wd_in q3)) f2 ⟨Nat.le_refl _, by show 8 + (mL a + 11) + 64 * _ ≤ 64 * (_ + 1); omega⟩, q6, hts _ (wd_in q4)⟩ ⟨PcA_blind, hpcU⟩ rfl (by simp [c1]) hL.1 (by rw [am_stk b, hdrop]; rfl) (lv_room (by rw [cats]; exact c2)) q1 hroom
                      · cases h2
                    · cases h2
              | _ =>
                simp only [nx2] at h2
                first
                  | (simp at h2; done)
                  | (repeat' split at h2)
                all_goals first
                  | (cases h2; done)
                  | (simp at h2; done)
end
section
/-! what is less known of the locals: any answer stands for what is better known -/
theorem st1_get {ls : List Value} {i k : Nat} {v : Value} : (st1 ls i v)[k]? = if k = i then (if i < ls.length then some v else none) else if k + 1 = i ∧ (∃ u, ls[k]? = some u ∧ u.category = 2) then some .null else ls[k]? := by
  cases i with
  | zero =>
    simp only [st1, List.getElem?_set]
    by_cases hk : k = 0
    · subst hk; simp
    · simp [hk, Ne.symm hk]
  | succ j =>
    have two : ∀ x : Value, x.category = 2 → ls[j]? = some x → ((ls.set j .null).set (j + 1) v)[k]? = if k = j + 1 then (if j + 1 < ls.length then some v else none) else if k + 1 = j + 1 ∧ (∃ u, ls[k]? = some u ∧ u.category = 2) then some .null else ls[k]? := by
      intro x hx h
      have hl : j < ls.length := (List.getElem?_eq_some_iff.mp h).1
      simp only [List.getElem?_set, List.length_set]
      by_cases hk : k = j + 1
      · subst hk; simp
      · rw [if_neg hk, if_neg (Ne.symm hk)]
        by_cases hj : k = j
        · subst hj
          simp [hl, h, hx]
          intro q
          exact absurd (by simp [(List.getElem?_eq_some_iff.mp h).2, hx]) q
        · rw [if_neg (Ne.symm hj), if_neg (by omega)]
    simp only [st1]
    split
    · rename_i x h; exact two _ rfl h
    · rename_i x h; exact two _ rfl h
    · rename_i n1 n2
      simp only [List.getElem?_set]
      by_cases hk : k = j + 1
      · subst hk; simp
      · rw [if_neg hk, if_neg (Ne.symm hk)]
        rw [if_neg]
        rintro ⟨h1, u, h2, h3⟩
        have h1 : k = j := by omega
        subst h1
        cases u <;> simp [Value.category] at h3
        · exact absurd h2 (n1 _)
        · exact absurd h2 (n2 _)
theorem lle_refl (a : List Value) : lle a a := ⟨rfl, fun _ _ h _ => h⟩
theorem lle_0 : lle [] [] := lle_refl []
theorem lle_c {x : Value} {a b : List Value} (h : lle a b) : lle (x :: a) (x :: b) := ⟨by simp [h.1], fun k v h1 h2 => by
  cases k with
  | zero => exact h1
  | succ k => exact h.2 k v (by simpa using h1) h2⟩
theorem lle_n {y : Value} {a b : List Value} (h : lle a b) : lle (.null :: a) (y :: b) := ⟨by simp [h.1], fun k v h1 h2 => by
  cases k with
  | zero => simp at h1; exact absurd h1.symm h2
  | succ k => exact h.2 k v (by simpa using h1) h2⟩
theorem lle_st1 {a b : List Value} (h : lle a b) (i : Nat) (v : Value) : lle (st1 a i v) (st1 b i v) := by
  refine ⟨by rw [st1_len, st1_len]; exact h.1, fun k u h1 h2 => ?_⟩
  rw [st1_get] at h1 ⊢
  by_cases hk : k = i
  · rw [if_pos hk] at h1 ⊢
    rw [← h.1]; exact h1
  · rw [if_neg hk] at h1 ⊢
    by_cases hc : k + 1 = i ∧ ∃ u, a[k]? = some u ∧ u.category = 2
    · rw [if_pos hc] at h1
      cases h1
      exact absurd rfl h2
    · rw [if_neg hc] at h1
      have h3 := h.2 k u h1 h2
      rw [if_neg]
      · exact h3
      · rintro ⟨e1, u2, e2, e3⟩
        rw [h3] at e2
        cases e2
        exact hc ⟨e1, u, h1, e3⟩
theorem lle_st2 {a b : List Value} (h : lle a b) (i : Nat) (v : Value) : lle (st2 a i v) (st2 b i v) := by
  have h0 := lle_st1 h i v
  refine ⟨by simp only [st2, List.length_set]; exact h0.1, fun k u h1 h2 => ?_⟩
  unfold st2 at h1 ⊢
  by_cases hk : k = i + 1
  · subst hk
    rw [List.getElem?_set] at h1
    simp only [if_true] at h1
    split at h1
    · cases h1; exact absurd rfl h2
    · cases h1
  · rw [List.getElem?_set_ne (Ne.symm hk)] at h1 ⊢
    exact h0.2 k u h1 h2
set_option maxHeartbeats 4000000 in
theorem nx1_lle {row : Row} {i : Nat} {ls ls2 st : List Value} {w : AW} {i' : Nat} {ls' st' : List Value} (hl : lle ls ls2) (h : nx1 row i ls st w = some (i', ls', st')) : ∃ ls2', nx1 row i ls2 st w = some (i', ls2', st') ∧ lle ls' ls2' := by
  obtain ⟨pc, ins, a, b, z, zl, sw, ps⟩ := row
  cases ins with
  | ifCond c off =>
    cases c <;> simp only [nx1] at h ⊢ <;> split at h <;> first
      | (cases h; done)
      | (simp only [Option.some.injEq, Prod.mk.injEq] at h ⊢
         obtain ⟨rfl, rfl, rfl⟩ := h
         exact ⟨_, ⟨rfl, rfl, rfl⟩, hl⟩)
  | if_icmp c off =>
    cases c <;> simp only [nx1] at h ⊢ <;> split at h <;> first
      | (cases h; done)
      | (simp only [Option.some.injEq, Prod.mk.injEq] at h ⊢
         obtain ⟨rfl, rfl, rfl⟩ := h
         exact ⟨_, ⟨rfl, rfl, rfl⟩, hl⟩)
  | _ =>
    simp only [nx1] at h ⊢
    first
      | (cases h; done)
      | (simp at h; done)
      | (simp only [Option.some.injEq, Prod.mk.injEq] at h ⊢
         obtain ⟨rfl, rfl, rfl⟩ := h
         exact ⟨_, ⟨rfl, rfl, rfl⟩, hl⟩)
      | (repeat' split at h)
    all_goals first
      | (cases h; done)
      | (simp only [Option.some.injEq, Prod.mk.injEq] at h
         obtain ⟨rfl, rfl, rfl⟩ := h
         first
           | exact ⟨_, rfl, hl⟩
           | exact ⟨_, rfl, lle_st1 hl _ _⟩
           | exact ⟨_, rfl, lle_st2 hl _ _⟩
           | (rename_i hx; rw [hl.2 _ _ hx (by simp)]; exact ⟨_, rfl, hl⟩)
           | (rename_i hx; rw [hl.2 _ _ hx (by simp)]; exact ⟨_, rfl, lle_st1 hl _ _⟩)
           | (refine ⟨ls2, ?_, hl⟩; simp_all))
set_option maxHeartbeats 4000000 in
theorem nx12 {row : Row} {rt : Option FieldType} {d : Nat} {st : List Value} {w : AW} {q : A2} (h : nx2 row rt d st w = some q) (i : Nat) (ls : List Value) : nx1 row i ls st w = none := by
  obtain ⟨pc, ins, a, b, z, zl, sw, ps⟩ := row
  cases ins <;> first
    | rfl
    | (simp [nx2] at h; done)
theorem run_lle : ∀ (n d M i : Nat) (ls ls2 st : List Value) (w : AW) (x : AR), lle ls ls2 → run n d M i ls st w = some x → run n d M i ls2 st w = some x := by
  intro n
  induction n with
  | zero => intro d M i ls ls2 st w x hl h; simp [run] at h
  | succ n ih =>
    intro d M i ls ls2 st w x hl h
    rw [run] at h ⊢
    cases hr : (mP M)[i]? with
    | none => rw [hr] at h; simp at h
    | some row =>
      rw [hr] at h
      simp only at h ⊢
      cases h1 : nx1 row i ls st w with
      | some q =>
        obtain ⟨i', ls', st'⟩ := q
        rw [h1] at h
        simp only at h
        obtain ⟨ls2', e1, e2⟩ := nx1_lle hl h1
        rw [e1]
        exact ih _ _ _ _ _ _ _ _ e2 h
      | none =>
        rw [h1] at h
        simp only at h
        cases h2 : nx2 row (mR M) d st w with
        | none => rw [h2] at h; simp at h
        | some q =>
          rw [nx12 h2]
          rw [h2] at h
          match q, h with
          | .inl (st', w'), h => simp only at h ⊢; exact ih _ _ _ _ _ _ _ _ hl h
          | .inr (.inl r), h => exact h
          | .inr (.inr (d', M', args, rest)), h =>
            simp only at h ⊢
            cases h3 : run n d' M' 0 (ent (mL M') args) [] w with
            | none => rw [h3] at h; simp at h
            | some q =>
              rw [h3] at h
              obtain ⟨r, w'⟩ := q
              simp only at h ⊢
              exact ih _ _ _ _ _ _ _ _ hl h
theorem Ev.weak {d M i : Nat} {ls ls2 st : List Value} {w w' : AW} {r : Option Value} (hl : lle ls ls2) (h : Ev d M i ls st w r w') : Ev d M i ls2 st w r w' := by
  obtain ⟨n, hn⟩ := h
  exact ⟨n, run_lle _ _ _ _ _ _ _ _ _ hl hn⟩
end
section
/-! the library of the walks -/
section EV2
variable {d M i : Nat} {ls st : List Value} {w w' : AW} {r : Option Value} {c : List Row} {row : Row}
variable {pc a b : Nat} {z : Int32} {zl : Int64} {sw : List (Int32 × Nat)} {ps : List Nat} {i' : Nat} {x y j : Int32} {s0 : List Value} {k n m : Nat} {f : Nat → Int32}
theorem Ev.brT {i1 i2 : Nat} {ls' st' : List Value} {p : Prop} [hp : Decidable p] (hc : mP M = c) (hr : c[i]? = some row) (h : nx1 row i ls st w = some (if p then i1 else i2, ls', st')) (q : p) (k1 : Ev d M i1 ls' st' w r w') : Ev d M i ls st w r w' :=
  Ev.br hc hr h (fun _ => k1) (fun h => absurd q h)
theorem Ev.brF {i1 i2 : Nat} {ls' st' : List Value} {p : Prop} [hp : Decidable p] (hc : mP M = c) (hr : c[i]? = some row) (h : nx1 row i ls st w = some (if p then i1 else i2, ls', st')) (q : ¬ p) (k1 : Ev d M i2 ls' st' w r w') : Ev d M i ls st w r w' :=
  Ev.br hc hr h (fun h => absurd h q) (fun _ => k1)
/-- a switch -/
theorem Ev.swi {ls' st' : List Value} {t : Nat} (hc : mP M = c) (hr : c[i]? = some row) (h : nx1 row i ls st w = some (swl x a sw, ls', st')) (ht : swl x a sw = t) (k1 : Ev d M t ls' st' w r w') : Ev d M i ls st w r w' := by
  subst ht
  exact Ev.s1 hc hr h k1
theorem vin_nI {p n : Nat} (h : p < n) (hn : n < 2000) : vin (nI p) n = true := vin_iff.mpr (vp_in_nI h (by omega))
theorem nI_cl {p n : Nat} (h : p < n) (hn : n < 2000) : (nI p).toNatClampNeg = p := nI_clamp (by omega)
theorem Ev.ialdE (hc : mP M = c) (hr : c[i]? = some (pc, .iaload, a, b, z, zl, sw, ps)) (hi : i + 1 = i') (hw : w[k]? = some (.inl (0, n, .inl f))) (hk : Nat.blt k 1000000 = true) (hj : j = nI m) (hm : m < n) (q : Ev d M i' ls (.int (f m) :: s0) w r w') (hn : n < 2000 := by decide) : Ev d M i ls (.int j :: .ref k :: s0) w r w' := by
  subst hj
  refine Ev.iald hc hr hi hw hk (vin_nI hm hn) ?_
  rw [nI_cl hm hn]
  exact q
theorem Ev.baldE (hc : mP M = c) (hr : c[i]? = some (pc, .baload, a, b, z, zl, sw, ps)) (hi : i + 1 = i') (hw : w[k]? = some (.inl (1, n, .inl f))) (hj : j = nI m) (hm : m < n) (q : Ev d M i' ls (.int (f m) :: s0) w r w') (hn : n < 2000 := by decide) : Ev d M i ls (.int j :: .ref k :: s0) w r w' := by
  subst hj
  refine Ev.bald hc hr hi hw (vin_nI hm hn) ?_
  rw [nI_cl hm hn]
  exact q
theorem Ev.caldE (hc : mP M = c) (hr : c[i]? = some (pc, .caload, a, b, z, zl, sw, ps)) (hi : i + 1 = i') (hw : w[k]? = some (.inl (2, n, .inl f))) (hj : j = nI m) (hm : m < n) (q : Ev d M i' ls (.int (f m) :: s0) w r w') (hn : n < 2000 := by decide) : Ev d M i ls (.int j :: .ref k :: s0) w r w' := by
  subst hj
  refine Ev.cald hc hr hi hw (vin_nI hm hn) ?_
  rw [nI_cl hm hn]
  exact q
theorem Ev.iastE {w1 : AW} (hc : mP M = c) (hr : c[i]? = some (pc, .iastore, a, b, z, zl, sw, ps)) (hi : i + 1 = i') (hw : w[k]? = some (.inl (0, n, .inl f))) (hj : j = nI m) (hm : m < n) (h1 : w.set k (.inl (0, n, .inl (upd f m x))) = w1) (q : Ev d M i' ls s0 w1 r w') (hn : n < 2000 := by decide) : Ev d M i ls (.int x :: .int j :: .ref k :: s0) w r w' := by
  subst hj
  refine Ev.iast hc hr hi hw (vin_nI hm hn) ?_ q
  rw [nI_cl hm hn]
  exact h1
theorem Ev.bastE {w1 : AW} (hc : mP M = c) (hr : c[i]? = some (pc, .bastore, a, b, z, zl, sw, ps)) (hi : i + 1 = i') (hw : w[k]? = some (.inl (1, n, .inl f))) (hj : j = nI m) (hm : m < n) (hx : x = 0 ∨ x = 1) (h1 : w.set k (.inl (1, n, .inl (upd f m x))) = w1) (q : Ev d M i' ls s0 w1 r w') (hn : n < 2000 := by decide) : Ev d M i ls (.int x :: .int j :: .ref k :: s0) w r w' := by
  subst hj
  refine Ev.bast hc hr hi hw (vin_nI hm hn) hx ?_ q
  rw [nI_cl hm hn]
  exact h1
theorem Ev.castE {w1 : AW} (hc : mP M = c) (hr : c[i]? = some (pc, .castore, a, b, z, zl, sw, ps)) (hi : i + 1 = i') (hw : w[k]? = some (.inl (2, n, .inl f))) (hj : j = nI m) (hm : m < n) (hx : vp_nar .char x = x) (h1 : w.set k (.inl (2, n, .inl (upd f m x))) = w1) (q : Ev d M i' ls s0 w1 r w') (hn : n < 2000 := by decide) : Ev d M i ls (.int x :: .int j :: .ref k :: s0) w r w' := by
  subst hj
  refine Ev.cast hc hr hi hw (vin_nI hm hn) hx ?_ q
  rw [nI_cl hm hn]
  exact h1
end EV2
/-- a truth as an int -/
def b2 (p : Prop) [Decidable p] : Int32 := if p then 1 else 0
theorem b2_t {p : Prop} [Decidable p] (h : p) : b2 p = 1 := if_pos h
theorem b2_f {p : Prop} [Decidable p] (h : ¬ p) : b2 p = 0 := if_neg h
theorem b2_01 {p : Prop} [Decidable p] : b2 p = 0 ∨ b2 p = 1 := by
  by_cases h : p
  · exact Or.inr (b2_t h)
  · exact Or.inl (b2_f h)
theorem b2_nar {p : Prop} [Decidable p] : rNar (some .boolean) (b2 p) = true := by
  unfold rNar
  exact decide_eq_true b2_01
theorem b2_0 {p : Prop} [Decidable p] : b2 p = 0 ↔ ¬ p := by
  by_cases h : p
  · rw [b2_t h]; simp [h]
  · rw [b2_f h]; simp [h]
theorem b2_1 {p : Prop} [Decidable p] : b2 p = 1 ↔ p := by
  by_cases h : p
  · rw [b2_t h]; simp [h]
  · rw [b2_f h]; simp [h]
theorem b2_iff {p q : Prop} [Decidable p] [Decidable q] (h : p ↔ q) : b2 p = b2 q := by
  by_cases hp : p
  · rw [b2_t hp, b2_t (h.mp hp)]
  · rw [b2_f hp, b2_f (fun e => hp (h.mpr e))]
/-- k turns of a loop from p on -/
def fo {α : Type} (f : Nat → α → α) : Nat → Nat → α → α
  | 0, _, a => a
  | k + 1, p, a => fo f k (p + 1) (f p a)
theorem fo_s {α : Type} {f : Nat → α → α} {k p : Nat} {a : α} : fo f (k + 1) p a = fo f k (p + 1) (f p a) := rfl
theorem fo_congr {α : Type} {f g : Nat → α → α} : ∀ (k p : Nat) (a : α), (∀ j, p ≤ j → j < p + k → ∀ x, f j x = g j x) → fo f k p a = fo g k p a
  | 0, _, _, _ => rfl
  | k + 1, p, a, h => by
    show fo f k (p + 1) (f p a) = fo g k (p + 1) (g p a)
    rw [h p (Nat.le_refl p) (by omega)]
    exact fo_congr k (p + 1) _ (fun j h1 h2 x => h j (by omega) (by omega) x)
theorem fo_last {α : Type} (f : Nat → α → α) : ∀ (k p : Nat) (a : α), fo f (k + 1) p a = f (p + k) (fo f k p a)
  | 0, _, _ => rfl
  | k + 1, p, a => by
    show fo f (k + 1) (p + 1) (f p a) = _
    rw [fo_last f k (p + 1) (f p a), show p + 1 + k = p + (k + 1) by omega]
    rfl
def bitI (p : Nat) : Int32 := 1 <<< (nI p &&& 31)
/-- conditions of loops -/
theorem ge_t {x : Int32} {n p : Nat} (h : x = nI n) (h1 : n ≤ p) (h2 : p < 2000) : x ≤ nI p := by subst h; exact nI_le h1 (by omega)
theorem ge_f {x : Int32} {n p : Nat} (h : x = nI n) (h1 : p < n) (h2 : n < 2000) : ¬ x ≤ nI p := by subst h; exact nI_ge h1 (by omega)
theorem ixm (a b t : Nat) : nI a * nI t + nI b = nI (a * t + b) := by rw [pk_mul, nI_add]
/-- an index that stands in its bounds -/
theorem ix_of {x y : Int32} {n : Nat} (hy : y = nI n) (hn : n < 2000) (h0 : ¬ x < 0) (h1 : ¬ y ≤ x) : ∃ j, j < n ∧ x = nI j := by
  subst hy
  rcases pk_ix x (n := n) (by omega) with h | h | h
  · exact absurd h h0
  · exact absurd h h1
  · exact h
theorem kl_X0_init : (vwCl[0]?).map (fun q => q.1) = some (mY 0).cls := rfl
theorem kl_X0_fewestMinutes : (vwCl[0]?).map (fun q => q.1) = some (mY 1).cls := rfl
theorem kl_X0_inFirstOrder : (vwCl[0]?).map (fun q => q.1) = some (mY 2).cls := rfl
theorem kl_X0_findLatest : (vwCl[0]?).map (fun q => q.1) = some (mY 3).cls := rfl
theorem kl_X0_lowestInTime : (vwCl[0]?).map (fun q => q.1) = some (mY 4).cls := rfl
theorem kl_X0_endOf : (vwCl[0]?).map (fun q => q.1) = some (mY 5).cls := rfl
theorem kl_X0_latestStartOf : (vwCl[0]?).map (fun q => q.1) = some (mY 6).cls := rfl
theorem kl_X0_goesThrough : (vwCl[0]?).map (fun q => q.1) = some (mY 7).cls := rfl
theorem kl_X1_init : (vwCl[1]?).map (fun q => q.1) = some (mY 8).cls := rfl
theorem kl_X1_size : (vwCl[1]?).map (fun q => q.1) = some (mY 9).cls := rfl
theorem kl_X1_loseAll : (vwCl[1]?).map (fun q => q.1) = some (mY 10).cls := rfl
theorem kl_X1_remember : (vwCl[1]?).map (fun q => q.1) = some (mY 11).cls := rfl
theorem kl_X1_restoreLatest : (vwCl[1]?).map (fun q => q.1) = some (mY 12).cls := rfl
theorem kl_X2_init : (vwCl[2]?).map (fun q => q.1) = some (mY 13).cls := rfl
theorem kl_X2_hasThing : (vwCl[2]?).map (fun q => q.1) = some (mY 14).cls := rfl
theorem kl_X2_hasPerson : (vwCl[2]?).map (fun q => q.1) = some (mY 15).cls := rfl
theorem kl_X2_fitsPerson : (vwCl[2]?).map (fun q => q.1) = some (mY 16).cls := rfl
theorem kl_X2_fitsStranger : (vwCl[2]?).map (fun q => q.1) = some (mY 17).cls := rfl
theorem kl_X2_fitsAtScale : (vwCl[2]?).map (fun q => q.1) = some (mY 18).cls := rfl
theorem kl_X2_peopleItFits : (vwCl[2]?).map (fun q => q.1) = some (mY 19).cls := rfl
theorem kl_X2_useless : (vwCl[2]?).map (fun q => q.1) = some (mY 20).cls := rfl
theorem kl_X2_bareOf : (vwCl[2]?).map (fun q => q.1) = some (mY 21).cls := rfl
theorem kl_X2_thingsOf : (vwCl[2]?).map (fun q => q.1) = some (mY 22).cls := rfl
theorem kl_X2_ownedThings : (vwCl[2]?).map (fun q => q.1) = some (mY 23).cls := rfl
theorem kl_X2_canLay : (vwCl[2]?).map (fun q => q.1) = some (mY 24).cls := rfl
theorem kl_X2_hasOneOf : (vwCl[2]?).map (fun q => q.1) = some (mY 25).cls := rfl
theorem kl_X2_freeWhatDoesNotFit : (vwCl[2]?).map (fun q => q.1) = some (mY 26).cls := rfl
theorem kl_X2_twosIfAllThingsWere : (vwCl[2]?).map (fun q => q.1) = some (mY 27).cls := rfl
theorem kl_X2_thingsFitting : (vwCl[2]?).map (fun q => q.1) = some (mY 28).cls := rfl
theorem kl_X2_smallerThan : (vwCl[2]?).map (fun q => q.1) = some (mY 29).cls := rfl
theorem kl_X2_chairs : (vwCl[2]?).map (fun q => q.1) = some (mY 30).cls := rfl
theorem kl_X2_commonScale : (vwCl[2]?).map (fun q => q.1) = some (mY 31).cls := rfl
theorem kl_X2_heightOf : (vwCl[2]?).map (fun q => q.1) = some (mY 32).cls := rfl
theorem kl_X2_heightOfAll : (vwCl[2]?).map (fun q => q.1) = some (mY 33).cls := rfl
theorem kl_X3_init : (vwCl[3]?).map (fun q => q.1) = some (mY 34).cls := rfl
theorem kl_X3_mostPeople : (vwCl[3]?).map (fun q => q.1) = some (mY 35).cls := rfl
theorem kl_X3_firstThingOf : (vwCl[3]?).map (fun q => q.1) = some (mY 36).cls := rfl
theorem kl_X3_canHouse : (vwCl[3]?).map (fun q => q.1) = some (mY 37).cls := rfl
theorem kl_X3_layFrom : (vwCl[3]?).map (fun q => q.1) = some (mY 38).cls := rfl
theorem kl_X4_init : (vwCl[4]?).map (fun q => q.1) = some (mY 39).cls := rfl
theorem kl_X4_beginAsTold : (vwCl[4]?).map (fun q => q.1) = some (mY 40).cls := rfl
theorem kl_X4_copyFrom : (vwCl[4]?).map (fun q => q.1) = some (mY 41).cls := rfl
theorem kl_X5_init : (vwCl[5]?).map (fun q => q.1) = some (mY 42).cls := rfl
theorem kl_X5_beginAsAtFirst : (vwCl[5]?).map (fun q => q.1) = some (mY 43).cls := rfl
theorem kl_X6_init : (vwCl[6]?).map (fun q => q.1) = some (mY 44).cls := rfl
theorem kl_X6_size : (vwCl[6]?).map (fun q => q.1) = some (mY 45).cls := rfl
theorem kl_X6_isFull : (vwCl[6]?).map (fun q => q.1) = some (mY 46).cls := rfl
theorem kl_X6_add : (vwCl[6]?).map (fun q => q.1) = some (mY 47).cls := rfl
theorem kl_X6_loseAll : (vwCl[6]?).map (fun q => q.1) = some (mY 48).cls := rfl
theorem kl_X6_readAll : (vwCl[6]?).map (fun q => q.1) = some (mY 49).cls := rfl
theorem kl_X6_itemsRead : (vwCl[6]?).map (fun q => q.1) = some (mY 50).cls := rfl
theorem kl_X6_giveTaleFor : (vwCl[6]?).map (fun q => q.1) = some (mY 51).cls := rfl
theorem kl_X6_readLaw : (vwCl[6]?).map (fun q => q.1) = some (mY 52).cls := rfl
theorem kl_X6_readThing : (vwCl[6]?).map (fun q => q.1) = some (mY 53).cls := rfl
theorem kl_X6_readPerson : (vwCl[6]?).map (fun q => q.1) = some (mY 54).cls := rfl
theorem kl_X6_readDoor : (vwCl[6]?).map (fun q => q.1) = some (mY 55).cls := rfl
theorem kl_X6_takeNumber : (vwCl[6]?).map (fun q => q.1) = some (mY 56).cls := rfl
theorem kl_X6_takeEndOfItem : (vwCl[6]?).map (fun q => q.1) = some (mY 57).cls := rfl
theorem kl_X6_refuseToken : (vwCl[6]?).map (fun q => q.1) = some (mY 58).cls := rfl
theorem kl_X6_takeToken : (vwCl[6]?).map (fun q => q.1) = some (mY 59).cls := rfl
theorem kl_X6_takeDigits : (vwCl[6]?).map (fun q => q.1) = some (mY 60).cls := rfl
theorem kl_X6_isDigit : (vwCl[6]?).map (fun q => q.1) = some (mY 61).cls := rfl
theorem kl_X6_isOwnToken : (vwCl[6]?).map (fun q => q.1) = some (mY 62).cls := rfl
theorem kl_X7_init : (vwCl[7]?).map (fun q => q.1) = some (mY 63).cls := rfl
theorem kl_X7_size : (vwCl[7]?).map (fun q => q.1) = some (mY 64).cls := rfl
theorem kl_X7_isFull : (vwCl[7]?).map (fun q => q.1) = some (mY 65).cls := rfl
theorem kl_X7_loseAll : (vwCl[7]?).map (fun q => q.1) = some (mY 66).cls := rfl
theorem kl_X7_add : (vwCl[7]?).map (fun q => q.1) = some (mY 67).cls := rfl
theorem kl_X7_allow : (vwCl[7]?).map (fun q => q.1) = some (mY 68).cls := rfl
theorem kl_X7_scalesLeft : (vwCl[7]?).map (fun q => q.1) = some (mY 69).cls := rfl
theorem kl_X7_leastScale : (vwCl[7]?).map (fun q => q.1) = some (mY 70).cls := rfl
theorem kl_X7_leftAtWorst : (vwCl[7]?).map (fun q => q.1) = some (mY 71).cls := rfl
theorem kl_X7_bestToTry : (vwCl[7]?).map (fun q => q.1) = some (mY 72).cls := rfl
theorem kl_X8_init : (vwCl[8]?).map (fun q => q.1) = some (mY 73).cls := rfl
theorem kl_X8_type : (vwCl[8]?).map (fun q => q.1) = some (mY 74).cls := rfl
theorem kl_X8_clear : (vwCl[8]?).map (fun q => q.1) = some (mY 75).cls := rfl
theorem kl_X8_house : (vwCl[8]?).map (fun q => q.1) = some (mY 76).cls := rfl
theorem kl_X8_use : (vwCl[8]?).map (fun q => q.1) = some (mY 77).cls := rfl
theorem kl_X8_thing : (vwCl[8]?).map (fun q => q.1) = some (mY 78).cls := rfl
theorem kl_X8_person : (vwCl[8]?).map (fun q => q.1) = some (mY 79).cls := rfl
theorem kl_X8_door : (vwCl[8]?).map (fun q => q.1) = some (mY 80).cls := rfl
theorem kl_X8_now : (vwCl[8]?).map (fun q => q.1) = some (mY 81).cls := rfl
theorem kl_X8_lays : (vwCl[8]?).map (fun q => q.1) = some (mY 82).cls := rfl
theorem kl_X8_takes : (vwCl[8]?).map (fun q => q.1) = some (mY 83).cls := rfl
theorem kl_X8_rescales : (vwCl[8]?).map (fun q => q.1) = some (mY 84).cls := rfl
theorem kl_X8_undo : (vwCl[8]?).map (fun q => q.1) = some (mY 85).cls := rfl
theorem kl_X8_housed : (vwCl[8]?).map (fun q => q.1) = some (mY 86).cls := rfl
theorem kl_X8_laying : (vwCl[8]?).map (fun q => q.1) = some (mY 87).cls := rfl
theorem kl_X8_tries : (vwCl[8]?).map (fun q => q.1) = some (mY 88).cls := rfl
theorem kl_X8_forget : (vwCl[8]?).map (fun q => q.1) = some (mY 89).cls := rfl
theorem kl_X8_mayBe : (vwCl[8]?).map (fun q => q.1) = some (mY 90).cls := rfl
theorem kl_X8_next : (vwCl[8]?).map (fun q => q.1) = some (mY 91).cls := rfl
theorem kl_X8_bestScale : (vwCl[8]?).map (fun q => q.1) = some (mY 92).cls := rfl
theorem kl_X8_oneMore : (vwCl[8]?).map (fun q => q.1) = some (mY 93).cls := rfl
theorem kl_X8_scaleOfMost : (vwCl[8]?).map (fun q => q.1) = some (mY 94).cls := rfl
theorem kl_X8_carried : (vwCl[8]?).map (fun q => q.1) = some (mY 95).cls := rfl
theorem kl_X8_mean : (vwCl[8]?).map (fun q => q.1) = some (mY 96).cls := rfl
theorem kl_X8_turnsOfAll : (vwCl[8]?).map (fun q => q.1) = some (mY 97).cls := rfl
theorem kl_X8_share : (vwCl[8]?).map (fun q => q.1) = some (mY 98).cls := rfl
theorem kl_X8_odds : (vwCl[8]?).map (fun q => q.1) = some (mY 99).cls := rfl
theorem kl_X8_rate : (vwCl[8]?).map (fun q => q.1) = some (mY 100).cls := rfl
theorem kl_X8_keep : (vwCl[8]?).map (fun q => q.1) = some (mY 101).cls := rfl
theorem kl_X8_back : (vwCl[8]?).map (fun q => q.1) = some (mY 102).cls := rfl
theorem kl_X8_count : (vwCl[8]?).map (fun q => q.1) = some (mY 103).cls := rfl
theorem kl_X8_trace : (vwCl[8]?).map (fun q => q.1) = some (mY 104).cls := rfl
theorem kl_X8_rateOfThing : (vwCl[8]?).map (fun q => q.1) = some (mY 105).cls := rfl
theorem kl_X8_rateOfTurned : (vwCl[8]?).map (fun q => q.1) = some (mY 106).cls := rfl
theorem kl_X8_rateOfGlued : (vwCl[8]?).map (fun q => q.1) = some (mY 107).cls := rfl
theorem kl_X8_rateOfCarved : (vwCl[8]?).map (fun q => q.1) = some (mY 108).cls := rfl
theorem kl_X8_rateOfSoup : (vwCl[8]?).map (fun q => q.1) = some (mY 109).cls := rfl
theorem kl_X8_rateOfReal : (vwCl[8]?).map (fun q => q.1) = some (mY 110).cls := rfl
theorem kl_X8_isFirstOrSecond : (vwCl[8]?).map (fun q => q.1) = some (mY 111).cls := rfl
theorem kl_X8_isUse : (vwCl[8]?).map (fun q => q.1) = some (mY 112).cls := rfl
theorem kl_X8_isSize : (vwCl[8]?).map (fun q => q.1) = some (mY 113).cls := rfl
theorem kl_X8_inLowestTerms : (vwCl[8]?).map (fun q => q.1) = some (mY 114).cls := rfl
theorem kl_X8_greatestDivisor : (vwCl[8]?).map (fun q => q.1) = some (mY 115).cls := rfl
theorem kl_X8_waysToChoose : (vwCl[8]?).map (fun q => q.1) = some (mY 116).cls := rfl
theorem kl_X8_power : (vwCl[8]?).map (fun q => q.1) = some (mY 117).cls := rfl
theorem kl_X9_init : (vwCl[9]?).map (fun q => q.1) = some (mY 118).cls := rfl
theorem kl_X9_firstLaws : (vwCl[9]?).map (fun q => q.1) = some (mY 119).cls := rfl
theorem kl_X9_in : (vwCl[9]?).map (fun q => q.1) = some (mY 120).cls := rfl
theorem kl_X9_ones : (vwCl[9]?).map (fun q => q.1) = some (mY 121).cls := rfl
theorem kl_X9_type : (vwCl[9]?).map (fun q => q.1) = some (mY 122).cls := rfl
theorem kl_X9_clear : (vwCl[9]?).map (fun q => q.1) = some (mY 123).cls := rfl
theorem kl_X9_letterAt : (vwCl[9]?).map (fun q => q.1) = some (mY 124).cls := rfl
theorem kl_X9_advances : (vwCl[9]?).map (fun q => q.1) = some (mY 125).cls := rfl
theorem kl_X9_isWell : (vwCl[9]?).map (fun q => q.1) = some (mY 126).cls := rfl
theorem kl_X9_takes : (vwCl[9]?).map (fun q => q.1) = some (mY 127).cls := rfl
theorem kl_X9_number : (vwCl[9]?).map (fun q => q.1) = some (mY 128).cls := rfl
theorem kl_X9_mayBegin : (vwCl[9]?).map (fun q => q.1) = some (mY 129).cls := rfl
theorem kl_X9_readsItem : (vwCl[9]?).map (fun q => q.1) = some (mY 130).cls := rfl
theorem kl_X9_house : (vwCl[9]?).map (fun q => q.1) = some (mY 131).cls := rfl
theorem kl_X9_settles : (vwCl[9]?).map (fun q => q.1) = some (mY 132).cls := rfl
theorem kl_X9_isThingThere : (vwCl[9]?).map (fun q => q.1) = some (mY 133).cls := rfl
theorem kl_X9_isPerson : (vwCl[9]?).map (fun q => q.1) = some (mY 134).cls := rfl
theorem kl_X9_useOf : (vwCl[9]?).map (fun q => q.1) = some (mY 135).cls := rfl
theorem kl_X9_fits : (vwCl[9]?).map (fun q => q.1) = some (mY 136).cls := rfl
theorem kl_X9_isFit : (vwCl[9]?).map (fun q => q.1) = some (mY 137).cls := rfl
theorem kl_X9_fitsOf : (vwCl[9]?).map (fun q => q.1) = some (mY 138).cls := rfl
theorem kl_X9_use : (vwCl[9]?).map (fun q => q.1) = some (mY 139).cls := rfl
theorem kl_X9_thing : (vwCl[9]?).map (fun q => q.1) = some (mY 140).cls := rfl
theorem kl_X9_thingsOf : (vwCl[9]?).map (fun q => q.1) = some (mY 141).cls := rfl
theorem kl_X9_taller : (vwCl[9]?).map (fun q => q.1) = some (mY 142).cls := rfl
theorem kl_X9_person : (vwCl[9]?).map (fun q => q.1) = some (mY 143).cls := rfl
theorem kl_X9_door : (vwCl[9]?).map (fun q => q.1) = some (mY 144).cls := rfl
theorem kl_X9_useless : (vwCl[9]?).map (fun q => q.1) = some (mY 145).cls := rfl
theorem kl_X9_bare : (vwCl[9]?).map (fun q => q.1) = some (mY 146).cls := rfl
theorem kl_X9_owned : (vwCl[9]?).map (fun q => q.1) = some (mY 147).cls := rfl
theorem kl_X9_now : (vwCl[9]?).map (fun q => q.1) = some (mY 148).cls := rfl
theorem kl_X9_notes : (vwCl[9]?).map (fun q => q.1) = some (mY 149).cls := rfl
theorem kl_X9_hasOne : (vwCl[9]?).map (fun q => q.1) = some (mY 150).cls := rfl
theorem kl_X9_lays : (vwCl[9]?).map (fun q => q.1) = some (mY 151).cls := rfl
theorem kl_X9_takes_ : (vwCl[9]?).map (fun q => q.1) = some (mY 152).cls := rfl
theorem kl_X9_rescales : (vwCl[9]?).map (fun q => q.1) = some (mY 153).cls := rfl
theorem kl_X9_undo : (vwCl[9]?).map (fun q => q.1) = some (mY 154).cls := rfl
theorem kl_X9_canHave : (vwCl[9]?).map (fun q => q.1) = some (mY 155).cls := rfl
theorem kl_X9_housedSet : (vwCl[9]?).map (fun q => q.1) = some (mY 156).cls := rfl
theorem kl_X9_housed : (vwCl[9]?).map (fun q => q.1) = some (mY 157).cls := rfl
theorem kl_X9_laying : (vwCl[9]?).map (fun q => q.1) = some (mY 158).cls := rfl
theorem kl_X9_tries : (vwCl[9]?).map (fun q => q.1) = some (mY 159).cls := rfl
theorem kl_X9_forget : (vwCl[9]?).map (fun q => q.1) = some (mY 160).cls := rfl
theorem kl_X9_mayBeAt : (vwCl[9]?).map (fun q => q.1) = some (mY 161).cls := rfl
theorem kl_X9_mayBe : (vwCl[9]?).map (fun q => q.1) = some (mY 162).cls := rfl
theorem kl_X9_worst : (vwCl[9]?).map (fun q => q.1) = some (mY 163).cls := rfl
theorem kl_X9_next : (vwCl[9]?).map (fun q => q.1) = some (mY 164).cls := rfl
theorem kl_X9_fitsAt : (vwCl[9]?).map (fun q => q.1) = some (mY 165).cls := rfl
theorem kl_X9_bestScale : (vwCl[9]?).map (fun q => q.1) = some (mY 166).cls := rfl
theorem kl_X9_fitsHim : (vwCl[9]?).map (fun q => q.1) = some (mY 167).cls := rfl
theorem kl_X9_oneMore : (vwCl[9]?).map (fun q => q.1) = some (mY 168).cls := rfl
theorem kl_X9_isIn : (vwCl[9]?).map (fun q => q.1) = some (mY 169).cls := rfl
theorem kl_X9_isOrder : (vwCl[9]?).map (fun q => q.1) = some (mY 170).cls := rfl
theorem kl_X9_carried : (vwCl[9]?).map (fun q => q.1) = some (mY 171).cls := rfl
theorem kl_X9_gcd : (vwCl[9]?).map (fun q => q.1) = some (mY 172).cls := rfl
theorem kl_X9_mean : (vwCl[9]?).map (fun q => q.1) = some (mY 173).cls := rfl
theorem kl_X9_turnsOfAll : (vwCl[9]?).map (fun q => q.1) = some (mY 174).cls := rfl
theorem kl_X9_share : (vwCl[9]?).map (fun q => q.1) = some (mY 175).cls := rfl
theorem kl_X9_power : (vwCl[9]?).map (fun q => q.1) = some (mY 176).cls := rfl
theorem kl_X9_choose : (vwCl[9]?).map (fun q => q.1) = some (mY 177).cls := rfl
theorem kl_X9_odds : (vwCl[9]?).map (fun q => q.1) = some (mY 178).cls := rfl
theorem kl_X9_rate : (vwCl[9]?).map (fun q => q.1) = some (mY 179).cls := rfl
theorem kl_X9_keep : (vwCl[9]?).map (fun q => q.1) = some (mY 180).cls := rfl
theorem kl_X9_back : (vwCl[9]?).map (fun q => q.1) = some (mY 181).cls := rfl
theorem kl_X9_count : (vwCl[9]?).map (fun q => q.1) = some (mY 182).cls := rfl
theorem kl_X9_trace : (vwCl[9]?).map (fun q => q.1) = some (mY 183).cls := rfl
end
section
/-! THE SPECIFICATION: what the house answers, over a view v of it. n THINGS, q PEOPLE, dn DOORS.
v 0 use, 1 scale, 2 size, 3 minutes of a THING; 4 scale, 5 size of a PERSON; 6 LOW, 7 HIGH of a use; 8 from, 9 until, 10 scale, 11 size of a DOOR; 12 whose a THING is (-9 none) -/
abbrev VW : Type := Nat → Nat → Int32
def cut (n : Nat) (f : Nat → Int32) : Nat → Int32 := fun t => if t < n then f t else 0
theorem cut_lt {n t : Nat} {f : Nat → Int32} (h : t < n) : cut n f t = f t := if_pos h
def vC (n q dn : Nat) (g : Nat → Nat → Int32) : VW := fun r => match r with
  | 0 => cut n (g 32) | 1 => cut n (g 51) | 2 => cut n (g 34) | 3 => cut n (g 35)
  | 4 => cut q (g 52) | 5 => cut q (g 37) | 6 => cut 3 (g 30) | 7 => cut 3 (g 31)
  | 8 => cut dn (g 38) | 9 => cut dn (g 39) | 10 => cut dn (g 40) | 11 => cut dn (g 41)
  | 12 => cut n (g 50) | _ => fun _ => 0
def vR (n q dn : Nat) (g : Nat → Nat → Int32) : VW := fun r => match r with
  | 0 => cut n (fun t => g 3 (4 * t)) | 1 => cut n (fun t => g 7 (6 + t)) | 2 => cut n (fun t => g 3 (4 * t + 2)) | 3 => cut n (fun t => g 3 (4 * t + 3))
  | 4 => cut q (fun t => g 7 (12 + t)) | 5 => cut q (fun t => g 4 (2 * t + 1)) | 6 => cut 3 (fun t => g 6 (2 * t)) | 7 => cut 3 (fun t => g 6 (2 * t + 1))
  | 8 => cut dn (fun t => g 5 (4 * t)) | 9 => cut dn (fun t => g 5 (4 * t + 1)) | 10 => cut dn (fun t => g 5 (4 * t + 2)) | 11 => cut dn (fun t => g 5 (4 * t + 3))
  | 12 => cut n (fun t => if g 7 t = 0 then -9 else g 7 t - 1) | _ => fun _ => 0
def btw (a b : Nat) (x : Int32) : Prop := ∃ k, a ≤ k ∧ k ≤ b ∧ x = nI k
/-- what holds of every house -/
def WF (n q dn : Nat) (v : VW) : Prop := (n ≤ 6 ∧ q ≤ 5 ∧ dn ≤ 3) ∧ (∀ t, t < n → btw 0 2 (v 0 t) ∧ btw 1 48 (v 1 t) ∧ btw 1 99 (v 2 t) ∧ btw 1 9 (v 3 t)) ∧ (∀ p, p < q → btw 1 48 (v 4 p) ∧ btw 1 99 (v 5 p)) ∧ (∀ u, u < 3 → btw 0 60 (v 6 u) ∧ btw 0 60 (v 7 u)) ∧
  (∀ k, k < dn → btw 0 60 (v 8 k) ∧ btw 0 99 (v 9 k) ∧ btw 1 48 (v 10 k) ∧ btw 1 99 (v 11 k)) ∧ (∀ t, t < n → v 12 t = -9 ∨ ∃ p, p < q ∧ v 12 t = nI p)
def CI (n q dn : Nat) (g : Nat → Nat → Int32) : Prop := g 42 0 = nI n ∧ g 42 1 = nI q ∧ g 42 2 = nI dn ∧ WF n q dn (vC n q dn g)
def RI (n q dn : Nat) (g : Nat → Nat → Int32) : Prop := g 2 0 = nI n ∧ g 2 1 = nI q ∧ g 2 2 = nI dn ∧ WF n q dn (vR n q dn g) ∧ ∀ t, t < n → g 7 t = 0 ∨ ∃ p, p < q ∧ g 7 t = nI (p + 1)
section CIL
variable {n q dn : Nat} {g : Nat → Nat → Int32}
theorem CI.b (h : CI n q dn g) : n ≤ 6 ∧ q ≤ 5 ∧ dn ≤ 3 := h.2.2.2.1
theorem RI.b (h : RI n q dn g) : n ≤ 6 ∧ q ≤ 5 ∧ dn ≤ 3 := h.2.2.2.1.1
theorem CI.hn (h : CI n q dn g) : g 42 0 = nI n := h.1
theorem CI.hq (h : CI n q dn g) : g 42 1 = nI q := h.2.1
theorem CI.hd (h : CI n q dn g) : g 42 2 = nI dn := h.2.2.1
theorem RI.hn (h : RI n q dn g) : g 2 0 = nI n := h.1
theorem RI.hq (h : RI n q dn g) : g 2 1 = nI q := h.2.1
theorem RI.hd (h : RI n q dn g) : g 2 2 = nI dn := h.2.2.1
theorem CI.w (h : CI n q dn g) : WF n q dn (vC n q dn g) := h.2.2.2
theorem RI.w (h : RI n q dn g) : WF n q dn (vR n q dn g) := h.2.2.2.1
theorem RI.o (h : RI n q dn g) : ∀ t, t < n → g 7 t = 0 ∨ ∃ p, p < q ∧ g 7 t = nI (p + 1) := h.2.2.2.2
theorem CI.use (h : CI n q dn g) {t : Nat} (ht : t < n) : ∃ u, u < 3 ∧ g 32 t = nI u := by
  obtain ⟨u, -, h2, h3⟩ := (h.w.2.1 t ht).1
  exact ⟨u, by omega, by rw [← h3]; exact (cut_lt ht).symm⟩
theorem RI.use (h : RI n q dn g) {t : Nat} (ht : t < n) : ∃ u, u < 3 ∧ g 3 (4 * t) = nI u := by
  obtain ⟨u, -, h2, h3⟩ := (h.w.2.1 t ht).1
  exact ⟨u, by omega, by rw [← h3]; exact (cut_lt (f := fun t => g 3 (4 * t)) ht).symm⟩
end CIL
def bI (b : Bool) : Int32 := if b = true then 1 else 0
theorem bI_0 {b : Bool} : bI b = 0 ↔ b = false := by cases b <;> simp [bI]
theorem bI_01 {b : Bool} : bI b = 0 ∨ bI b = 1 := by cases b <;> simp [bI]
theorem bI_nar {b : Bool} : rNar (some .boolean) (bI b) = true := by cases b <;> rfl
theorem Ev.brB {d M i : Nat} {ls st : List Value} {w w' : AW} {r : Option Value} {c : List Row} {row : Row} {i1 i2 : Nat} {ls' st' : List Value} {b : Bool} (hc : mP M = c) (hr : c[i]? = some row) (h : nx1 row i ls st w = some (if bI b = 0 then i1 else i2, ls', st')) (k1 : b = false → Ev d M i1 ls' st' w r w') (k2 : b = true → Ev d M i2 ls' st' w r w') : Ev d M i ls st w r w' :=
  Ev.br hc hr h (fun h => k1 (bI_0.mp h)) (fun h => k2 (by
    cases b
    · exact absurd rfl h
    · rfl))
theorem Ev.cg {d M i : Nat} {ls ls2 st : List Value} {w w' : AW} {r : Option Value} (h : Ev d M i ls st w r w') (e : ls = ls2) : Ev d M i ls2 st w r w' := e ▸ h
def anyN (f : Nat → Bool) : Nat → Nat → Bool
  | 0, _ => false
  | k + 1, p => if f p = true then true else anyN f k (p + 1)
def ux (v : VW) (t : Nat) : Nat := (v 0 t).toNatClampNeg
/-- a THING of a scale FITS one of a size at a scale -/
def fitB (v : VW) (t : Nat) (its sc size : Int32) : Bool := decide (v 6 (ux v t) * (size * its) ≤ 20 * v 2 t * sc) && decide (20 * v 2 t * sc ≤ v 7 (ux v t) * (size * its))
def fpB (v : VW) (t p : Nat) : Bool := fitB v t (v 1 t) (v 4 p) (v 5 p)
def PIF (q : Nat) (v : VW) (t : Nat) : Int32 := fo (fun p a => if fpB v t p = true then a ||| bitI p else a) q 0 0
def ULS (n q : Nat) (v : VW) : Int32 := fo (fun t a => if PIF q v t = 0 then a ||| bitI t else a) n 0 0
def BAR (n q : Nat) (v : VW) (u : Int32) : Int32 := fo (fun t a => if v 0 t = u then a &&& (PIF q v t ^^^ (-1)) else a) n 0 ((1 <<< (nI q &&& 31)) - 1)
def TOF (n : Nat) (v : VW) (p : Int32) : Int32 := fo (fun t a => if v 12 t = p then a ||| bitI t else a) n 0 0
def OWN (n : Nat) (v : VW) : Int32 := fo (fun t a => if v 12 t = -9 then a else a ||| bitI t) n 0 0
def HOO (n : Nat) (v : VW) (p u : Int32) : Bool := anyN (fun t => decide (v 12 t = p) && decide (v 0 t = u)) n 0
def TWO (n q : Nat) (v : VW) (s : Int32) : Int32 := fo (fun t a => fo (fun p a => if fitB v t s (v 4 p) (v 5 p) = true then a + 1 else a) q 0 a) n 0 0
def THF (n : Nat) (v : VW) (size sc : Int32) : Int32 := fo (fun t a => if fitB v t (v 1 t) sc size = true then a + 1 else a) n 0 0
def SMT (q : Nat) (v : VW) (p : Nat) : Int32 := fo (fun e a => if v 5 e * v 4 p < v 5 p * v 4 e then a + 1 else a) q 0 0
def CHR (n : Nat) (v : VW) : Int32 := fo (fun t a => if v 0 t = 0 then a + 1 else a) n 0 0
def COM (q : Nat) (v : VW) : Int64 := fo (fun p a => a * (v 4 p).toInt64) q 0 1
def HGT (v : VW) (p : Nat) (unit : Int64) : Int64 := if v 4 p = 0 then 0 else (v 5 p).toInt64 * (unit / (v 4 p).toInt64)
def HGA (q : Nat) (v : VW) (unit : Int64) : Int64 := fo (fun p a => a + HGT v p unit) q 0 0
end
section
/-! class House: its questions -/
set_option maxRecDepth 20000 in
set_option maxHeartbeats 200000 in
theorem c_X2_hasThing (d : Nat) (g : Nat → Nat → Int32) (tr : Int64) {n q dn : Nat} (hc : CI n q dn g) (t : Int32) : Ev d 14 0 [.ref 16, .int t] [] (wC g tr) (some (.int (bI (decide (0 ≤ t) && decide (t < nI n))))) (wC g tr) := by
  refine Ev.sn e_X2_hasThing 1 (i' := 1) (ls' := [_, _]) (st' := [_]) rfl ?_
  refine Ev.br (i1 := 9) (i2 := 2) e_X2_hasThing rfl rfl (fun h0 => ?_) (fun h0 => ?_)
  · refine Ev.sn e_X2_hasThing 1 (i' := 10) (ls' := [_, _]) (st' := [_]) rfl ?_
    refine Ev.iret e_X2_hasThing rfl rfl rfl ?_ rfl
    simp [bI, Int32.not_le.mpr h0]
  · refine Ev.sn e_X2_hasThing 4 (i' := 6) (ls' := [_, _]) (st' := [_, _]) rfl ?_
    refine Ev.br (i1 := 9) (i2 := 7) e_X2_hasThing rfl rfl (fun h1 => ?_) (fun h1 => ?_)
    · refine Ev.sn e_X2_hasThing 1 (i' := 10) (ls' := [_, _]) (st' := [_]) rfl ?_
      refine Ev.iret e_X2_hasThing rfl rfl rfl ?_ rfl
      rw [hc.hn] at h1
      simp [bI, Int32.not_lt.mpr h1]
    · refine Ev.sn e_X2_hasThing 2 (i' := 10) (ls' := [_, _]) (st' := [_]) rfl ?_
      refine Ev.iret e_X2_hasThing rfl rfl rfl ?_ rfl
      rw [hc.hn] at h1
      simp [bI, Int32.not_lt.mp h0, Int32.not_le.mp h1]
set_option maxRecDepth 20000 in
set_option maxHeartbeats 200000 in
theorem c_X2_hasPerson (d : Nat) (g : Nat → Nat → Int32) (tr : Int64) {n q dn : Nat} (hc : CI n q dn g) (t : Int32) : Ev d 15 0 [.ref 16, .int t] [] (wC g tr) (some (.int (bI (decide (0 ≤ t) && decide (t < nI q))))) (wC g tr) := by
  refine Ev.sn e_X2_hasPerson 1 (i' := 1) (ls' := [_, _]) (st' := [_]) rfl ?_
  refine Ev.br (i1 := 9) (i2 := 2) e_X2_hasPerson rfl rfl (fun h0 => ?_) (fun h0 => ?_)
  · refine Ev.sn e_X2_hasPerson 1 (i' := 10) (ls' := [_, _]) (st' := [_]) rfl ?_
    refine Ev.iret e_X2_hasPerson rfl rfl rfl ?_ rfl
    simp [bI, Int32.not_le.mpr h0]
  · refine Ev.sn e_X2_hasPerson 4 (i' := 6) (ls' := [_, _]) (st' := [_, _]) rfl ?_
    refine Ev.br (i1 := 9) (i2 := 7) e_X2_hasPerson rfl rfl (fun h1 => ?_) (fun h1 => ?_)
    · refine Ev.sn e_X2_hasPerson 1 (i' := 10) (ls' := [_, _]) (st' := [_]) rfl ?_
      refine Ev.iret e_X2_hasPerson rfl rfl rfl ?_ rfl
      rw [hc.hq] at h1
      simp [bI, Int32.not_lt.mpr h1]
    · refine Ev.sn e_X2_hasPerson 2 (i' := 10) (ls' := [_, _]) (st' := [_]) rfl ?_
      refine Ev.iret e_X2_hasPerson rfl rfl rfl ?_ rfl
      rw [hc.hq] at h1
      simp [bI, Int32.not_lt.mp h0, Int32.not_le.mp h1]
set_option maxRecDepth 20000 in
set_option maxHeartbeats 200000 in
theorem fitB_C {n q dn : Nat} {g : Nat → Nat → Int32} {t u : Nat} (ht : t < n) (hu : u < 3) (e : g 32 t = nI u) (its sc size : Int32) : fitB (vC n q dn g) t its sc size = (decide (g 30 u * (size * its) ≤ 20 * g 34 t * sc) && decide (20 * g 34 t * sc ≤ g 31 u * (size * its))) := by
  have e1 : ux (vC n q dn g) t = u := by
    show (cut n (g 32) t).toNatClampNeg = u
    rw [cut_lt ht, e]
    exact nI_clamp (by omega)
  unfold fitB
  rw [e1]
  show (decide (cut 3 (g 30) u * (size * its) ≤ 20 * cut n (g 34) t * sc) && decide (20 * cut n (g 34) t * sc ≤ cut 3 (g 31) u * (size * its))) = _
  rw [cut_lt hu, cut_lt hu, cut_lt ht]
set_option maxRecDepth 20000 in
set_option maxHeartbeats 200000 in
theorem c_X2_fitsAtScale (d : Nat) (g : Nat → Nat → Int32) (tr : Int64) {n q dn : Nat} (hc : CI n q dn g) {t : Nat} (ht : t < n) (its size sc : Int32) : Ev d 18 0 [.ref 16, .int (nI t), .int its, .int size, .int sc, .null, .null, .null] [] (wC g tr) (some (.int (bI (fitB (vC n q dn g) t its sc size)))) (wC g tr) := by
  have hb := hc.b
  obtain ⟨u, hu, e⟩ := hc.use ht
  rw [fitB_C ht hu e]
  refine Ev.sn e_X2_fitsAtScale 4 (i' := 4) (ls' := [_, _, _, _, _, _, _, _]) (st' := [_, _]) rfl ?_
  refine Ev.ialdE e_X2_fitsAtScale rfl rfl rfl rfl rfl (by omega) ?_
  refine Ev.sn e_X2_fitsAtScale 6 (i' := 11) (ls' := [_, _, _, _, _, _, _, _]) (st' := [_, _, _]) rfl ?_
  refine Ev.ialdE e_X2_fitsAtScale rfl rfl rfl rfl rfl (by omega) ?_
  refine Ev.sn e_X2_fitsAtScale 12 (i' := 24) (ls' := [_, _, _, _, _, _, _, _]) (st' := [_, _]) rfl ?_
  refine Ev.ialdE e_X2_fitsAtScale rfl rfl rfl rfl e hu ?_
  refine Ev.sn e_X2_fitsAtScale 3 (i' := 28) (ls' := [_, _, _, _, _, _, _, _]) (st' := [_, _]) rfl ?_
  refine Ev.br (i1 := 40) (i2 := 29) e_X2_fitsAtScale rfl rfl (fun h0 => ?_) (fun h0 => ?_)
  · refine Ev.sn e_X2_fitsAtScale 1 (i' := 41) (ls' := [_, _, _, _, _, _, _, _]) (st' := [_]) rfl ?_
    refine Ev.iret e_X2_fitsAtScale rfl rfl rfl ?_ rfl
    simp [bI, Int32.not_le.mpr h0]
  · refine Ev.sn e_X2_fitsAtScale 5 (i' := 34) (ls' := [_, _, _, _, _, _, _, _]) (st' := [_, _, _]) rfl ?_
    refine Ev.ialdE e_X2_fitsAtScale rfl rfl rfl rfl e hu ?_
    refine Ev.sn e_X2_fitsAtScale 2 (i' := 37) (ls' := [_, _, _, _, _, _, _, _]) (st' := [_, _]) rfl ?_
    refine Ev.br (i1 := 40) (i2 := 38) e_X2_fitsAtScale rfl rfl (fun h1 => ?_) (fun h1 => ?_)
    · refine Ev.sn e_X2_fitsAtScale 1 (i' := 41) (ls' := [_, _, _, _, _, _, _, _]) (st' := [_]) rfl ?_
      refine Ev.iret e_X2_fitsAtScale rfl rfl rfl ?_ rfl
      simp [bI, Int32.not_le.mpr h1]
    · refine Ev.sn e_X2_fitsAtScale 2 (i' := 41) (ls' := [_, _, _, _, _, _, _, _]) (st' := [_]) rfl ?_
      refine Ev.iret e_X2_fitsAtScale rfl rfl rfl ?_ rfl
      simp [bI, Int32.not_lt.mp h0, Int32.not_lt.mp h1]
set_option maxRecDepth 20000 in
set_option maxHeartbeats 200000 in
theorem c_X2_fitsPerson (d : Nat) (g : Nat → Nat → Int32) (tr : Int64) {n q dn : Nat} (hc : CI n q dn g) {t p : Nat} (ht : t < n) (hp : p < q) : Ev (d + 1) 16 0 [.ref 16, .int (nI t), .int (nI p)] [] (wC g tr) (some (.int (bI (fpB (vC n q dn g) t p)))) (wC g tr) := by
  have hb := hc.b
  rw [show fpB (vC n q dn g) t p = fitB (vC n q dn g) t (g 51 t) (g 52 p) (g 37 p) by
    show fitB (vC n q dn g) t (cut n (g 51) t) (cut q (g 52) p) (cut q (g 37) p) = _
    rw [cut_lt ht, cut_lt hp, cut_lt hp]]
  refine Ev.sn e_X2_fitsPerson 6 (i' := 6) (ls' := [_, _, _]) (st' := [_, _, _, _]) rfl ?_
  refine Ev.ialdE e_X2_fitsPerson rfl rfl rfl rfl rfl (by omega) ?_
  refine Ev.sn e_X2_fitsPerson 4 (i' := 11) (ls' := [_, _, _]) (st' := [_, _, _, _, _]) rfl ?_
  refine Ev.ialdE e_X2_fitsPerson rfl rfl rfl rfl rfl (by omega) ?_
  refine Ev.sn e_X2_fitsPerson 4 (i' := 16) (ls' := [_, _, _]) (st' := [_, _, _, _, _, _]) rfl ?_
  refine Ev.ialdE e_X2_fitsPerson rfl rfl rfl rfl rfl (by omega) ?_
  refine Ev.clV e_X2_fitsPerson rfl rfl (as := [_, _, _, _]) rfl rfl rfl kl_X2_fitsAtScale rfl rfl rfl (c_X2_fitsAtScale _ _ _ hc ht _ _ _) rfl ?_
  refine Ev.iret e_X2_fitsPerson rfl rfl bI_nar ?_ rfl
  rfl
set_option maxRecDepth 20000 in
set_option maxHeartbeats 200000 in
theorem c_X2_fitsStranger (d : Nat) (g : Nat → Nat → Int32) (tr : Int64) {n q dn : Nat} (hc : CI n q dn g) {t : Nat} (ht : t < n) (size sc : Int32) : Ev (d + 1) 17 0 [.ref 16, .int (nI t), .int size, .int sc] [] (wC g tr) (some (.int (bI (fitB (vC n q dn g) t ((vC n q dn g) 1 t) sc size)))) (wC g tr) := by
  have hb := hc.b
  rw [show (vC n q dn g) 1 t = g 51 t from cut_lt ht]
  refine Ev.sn e_X2_fitsStranger 6 (i' := 6) (ls' := [_, _, _, _]) (st' := [_, _, _, _]) rfl ?_
  refine Ev.ialdE e_X2_fitsStranger rfl rfl rfl rfl rfl (by omega) ?_
  refine Ev.sn e_X2_fitsStranger 2 (i' := 9) (ls' := [_, _, _, _]) (st' := [_, _, _, _, _]) rfl ?_
  refine Ev.clV e_X2_fitsStranger rfl rfl (as := [_, _, _, _]) rfl rfl rfl kl_X2_fitsAtScale rfl rfl rfl (c_X2_fitsAtScale _ _ _ hc ht _ _ _) rfl ?_
  refine Ev.iret e_X2_fitsStranger rfl rfl bI_nar ?_ rfl
  rfl
set_option maxRecDepth 20000 in
set_option maxHeartbeats 200000 in
theorem lp_X2_peopleItFits (d : Nat) (g : Nat → Nat → Int32) (tr : Int64) {n q dn : Nat} (hc : CI n q dn g) {t : Nat} (ht : t < n) : ∀ (kk p : Nat) (a : Int32), p + kk = q → Ev (d + 2) 19 4 [.ref 16, .int (nI t), .int a, .int (nI p)] [] (wC g tr) (some (.int (fo (fun p a => if fpB (vC n q dn g) t p = true then a ||| bitI p else a) kk p a))) (wC g tr) := by
  intro kk
  induction kk with
  | zero =>
    intro p a hp
    have hb := hc.b
    refine Ev.sn e_X2_peopleItFits 4 (i' := 8) (ls' := [_, _, _, _]) (st' := [_, _]) rfl ?_
    refine Ev.brT (i1 := 22) (i2 := 9) e_X2_peopleItFits rfl rfl (ge_t hc.hq (by omega) (by omega)) ?_
    refine Ev.sn e_X2_peopleItFits 1 (i' := 23) (ls' := [_, _, _, _]) (st' := [_]) rfl ?_
    refine Ev.iret e_X2_peopleItFits rfl rfl rfl ?_ rfl
    rfl
  | succ kk ih =>
    intro p a hp
    rw [fo_s (k := kk)]
    have hb := hc.b
    refine Ev.sn e_X2_peopleItFits 4 (i' := 8) (ls' := [_, _, _, _]) (st' := [_, _]) rfl ?_
    refine Ev.brF (i1 := 22) (i2 := 9) e_X2_peopleItFits rfl rfl (ge_f hc.hq (by omega) (by omega)) ?_
    refine Ev.sn e_X2_peopleItFits 3 (i' := 12) (ls' := [_, _, _, _]) (st' := [_, _, _]) rfl ?_
    refine Ev.clV e_X2_peopleItFits rfl rfl (as := [_, _]) rfl rfl rfl kl_X2_fitsPerson rfl rfl rfl (c_X2_fitsPerson _ _ _ hc ht (by omega)) rfl ?_
    refine Ev.brB (i1 := 20) (i2 := 14) e_X2_peopleItFits rfl rfl (fun h0 => ?_) (fun h0 => ?_)
    · refine Ev.sn e_X2_peopleItFits 2 (i' := 4) (ls' := [_, _, _, _]) (st' := []) rfl ?_
      refine id (Ev.cg (ih (p + 1) ((fun p a => if fpB (vC n q dn g) t p = true then a ||| bitI p else a) p a) (by omega)) ?_)
      simp [nI_1, bitI, h0]
    · refine Ev.sn e_X2_peopleItFits 8 (i' := 4) (ls' := [_, _, _, _]) (st' := []) rfl ?_
      refine id (Ev.cg (ih (p + 1) ((fun p a => if fpB (vC n q dn g) t p = true then a ||| bitI p else a) p a) (by omega)) ?_)
      simp [nI_1, bitI, h0]
set_option maxRecDepth 20000 in
set_option maxHeartbeats 200000 in
theorem c_X2_peopleItFits (d : Nat) (g : Nat → Nat → Int32) (tr : Int64) {n q dn : Nat} (hc : CI n q dn g) {t : Nat} (ht : t < n) : Ev (d + 2) 19 0 [.ref 16, .int (nI t), .null, .null] [] (wC g tr) (some (.int (PIF q (vC n q dn g) t))) (wC g tr) := by
  have hb := hc.b
  refine Ev.sn e_X2_peopleItFits 4 (i' := 4) (ls' := [_, _, _, _]) (st' := []) rfl ?_
  exact lp_X2_peopleItFits _ _ _ hc ht q 0 0 (by omega)
set_option maxRecDepth 20000 in
set_option maxHeartbeats 200000 in
theorem lp_X2_useless (d : Nat) (g : Nat → Nat → Int32) (tr : Int64) {n q dn : Nat} (hc : CI n q dn g) : ∀ (kk p : Nat) (a : Int32), p + kk = n → Ev (d + 3) 20 4 [.ref 16, .int a, .int (nI p)] [] (wC g tr) (some (.int (fo (fun t a => if PIF q (vC n q dn g) t = 0 then a ||| bitI t else a) kk p a))) (wC g tr) := by
  intro kk
  induction kk with
  | zero =>
    intro p a hp
    have hb := hc.b
    refine Ev.sn e_X2_useless 4 (i' := 8) (ls' := [_, _, _]) (st' := [_, _]) rfl ?_
    refine Ev.brT (i1 := 21) (i2 := 9) e_X2_useless rfl rfl (ge_t hc.hn (by omega) (by omega)) ?_
    refine Ev.sn e_X2_useless 1 (i' := 22) (ls' := [_, _, _]) (st' := [_]) rfl ?_
    refine Ev.iret e_X2_useless rfl rfl rfl ?_ rfl
    rfl
  | succ kk ih =>
    intro p a hp
    rw [fo_s (k := kk)]
    have hb := hc.b
    refine Ev.sn e_X2_useless 4 (i' := 8) (ls' := [_, _, _]) (st' := [_, _]) rfl ?_
    refine Ev.brF (i1 := 21) (i2 := 9) e_X2_useless rfl rfl (ge_f hc.hn (by omega) (by omega)) ?_
    refine Ev.sn e_X2_useless 2 (i' := 11) (ls' := [_, _, _]) (st' := [_, _]) rfl ?_
    refine Ev.clV e_X2_useless rfl rfl (as := [_]) rfl rfl rfl kl_X2_peopleItFits rfl rfl rfl (c_X2_peopleItFits _ _ _ hc (by omega)) rfl ?_
    refine Ev.br (i1 := 13) (i2 := 19) e_X2_useless rfl rfl (fun h0 => ?_) (fun h0 => ?_)
    · refine Ev.sn e_X2_useless 8 (i' := 4) (ls' := [_, _, _]) (st' := []) rfl ?_
      refine id (Ev.cg (ih (p + 1) ((fun t a => if PIF q (vC n q dn g) t = 0 then a ||| bitI t else a) p a) (by omega)) ?_)
      simp [nI_1, bitI, h0]
    · refine Ev.sn e_X2_useless 2 (i' := 4) (ls' := [_, _, _]) (st' := []) rfl ?_
      refine id (Ev.cg (ih (p + 1) ((fun t a => if PIF q (vC n q dn g) t = 0 then a ||| bitI t else a) p a) (by omega)) ?_)
      simp [nI_1, bitI, h0]
set_option maxRecDepth 20000 in
set_option maxHeartbeats 200000 in
theorem c_X2_useless (d : Nat) (g : Nat → Nat → Int32) (tr : Int64) {n q dn : Nat} (hc : CI n q dn g) : Ev (d + 3) 20 0 [.ref 16, .null, .null] [] (wC g tr) (some (.int (ULS n q (vC n q dn g)))) (wC g tr) := by
  have hb := hc.b
  refine Ev.sn e_X2_useless 4 (i' := 4) (ls' := [_, _, _]) (st' := []) rfl ?_
  exact lp_X2_useless _ _ _ hc n 0 0 (by omega)
set_option maxRecDepth 20000 in
set_option maxHeartbeats 200000 in
theorem lp_X2_bareOf (d : Nat) (g : Nat → Nat → Int32) (tr : Int64) {n q dn : Nat} (hc : CI n q dn g) (u : Int32) : ∀ (kk p : Nat) (a : Int32), p + kk = n → Ev (d + 3) 21 10 [.ref 16, .int u, .int a, .int (nI p)] [] (wC g tr) (some (.int (fo (fun t a => if (vC n q dn g) 0 t = u then a &&& (PIF q (vC n q dn g) t ^^^ (-1)) else a) kk p a))) (wC g tr) := by
  intro kk
  induction kk with
  | zero =>
    intro p a hp
    have hb := hc.b
    refine Ev.sn e_X2_bareOf 4 (i' := 14) (ls' := [_, _, _, _]) (st' := [_, _]) rfl ?_
    refine Ev.brT (i1 := 32) (i2 := 15) e_X2_bareOf rfl rfl (ge_t hc.hn (by omega) (by omega)) ?_
    refine Ev.sn e_X2_bareOf 1 (i' := 33) (ls' := [_, _, _, _]) (st' := [_]) rfl ?_
    refine Ev.iret e_X2_bareOf rfl rfl rfl ?_ rfl
    rfl
  | succ kk ih =>
    intro p a hp
    rw [fo_s (k := kk)]
    have hb := hc.b
    have hv : (vC n q dn g) 0 p = g 32 p := cut_lt (by omega)
    refine Ev.sn e_X2_bareOf 4 (i' := 14) (ls' := [_, _, _, _]) (st' := [_, _]) rfl ?_
    refine Ev.brF (i1 := 32) (i2 := 15) e_X2_bareOf rfl rfl (ge_f hc.hn (by omega) (by omega)) ?_
    refine Ev.sn e_X2_bareOf 4 (i' := 19) (ls' := [_, _, _, _]) (st' := [_, _]) rfl ?_
    refine Ev.ialdE e_X2_bareOf rfl rfl rfl rfl rfl (by omega) ?_
    refine Ev.sn e_X2_bareOf 1 (i' := 21) (ls' := [_, _, _, _]) (st' := [_, _]) rfl ?_
    refine Ev.br (i1 := 22) (i2 := 30) e_X2_bareOf rfl rfl (fun h0 => ?_) (fun h0 => ?_)
    · refine Ev.sn e_X2_bareOf 3 (i' := 25) (ls' := [_, _, _, _]) (st' := [_, _, _]) rfl ?_
      refine Ev.clV e_X2_bareOf rfl rfl (as := [_]) rfl rfl rfl kl_X2_peopleItFits rfl rfl rfl (c_X2_peopleItFits _ _ _ hc (by omega)) rfl ?_
      refine Ev.sn e_X2_bareOf 6 (i' := 10) (ls' := [_, _, _, _]) (st' := []) rfl ?_
      refine id (Ev.cg (ih (p + 1) ((fun t a => if (vC n q dn g) 0 t = u then a &&& (PIF q (vC n q dn g) t ^^^ (-1)) else a) p a) (by omega)) ?_)
      simp [nI_1, hv, h0]
    · refine Ev.sn e_X2_bareOf 2 (i' := 10) (ls' := [_, _, _, _]) (st' := []) rfl ?_
      refine id (Ev.cg (ih (p + 1) ((fun t a => if (vC n q dn g) 0 t = u then a &&& (PIF q (vC n q dn g) t ^^^ (-1)) else a) p a) (by omega)) ?_)
      simp [nI_1, hv, h0]
set_option maxRecDepth 20000 in
set_option maxHeartbeats 200000 in
theorem c_X2_bareOf (d : Nat) (g : Nat → Nat → Int32) (tr : Int64) {n q dn : Nat} (hc : CI n q dn g) (u : Int32) : Ev (d + 3) 21 0 [.ref 16, .int u, .null, .null] [] (wC g tr) (some (.int (BAR n q (vC n q dn g) u))) (wC g tr) := by
  have hb := hc.b
  refine Ev.sn e_X2_bareOf 10 (i' := 10) (ls' := [_, _, _, _]) (st' := []) rfl ?_
  rw [hc.hq]
  exact lp_X2_bareOf _ _ _ hc _ n 0 _ (by omega)
set_option maxRecDepth 20000 in
set_option maxHeartbeats 200000 in
theorem lp_X2_thingsOf (d : Nat) (g : Nat → Nat → Int32) (tr : Int64) {n q dn : Nat} (hc : CI n q dn g) (x : Int32) : ∀ (kk p : Nat) (a : Int32), p + kk = n → Ev d 22 4 [.ref 16, .int x, .int a, .int (nI p)] [] (wC g tr) (some (.int (fo (fun t a => if (vC n q dn g) 12 t = x then a ||| bitI t else a) kk p a))) (wC g tr) := by
  intro kk
  induction kk with
  | zero =>
    intro p a hp
    have hb := hc.b
    refine Ev.sn e_X2_thingsOf 4 (i' := 8) (ls' := [_, _, _, _]) (st' := [_, _]) rfl ?_
    refine Ev.brT (i1 := 24) (i2 := 9) e_X2_thingsOf rfl rfl (ge_t hc.hn (by omega) (by omega)) ?_
    refine Ev.sn e_X2_thingsOf 1 (i' := 25) (ls' := [_, _, _, _]) (st' := [_]) rfl ?_
    refine Ev.iret e_X2_thingsOf rfl rfl rfl ?_ rfl
    rfl
  | succ kk ih =>
    intro p a hp
    rw [fo_s (k := kk)]
    have hb := hc.b
    have hv : (vC n q dn g) 12 p = g 50 p := cut_lt (by omega)
    refine Ev.sn e_X2_thingsOf 4 (i' := 8) (ls' := [_, _, _, _]) (st' := [_, _]) rfl ?_
    refine Ev.brF (i1 := 24) (i2 := 9) e_X2_thingsOf rfl rfl (ge_f hc.hn (by omega) (by omega)) ?_
    refine Ev.sn e_X2_thingsOf 4 (i' := 13) (ls' := [_, _, _, _]) (st' := [_, _]) rfl ?_
    refine Ev.ialdE e_X2_thingsOf rfl rfl rfl rfl rfl (by omega) ?_
    refine Ev.sn e_X2_thingsOf 1 (i' := 15) (ls' := [_, _, _, _]) (st' := [_, _]) rfl ?_
    refine Ev.br (i1 := 16) (i2 := 22) e_X2_thingsOf rfl rfl (fun h0 => ?_) (fun h0 => ?_)
    · refine Ev.sn e_X2_thingsOf 8 (i' := 4) (ls' := [_, _, _, _]) (st' := []) rfl ?_
      refine id (Ev.cg (ih (p + 1) ((fun t a => if (vC n q dn g) 12 t = x then a ||| bitI t else a) p a) (by omega)) ?_)
      simp [nI_1, hv, bitI, h0]
    · refine Ev.sn e_X2_thingsOf 2 (i' := 4) (ls' := [_, _, _, _]) (st' := []) rfl ?_
      refine id (Ev.cg (ih (p + 1) ((fun t a => if (vC n q dn g) 12 t = x then a ||| bitI t else a) p a) (by omega)) ?_)
      simp [nI_1, hv, bitI, h0]
set_option maxRecDepth 20000 in
set_option maxHeartbeats 200000 in
theorem c_X2_thingsOf (d : Nat) (g : Nat → Nat → Int32) (tr : Int64) {n q dn : Nat} (hc : CI n q dn g) (x : Int32) : Ev d 22 0 [.ref 16, .int x, .null, .null] [] (wC g tr) (some (.int (TOF n (vC n q dn g) x))) (wC g tr) := by
  have hb := hc.b
  refine Ev.sn e_X2_thingsOf 4 (i' := 4) (ls' := [_, _, _, _]) (st' := []) rfl ?_
  exact lp_X2_thingsOf _ _ _ hc _ n 0 0 (by omega)
set_option maxRecDepth 20000 in
set_option maxHeartbeats 200000 in
theorem lp_X2_ownedThings (d : Nat) (g : Nat → Nat → Int32) (tr : Int64) {n q dn : Nat} (hc : CI n q dn g) : ∀ (kk p : Nat) (a : Int32), p + kk = n → Ev d 23 4 [.ref 16, .int a, .int (nI p)] [] (wC g tr) (some (.int (fo (fun t a => if (vC n q dn g) 12 t = -9 then a else a ||| bitI t) kk p a))) (wC g tr) := by
  intro kk
  induction kk with
  | zero =>
    intro p a hp
    have hb := hc.b
    refine Ev.sn e_X2_ownedThings 4 (i' := 8) (ls' := [_, _, _]) (st' := [_, _]) rfl ?_
    refine Ev.brT (i1 := 24) (i2 := 9) e_X2_ownedThings rfl rfl (ge_t hc.hn (by omega) (by omega)) ?_
    refine Ev.sn e_X2_ownedThings 1 (i' := 25) (ls' := [_, _, _]) (st' := [_]) rfl ?_
    refine Ev.iret e_X2_ownedThings rfl rfl rfl ?_ rfl
    rfl
  | succ kk ih =>
    intro p a hp
    rw [fo_s (k := kk)]
    have hb := hc.b
    have hv : (vC n q dn g) 12 p = g 50 p := cut_lt (by omega)
    refine Ev.sn e_X2_ownedThings 4 (i' := 8) (ls' := [_, _, _]) (st' := [_, _]) rfl ?_
    refine Ev.brF (i1 := 24) (i2 := 9) e_X2_ownedThings rfl rfl (ge_f hc.hn (by omega) (by omega)) ?_
    refine Ev.sn e_X2_ownedThings 4 (i' := 13) (ls' := [_, _, _]) (st' := [_, _]) rfl ?_
    refine Ev.ialdE e_X2_ownedThings rfl rfl rfl rfl rfl (by omega) ?_
    refine Ev.sn e_X2_ownedThings 1 (i' := 15) (ls' := [_, _, _]) (st' := [_, _]) rfl ?_
    refine Ev.br (i1 := 22) (i2 := 16) e_X2_ownedThings rfl rfl (fun h0 => ?_) (fun h0 => ?_)
    · refine Ev.sn e_X2_ownedThings 2 (i' := 4) (ls' := [_, _, _]) (st' := []) rfl ?_
      refine id (Ev.cg (ih (p + 1) ((fun t a => if (vC n q dn g) 12 t = -9 then a else a ||| bitI t) p a) (by omega)) ?_)
      simp [nI_1, hv, bitI, h0]
    · refine Ev.sn e_X2_ownedThings 8 (i' := 4) (ls' := [_, _, _]) (st' := []) rfl ?_
      refine id (Ev.cg (ih (p + 1) ((fun t a => if (vC n q dn g) 12 t = -9 then a else a ||| bitI t) p a) (by omega)) ?_)
      simp [nI_1, hv, bitI, h0]
set_option maxRecDepth 20000 in
set_option maxHeartbeats 200000 in
theorem c_X2_ownedThings (d : Nat) (g : Nat → Nat → Int32) (tr : Int64) {n q dn : Nat} (hc : CI n q dn g) : Ev d 23 0 [.ref 16, .null, .null] [] (wC g tr) (some (.int (OWN n (vC n q dn g)))) (wC g tr) := by
  have hb := hc.b
  refine Ev.sn e_X2_ownedThings 4 (i' := 4) (ls' := [_, _, _]) (st' := []) rfl ?_
  exact lp_X2_ownedThings _ _ _ hc n 0 0 (by omega)
set_option maxRecDepth 20000 in
set_option maxHeartbeats 200000 in
theorem lp_X2_thingsFitting (d : Nat) (g : Nat → Nat → Int32) (tr : Int64) {n q dn : Nat} (hc : CI n q dn g) (size sc : Int32) : ∀ (kk p : Nat) (a : Int32), p + kk = n → Ev (d + 2) 28 4 [.ref 16, .int size, .int sc, .int a, .int (nI p)] [] (wC g tr) (some (.int (fo (fun t a => if fitB (vC n q dn g) t ((vC n q dn g) 1 t) sc size = true then a + 1 else a) kk p a))) (wC g tr) := by
  intro kk
  induction kk with
  | zero =>
    intro p a hp
    have hb := hc.b
    refine Ev.sn e_X2_thingsFitting 4 (i' := 8) (ls' := [_, _, _, _, _]) (st' := [_, _]) rfl ?_
    refine Ev.brT (i1 := 18) (i2 := 9) e_X2_thingsFitting rfl rfl (ge_t hc.hn (by omega) (by omega)) ?_
    refine Ev.sn e_X2_thingsFitting 1 (i' := 19) (ls' := [_, _, _, _, _]) (st' := [_]) rfl ?_
    refine Ev.iret e_X2_thingsFitting rfl rfl rfl ?_ rfl
    rfl
  | succ kk ih =>
    intro p a hp
    rw [fo_s (k := kk)]
    have hb := hc.b
    refine Ev.sn e_X2_thingsFitting 4 (i' := 8) (ls' := [_, _, _, _, _]) (st' := [_, _]) rfl ?_
    refine Ev.brF (i1 := 18) (i2 := 9) e_X2_thingsFitting rfl rfl (ge_f hc.hn (by omega) (by omega)) ?_
    refine Ev.sn e_X2_thingsFitting 4 (i' := 13) (ls' := [_, _, _, _, _]) (st' := [_, _, _, _]) rfl ?_
    refine Ev.clV e_X2_thingsFitting rfl rfl (as := [_, _, _]) rfl rfl rfl kl_X2_fitsStranger rfl rfl rfl (c_X2_fitsStranger _ _ _ hc (by omega) _ _) rfl ?_
    refine Ev.brB (i1 := 16) (i2 := 15) e_X2_thingsFitting rfl rfl (fun h0 => ?_) (fun h0 => ?_)
    · refine Ev.sn e_X2_thingsFitting 2 (i' := 4) (ls' := [_, _, _, _, _]) (st' := []) rfl ?_
      refine id (Ev.cg (ih (p + 1) ((fun t a => if fitB (vC n q dn g) t ((vC n q dn g) 1 t) sc size = true then a + 1 else a) p a) (by omega)) ?_)
      simp [nI_1, h0]
    · refine Ev.sn e_X2_thingsFitting 3 (i' := 4) (ls' := [_, _, _, _, _]) (st' := []) rfl ?_
      refine id (Ev.cg (ih (p + 1) ((fun t a => if fitB (vC n q dn g) t ((vC n q dn g) 1 t) sc size = true then a + 1 else a) p a) (by omega)) ?_)
      simp [nI_1, h0]
set_option maxRecDepth 20000 in
set_option maxHeartbeats 200000 in
theorem c_X2_thingsFitting (d : Nat) (g : Nat → Nat → Int32) (tr : Int64) {n q dn : Nat} (hc : CI n q dn g) (size sc : Int32) : Ev (d + 2) 28 0 [.ref 16, .int size, .int sc, .null, .null] [] (wC g tr) (some (.int (THF n (vC n q dn g) size sc))) (wC g tr) := by
  have hb := hc.b
  refine Ev.sn e_X2_thingsFitting 4 (i' := 4) (ls' := [_, _, _, _, _]) (st' := []) rfl ?_
  exact lp_X2_thingsFitting _ _ _ hc _ _ n 0 0 (by omega)
set_option maxRecDepth 20000 in
set_option maxHeartbeats 200000 in
theorem lp_X2_chairs (d : Nat) (g : Nat → Nat → Int32) (tr : Int64) {n q dn : Nat} (hc : CI n q dn g) : ∀ (kk p : Nat) (a : Int32), p + kk = n → Ev d 30 4 [.ref 16, .int a, .int (nI p)] [] (wC g tr) (some (.int (fo (fun t a => if (vC n q dn g) 0 t = 0 then a + 1 else a) kk p a))) (wC g tr) := by
  intro kk
  induction kk with
  | zero =>
    intro p a hp
    have hb := hc.b
    refine Ev.sn e_X2_chairs 4 (i' := 8) (ls' := [_, _, _]) (st' := [_, _]) rfl ?_
    refine Ev.brT (i1 := 18) (i2 := 9) e_X2_chairs rfl rfl (ge_t hc.hn (by omega) (by omega)) ?_
    refine Ev.sn e_X2_chairs 1 (i' := 19) (ls' := [_, _, _]) (st' := [_]) rfl ?_
    refine Ev.iret e_X2_chairs rfl rfl rfl ?_ rfl
    rfl
  | succ kk ih =>
    intro p a hp
    rw [fo_s (k := kk)]
    have hb := hc.b
    have hv : (vC n q dn g) 0 p = g 32 p := cut_lt (by omega)
    refine Ev.sn e_X2_chairs 4 (i' := 8) (ls' := [_, _, _]) (st' := [_, _]) rfl ?_
    refine Ev.brF (i1 := 18) (i2 := 9) e_X2_chairs rfl rfl (ge_f hc.hn (by omega) (by omega)) ?_
    refine Ev.sn e_X2_chairs 4 (i' := 13) (ls' := [_, _, _]) (st' := [_, _]) rfl ?_
    refine Ev.ialdE e_X2_chairs rfl rfl rfl rfl rfl (by omega) ?_
    refine Ev.br (i1 := 15) (i2 := 16) e_X2_chairs rfl rfl (fun h0 => ?_) (fun h0 => ?_)
    · refine Ev.sn e_X2_chairs 3 (i' := 4) (ls' := [_, _, _]) (st' := []) rfl ?_
      refine id (Ev.cg (ih (p + 1) ((fun t a => if (vC n q dn g) 0 t = 0 then a + 1 else a) p a) (by omega)) ?_)
      simp [nI_1, hv, h0]
    · refine Ev.sn e_X2_chairs 2 (i' := 4) (ls' := [_, _, _]) (st' := []) rfl ?_
      refine id (Ev.cg (ih (p + 1) ((fun t a => if (vC n q dn g) 0 t = 0 then a + 1 else a) p a) (by omega)) ?_)
      simp [nI_1, hv, h0]
set_option maxRecDepth 20000 in
set_option maxHeartbeats 200000 in
theorem c_X2_chairs (d : Nat) (g : Nat → Nat → Int32) (tr : Int64) {n q dn : Nat} (hc : CI n q dn g) : Ev d 30 0 [.ref 16, .null, .null] [] (wC g tr) (some (.int (CHR n (vC n q dn g)))) (wC g tr) := by
  have hb := hc.b
  refine Ev.sn e_X2_chairs 4 (i' := 4) (ls' := [_, _, _]) (st' := []) rfl ?_
  exact lp_X2_chairs _ _ _ hc n 0 0 (by omega)
set_option maxRecDepth 20000 in
set_option maxHeartbeats 200000 in
theorem lp_X2_smallerThan (d : Nat) (g : Nat → Nat → Int32) (tr : Int64) {n q dn : Nat} (hc : CI n q dn g) {x : Nat} (hx : x < q) : ∀ (kk p : Nat) (a : Int32), p + kk = q → Ev d 29 4 [.ref 16, .int (nI x), .int a, .int (nI p), .null] [] (wC g tr) (some (.int (fo (fun e a => if (vC n q dn g) 5 e * (vC n q dn g) 4 x < (vC n q dn g) 5 x * (vC n q dn g) 4 e then a + 1 else a) kk p a))) (wC g tr) := by
  intro kk
  induction kk with
  | zero =>
    intro p a hp
    have hb := hc.b
    refine Ev.sn e_X2_smallerThan 4 (i' := 8) (ls' := [_, _, _, _, _]) (st' := [_, _]) rfl ?_
    refine Ev.brT (i1 := 37) (i2 := 9) e_X2_smallerThan rfl rfl (ge_t hc.hq (by omega) (by omega)) ?_
    refine Ev.sn e_X2_smallerThan 1 (i' := 38) (ls' := [_, _, _, _, _]) (st' := [_]) rfl ?_
    refine Ev.iret e_X2_smallerThan rfl rfl rfl ?_ rfl
    rfl
  | succ kk ih =>
    intro p a hp
    rw [fo_s (k := kk)]
    have hb := hc.b
    have hv1 : (vC n q dn g) 5 p = g 37 p := cut_lt (by omega)
    have hv2 : (vC n q dn g) 4 p = g 52 p := cut_lt (by omega)
    have hv3 : (vC n q dn g) 5 x = g 37 x := cut_lt hx
    have hv4 : (vC n q dn g) 4 x = g 52 x := cut_lt hx
    refine Ev.sn e_X2_smallerThan 4 (i' := 8) (ls' := [_, _, _, _, _]) (st' := [_, _]) rfl ?_
    refine Ev.brF (i1 := 37) (i2 := 9) e_X2_smallerThan rfl rfl (ge_f hc.hq (by omega) (by omega)) ?_
    refine Ev.sn e_X2_smallerThan 4 (i' := 13) (ls' := [_, _, _, _, _]) (st' := [_, _]) rfl ?_
    refine Ev.ialdE e_X2_smallerThan rfl rfl rfl rfl rfl (by omega) ?_
    refine Ev.sn e_X2_smallerThan 4 (i' := 18) (ls' := [_, _, _, _, _]) (st' := [_, _, _]) rfl ?_
    refine Ev.ialdE e_X2_smallerThan rfl rfl rfl rfl rfl (by omega) ?_
    refine Ev.sn e_X2_smallerThan 7 (i' := 26) (ls' := [_, _, _, _, _]) (st' := [_, _, _]) rfl ?_
    refine Ev.ialdE e_X2_smallerThan rfl rfl rfl rfl rfl (by omega) ?_
    refine Ev.sn e_X2_smallerThan 4 (i' := 31) (ls' := [_, _, _, _, _]) (st' := [_, _, _, _]) rfl ?_
    refine Ev.ialdE e_X2_smallerThan rfl rfl rfl rfl rfl (by omega) ?_
    refine Ev.sn e_X2_smallerThan 1 (i' := 33) (ls' := [_, _, _, _, _]) (st' := [_, _]) rfl ?_
    refine Ev.br (i1 := 35) (i2 := 34) e_X2_smallerThan rfl rfl (fun h0 => ?_) (fun h0 => ?_)
    · refine Ev.sn e_X2_smallerThan 2 (i' := 4) (ls' := [_, _, _, _, _]) (st' := []) rfl ?_
      refine Ev.weak (lle_c (lle_c (lle_c (lle_c (lle_n lle_0))))) (Ev.cg (ih (p + 1) ((fun e a => if (vC n q dn g) 5 e * (vC n q dn g) 4 x < (vC n q dn g) 5 x * (vC n q dn g) 4 e then a + 1 else a) p a) (by omega)) ?_)
      simp [nI_1, hv1, hv2, hv3, hv4, ← Int32.not_le, h0]
    · refine Ev.sn e_X2_smallerThan 3 (i' := 4) (ls' := [_, _, _, _, _]) (st' := []) rfl ?_
      refine Ev.weak (lle_c (lle_c (lle_c (lle_c (lle_n lle_0))))) (Ev.cg (ih (p + 1) ((fun e a => if (vC n q dn g) 5 e * (vC n q dn g) 4 x < (vC n q dn g) 5 x * (vC n q dn g) 4 e then a + 1 else a) p a) (by omega)) ?_)
      simp [nI_1, hv1, hv2, hv3, hv4, ← Int32.not_le, h0]
set_option maxRecDepth 20000 in
set_option maxHeartbeats 200000 in
theorem c_X2_smallerThan (d : Nat) (g : Nat → Nat → Int32) (tr : Int64) {n q dn : Nat} (hc : CI n q dn g) {x : Nat} (hx : x < q) : Ev d 29 0 [.ref 16, .int (nI x), .null, .null, .null] [] (wC g tr) (some (.int (SMT q (vC n q dn g) x))) (wC g tr) := by
  have hb := hc.b
  refine Ev.sn e_X2_smallerThan 4 (i' := 4) (ls' := [_, _, _, _, _]) (st' := []) rfl ?_
  exact lp_X2_smallerThan _ _ _ hc hx q 0 0 (by omega)
set_option maxRecDepth 20000 in
set_option maxHeartbeats 200000 in
theorem lp_X2_commonScale (d : Nat) (g : Nat → Nat → Int32) (tr : Int64) {n q dn : Nat} (hc : CI n q dn g) : ∀ (kk p : Nat) (a : Int64), p + kk = q → Ev d 31 4 [.ref 16, .long a, .null, .int (nI p)] [] (wC g tr) (some (.long (fo (fun p a => a * ((vC n q dn g) 4 p).toInt64) kk p a))) (wC g tr) := by
  intro kk
  induction kk with
  | zero =>
    intro p a hp
    have hb := hc.b
    refine Ev.sn e_X2_commonScale 4 (i' := 8) (ls' := [_, _, _, _]) (st' := [_, _]) rfl ?_
    refine Ev.brT (i1 := 20) (i2 := 9) e_X2_commonScale rfl rfl (ge_t hc.hq (by omega) (by omega)) ?_
    refine Ev.sn e_X2_commonScale 1 (i' := 21) (ls' := [_, _, _, _]) (st' := [_]) rfl ?_
    refine Ev.lret e_X2_commonScale rfl rfl ?_ rfl
    rfl
  | succ kk ih =>
    intro p a hp
    rw [fo_s (k := kk)]
    have hb := hc.b
    have hv : (vC n q dn g) 4 p = g 52 p := cut_lt (by omega)
    refine Ev.sn e_X2_commonScale 4 (i' := 8) (ls' := [_, _, _, _]) (st' := [_, _]) rfl ?_
    refine Ev.brF (i1 := 20) (i2 := 9) e_X2_commonScale rfl rfl (ge_f hc.hq (by omega) (by omega)) ?_
    refine Ev.sn e_X2_commonScale 5 (i' := 14) (ls' := [_, _, _, _]) (st' := [_, _, _]) rfl ?_
    refine Ev.ialdE e_X2_commonScale rfl rfl rfl rfl rfl (by omega) ?_
    refine Ev.sn e_X2_commonScale 5 (i' := 4) (ls' := [_, _, _, _]) (st' := []) rfl ?_
    refine Ev.weak (lle_c (lle_c (lle_n (lle_c lle_0)))) (Ev.cg (ih (p + 1) ((fun p a => a * ((vC n q dn g) 4 p).toInt64) p a) (by omega)) ?_)
    simp [nI_1, hv]
set_option maxRecDepth 20000 in
set_option maxHeartbeats 200000 in
theorem c_X2_commonScale (d : Nat) (g : Nat → Nat → Int32) (tr : Int64) {n q dn : Nat} (hc : CI n q dn g) : Ev d 31 0 [.ref 16, .null, .null, .null] [] (wC g tr) (some (.long (COM q (vC n q dn g)))) (wC g tr) := by
  have hb := hc.b
  refine Ev.sn e_X2_commonScale 4 (i' := 4) (ls' := [_, _, _, _]) (st' := []) rfl ?_
  exact lp_X2_commonScale _ _ _ hc q 0 1 (by omega)
set_option maxRecDepth 20000 in
set_option maxHeartbeats 200000 in
theorem c_X2_heightOf (d : Nat) (g : Nat → Nat → Int32) (tr : Int64) {n q dn : Nat} (hc : CI n q dn g) {p : Nat} (hp : p < q) (unit : Int64) : Ev d 32 0 [.ref 16, .int (nI p), .long unit, .null, .null] [] (wC g tr) (some (.long (HGT (vC n q dn g) p unit))) (wC g tr) := by
  have hb := hc.b
  rw [show HGT (vC n q dn g) p unit = if g 52 p = 0 then 0 else (g 37 p).toInt64 * (unit / (g 52 p).toInt64) by
    unfold HGT
    rw [show (vC n q dn g) 4 p = g 52 p from cut_lt hp, show (vC n q dn g) 5 p = g 37 p from cut_lt hp]]
  have hz : ∀ {x : Int32}, ¬ x = 0 → ¬ x.toInt64 = 0 := fun {x} h e => h (by
    have h2 := congrArg Int64.toInt e
    rw [Int32.toInt_toInt64] at h2
    exact Int32.toInt_inj.mp h2)
  refine Ev.sn e_X2_heightOf 4 (i' := 4) (ls' := [_, _, _, _, _]) (st' := [_, _]) rfl ?_
  refine Ev.ialdE e_X2_heightOf rfl rfl rfl rfl rfl (by omega) ?_
  refine Ev.sn e_X2_heightOf 2 (i' := 7) (ls' := [_, _, _, _, _]) (st' := [_]) rfl ?_
  refine Ev.br (i1 := 8) (i2 := 10) e_X2_heightOf rfl rfl (fun h0 => ?_) (fun h0 => ?_)
  · refine Ev.sn e_X2_heightOf 2 (i' := 21) (ls' := [_, _, _, _, _]) (st' := [_]) rfl ?_
    refine Ev.lret e_X2_heightOf rfl rfl ?_ rfl
    simp [h0]
  · refine Ev.sn e_X2_heightOf 4 (i' := 14) (ls' := [_, _, _, _, _]) (st' := [_, _]) rfl ?_
    refine Ev.ialdE e_X2_heightOf rfl rfl rfl rfl rfl (by omega) ?_
    refine Ev.sn e_X2_heightOf 4 (i' := 19) (ls' := [_, _, _, _, _]) (st' := [_, _, _]) rfl ?_
    refine Ev.ldiv e_X2_heightOf rfl rfl (hz h0) ?_
    refine Ev.sn e_X2_heightOf 1 (i' := 21) (ls' := [_, _, _, _, _]) (st' := [_]) rfl ?_
    refine Ev.lret e_X2_heightOf rfl rfl ?_ rfl
    simp [h0]
set_option maxRecDepth 20000 in
set_option maxHeartbeats 200000 in
theorem lp_X2_heightOfAll (d : Nat) (g : Nat → Nat → Int32) (tr : Int64) {n q dn : Nat} (hc : CI n q dn g) (unit : Int64) : ∀ (kk p : Nat) (a : Int64), p + kk = q → Ev (d + 1) 33 4 [.ref 16, .long unit, .null, .long a, .null, .int (nI p)] [] (wC g tr) (some (.long (fo (fun p a => a + HGT (vC n q dn g) p unit) kk p a))) (wC g tr) := by
  intro kk
  induction kk with
  | zero =>
    intro p a hp
    have hb := hc.b
    refine Ev.sn e_X2_heightOfAll 4 (i' := 8) (ls' := [_, _, _, _, _, _]) (st' := [_, _]) rfl ?_
    refine Ev.brT (i1 := 18) (i2 := 9) e_X2_heightOfAll rfl rfl (ge_t hc.hq (by omega) (by omega)) ?_
    refine Ev.sn e_X2_heightOfAll 1 (i' := 19) (ls' := [_, _, _, _, _, _]) (st' := [_]) rfl ?_
    refine Ev.lret e_X2_heightOfAll rfl rfl ?_ rfl
    rfl
  | succ kk ih =>
    intro p a hp
    rw [fo_s (k := kk)]
    have hb := hc.b
    refine Ev.sn e_X2_heightOfAll 4 (i' := 8) (ls' := [_, _, _, _, _, _]) (st' := [_, _]) rfl ?_
    refine Ev.brF (i1 := 18) (i2 := 9) e_X2_heightOfAll rfl rfl (ge_f hc.hq (by omega) (by omega)) ?_
    refine Ev.sn e_X2_heightOfAll 4 (i' := 13) (ls' := [_, _, _, _, _, _]) (st' := [_, _, _, _]) rfl ?_
    refine Ev.clV e_X2_heightOfAll rfl rfl (as := [_, _]) rfl rfl rfl kl_X2_heightOf rfl rfl rfl (c_X2_heightOf _ _ _ hc (by omega) _) rfl ?_
    refine Ev.sn e_X2_heightOfAll 4 (i' := 4) (ls' := [_, _, _, _, _, _]) (st' := []) rfl ?_
    refine Ev.weak (lle_c (lle_c (lle_n (lle_c (lle_n (lle_c lle_0)))))) (Ev.cg (ih (p + 1) ((fun p a => a + HGT (vC n q dn g) p unit) p a) (by omega)) ?_)
    simp [nI_1]
set_option maxRecDepth 20000 in
set_option maxHeartbeats 200000 in
theorem c_X2_heightOfAll (d : Nat) (g : Nat → Nat → Int32) (tr : Int64) {n q dn : Nat} (hc : CI n q dn g) (unit : Int64) : Ev (d + 1) 33 0 [.ref 16, .long unit, .null, .null, .null, .null] [] (wC g tr) (some (.long (HGA q (vC n q dn g) unit))) (wC g tr) := by
  have hb := hc.b
  refine Ev.sn e_X2_heightOfAll 4 (i' := 4) (ls' := [_, _, _, _, _, _]) (st' := []) rfl ?_
  exact lp_X2_heightOfAll _ _ _ hc _ q 0 0 (by omega)
set_option maxRecDepth 20000 in
set_option maxHeartbeats 200000 in
theorem lp_X2_hasOneOf (d : Nat) (g : Nat → Nat → Int32) (tr : Int64) {n q dn : Nat} (hc : CI n q dn g) (x u : Int32) : ∀ (k p : Nat), p + k = n → Ev d 25 2 [.ref 16, .int x, .int u, .int (nI p)] [] (wC g tr) (some (.int (bI (anyN (fun t => decide ((vC n q dn g) 12 t = x) && decide ((vC n q dn g) 0 t = u)) k p)))) (wC g tr) := by
  intro k
  induction k with
  | zero =>
    intro p hp
    have hb := hc.b
    refine Ev.sn e_X2_hasOneOf 4 (i' := 6) (ls' := [_, _, _, _]) (st' := [_, _]) rfl ?_
    refine Ev.brT (i1 := 25) (i2 := 7) e_X2_hasOneOf rfl rfl (ge_t hc.hn (by omega) (by omega)) ?_
    refine Ev.sn e_X2_hasOneOf 1 (i' := 26) (ls' := [_, _, _, _]) (st' := [_]) rfl ?_
    refine Ev.iret e_X2_hasOneOf rfl rfl rfl ?_ rfl
    rfl
  | succ k ih =>
    intro p hp
    have hb := hc.b
    have hv : (vC n q dn g) 12 p = g 50 p := cut_lt (by omega)
    have hv2 : (vC n q dn g) 0 p = g 32 p := cut_lt (by omega)
    show Ev _ _ _ _ _ _ (some (.int (bI (if (decide ((vC n q dn g) 12 p = x) && decide ((vC n q dn g) 0 p = u)) = true then true else anyN (fun t => decide ((vC n q dn g) 12 t = x) && decide ((vC n q dn g) 0 t = u)) k (p + 1))))) _
    rw [hv, hv2]
    refine Ev.sn e_X2_hasOneOf 4 (i' := 6) (ls' := [_, _, _, _]) (st' := [_, _]) rfl ?_
    refine Ev.brF (i1 := 25) (i2 := 7) e_X2_hasOneOf rfl rfl (ge_f hc.hn (by omega) (by omega)) ?_
    refine Ev.sn e_X2_hasOneOf 4 (i' := 11) (ls' := [_, _, _, _]) (st' := [_, _]) rfl ?_
    refine Ev.ialdE e_X2_hasOneOf rfl rfl rfl rfl rfl (by omega) ?_
    refine Ev.sn e_X2_hasOneOf 1 (i' := 13) (ls' := [_, _, _, _]) (st' := [_, _]) rfl ?_
    refine Ev.br (i1 := 14) (i2 := 23) e_X2_hasOneOf rfl rfl (fun h0 => ?_) (fun h0 => ?_)
    · refine Ev.sn e_X2_hasOneOf 4 (i' := 18) (ls' := [_, _, _, _]) (st' := [_, _]) rfl ?_
      refine Ev.ialdE e_X2_hasOneOf rfl rfl rfl rfl rfl (by omega) ?_
      refine Ev.sn e_X2_hasOneOf 1 (i' := 20) (ls' := [_, _, _, _]) (st' := [_, _]) rfl ?_
      refine Ev.br (i1 := 21) (i2 := 23) e_X2_hasOneOf rfl rfl (fun h1 => ?_) (fun h1 => ?_)
      · refine Ev.sn e_X2_hasOneOf 1 (i' := 22) (ls' := [_, _, _, _]) (st' := [_]) rfl ?_
        refine Ev.iret e_X2_hasOneOf rfl rfl rfl ?_ rfl
        simp [h0, h1, bI]
      · refine Ev.sn e_X2_hasOneOf 2 (i' := 2) (ls' := [_, _, _, _]) (st' := []) rfl ?_
        rw [nI_1]
        have := ih (p + 1) (by omega)
        simpa [h0, h1] using this
    · refine Ev.sn e_X2_hasOneOf 2 (i' := 2) (ls' := [_, _, _, _]) (st' := []) rfl ?_
      rw [nI_1]
      have := ih (p + 1) (by omega)
      simpa [h0] using this
set_option maxRecDepth 20000 in
set_option maxHeartbeats 200000 in
theorem c_X2_hasOneOf (d : Nat) (g : Nat → Nat → Int32) (tr : Int64) {n q dn : Nat} (hc : CI n q dn g) (x u : Int32) : Ev d 25 0 [.ref 16, .int x, .int u, .null] [] (wC g tr) (some (.int (bI (HOO n (vC n q dn g) x u)))) (wC g tr) := by
  have hb := hc.b
  refine Ev.sn e_X2_hasOneOf 2 (i' := 2) (ls' := [_, _, _, _]) (st' := []) rfl ?_
  exact lp_X2_hasOneOf _ _ _ hc _ _ n 0 (by omega)
set_option maxRecDepth 20000 in
set_option maxHeartbeats 200000 in
theorem c_X2_canLay (d : Nat) (g : Nat → Nat → Int32) (tr : Int64) {n q dn : Nat} (hc : CI n q dn g) {t p : Nat} (ht : t < n) (hp : p < q) : Ev (d + 2) 24 0 [.ref 16, .int (nI t), .int (nI p)] [] (wC g tr) (some (.int (bI (decide ((vC n q dn g) 12 t = -9) && (fpB (vC n q dn g) t p && !HOO n (vC n q dn g) (nI p) ((vC n q dn g) 0 t)))))) (wC g tr) := by
  have hb := hc.b
  rw [show (vC n q dn g) 12 t = g 50 t from cut_lt ht, show (vC n q dn g) 0 t = g 32 t from cut_lt ht]
  refine Ev.sn e_X2_canLay 4 (i' := 4) (ls' := [_, _, _]) (st' := [_, _]) rfl ?_
  refine Ev.ialdE e_X2_canLay rfl rfl rfl rfl rfl (by omega) ?_
  refine Ev.sn e_X2_canLay 1 (i' := 6) (ls' := [_, _, _]) (st' := [_, _]) rfl ?_
  refine Ev.br (i1 := 7) (i2 := 23) e_X2_canLay rfl rfl (fun h0 => ?_) (fun h0 => ?_)
  · refine Ev.sn e_X2_canLay 3 (i' := 10) (ls' := [_, _, _]) (st' := [_, _, _]) rfl ?_
    refine Ev.clV e_X2_canLay rfl rfl (as := [_, _]) rfl rfl rfl kl_X2_fitsPerson rfl rfl rfl (c_X2_fitsPerson _ _ _ hc ht hp) rfl ?_
    refine Ev.brB (i1 := 23) (i2 := 12) e_X2_canLay rfl rfl (fun h1 => ?_) (fun h1 => ?_)
    · refine Ev.sn e_X2_canLay 1 (i' := 24) (ls' := [_, _, _]) (st' := [_]) rfl ?_
      refine Ev.iret e_X2_canLay rfl rfl rfl ?_ rfl
      simp [h0, h1, bI]
    · refine Ev.sn e_X2_canLay 6 (i' := 18) (ls' := [_, _, _]) (st' := [_, _, _, _]) rfl ?_
      refine Ev.ialdE e_X2_canLay rfl rfl rfl rfl rfl (by omega) ?_
      refine Ev.clV e_X2_canLay rfl rfl (as := [_, _]) rfl rfl rfl kl_X2_hasOneOf rfl rfl rfl (c_X2_hasOneOf _ _ _ hc _ _) rfl ?_
      refine Ev.brB (i1 := 21) (i2 := 23) e_X2_canLay rfl rfl (fun h2 => ?_) (fun h2 => ?_)
      · refine Ev.sn e_X2_canLay 2 (i' := 24) (ls' := [_, _, _]) (st' := [_]) rfl ?_
        refine Ev.iret e_X2_canLay rfl rfl rfl ?_ rfl
        simp [h0, h1, h2, bI]
      · refine Ev.sn e_X2_canLay 1 (i' := 24) (ls' := [_, _, _]) (st' := [_]) rfl ?_
        refine Ev.iret e_X2_canLay rfl rfl rfl ?_ rfl
        simp [h0, h1, h2, bI]
  · refine Ev.sn e_X2_canLay 1 (i' := 24) (ls' := [_, _, _]) (st' := [_]) rfl ?_
    refine Ev.iret e_X2_canLay rfl rfl rfl ?_ rfl
    simp [h0, bI]
set_option maxRecDepth 20000 in
set_option maxHeartbeats 200000 in
theorem lq_X2_twosIfAllThingsWere (d : Nat) (g : Nat → Nat → Int32) (tr : Int64) {n q dn : Nat} (hc : CI n q dn g) (s : Int32) {t : Nat} (ht : t < n) (r : Option Value) (w2 : AW) : ∀ (k p : Nat) (a : Int32), p + k = q → Ev (d + 1) 27 34 [.ref 16, .int s, .int (fo (fun p a => if fitB (vC n q dn g) t s ((vC n q dn g) 4 p) ((vC n q dn g) 5 p) = true then a + 1 else a) k p a), .int (nI t), .null] [] (wC g tr) r w2 → Ev (d + 1) 27 11 [.ref 16, .int s, .int a, .int (nI t), .int (nI p)] [] (wC g tr) r w2 := by
  intro k
  induction k with
  | zero =>
    intro p a hp K
    have hb := hc.b
    refine Ev.sn e_X2_twosIfAllThingsWere 4 (i' := 15) (ls' := [_, _, _, _, _]) (st' := [_, _]) rfl ?_
    refine Ev.brT (i1 := 34) (i2 := 16) e_X2_twosIfAllThingsWere rfl rfl (ge_t hc.hq (by omega) (by omega)) ?_
    exact Ev.weak (lle_c (lle_c (lle_c (lle_c (lle_n lle_0))))) K
  | succ k ih =>
    intro p a hp K
    have hb := hc.b
    have hv : (vC n q dn g) 4 p = g 52 p := cut_lt (by omega)
    have hv2 : (vC n q dn g) 5 p = g 37 p := cut_lt (by omega)
    refine Ev.sn e_X2_twosIfAllThingsWere 4 (i' := 15) (ls' := [_, _, _, _, _]) (st' := [_, _]) rfl ?_
    refine Ev.brF (i1 := 34) (i2 := 16) e_X2_twosIfAllThingsWere rfl rfl (ge_f hc.hq (by omega) (by omega)) ?_
    refine Ev.sn e_X2_twosIfAllThingsWere 7 (i' := 23) (ls' := [_, _, _, _, _]) (st' := [_, _, _, _, _]) rfl ?_
    refine Ev.ialdE e_X2_twosIfAllThingsWere rfl rfl rfl rfl rfl (by omega) ?_
    refine Ev.sn e_X2_twosIfAllThingsWere 4 (i' := 28) (ls' := [_, _, _, _, _]) (st' := [_, _, _, _, _, _]) rfl ?_
    refine Ev.ialdE e_X2_twosIfAllThingsWere rfl rfl rfl rfl rfl (by omega) ?_
    refine Ev.clV e_X2_twosIfAllThingsWere rfl rfl (as := [_, _, _, _]) rfl rfl rfl kl_X2_fitsAtScale rfl rfl rfl (c_X2_fitsAtScale _ _ _ hc ht _ _ _) rfl ?_
    refine Ev.brB (i1 := 32) (i2 := 31) e_X2_twosIfAllThingsWere rfl rfl (fun h0 => ?_) (fun h0 => ?_)
    · refine Ev.sn e_X2_twosIfAllThingsWere 2 (i' := 11) (ls' := [_, _, _, _, _]) (st' := []) rfl ?_
      refine Ev.cg (ih (p + 1) ((fun p a => if fitB (vC n q dn g) t s ((vC n q dn g) 4 p) ((vC n q dn g) 5 p) = true then a + 1 else a) p a) (by omega) K) ?_
      simp [nI_1, hv, hv2, h0]
    · refine Ev.sn e_X2_twosIfAllThingsWere 3 (i' := 11) (ls' := [_, _, _, _, _]) (st' := []) rfl ?_
      refine Ev.cg (ih (p + 1) ((fun p a => if fitB (vC n q dn g) t s ((vC n q dn g) 4 p) ((vC n q dn g) 5 p) = true then a + 1 else a) p a) (by omega) K) ?_
      simp [nI_1, hv, hv2, h0]
set_option maxRecDepth 20000 in
set_option maxHeartbeats 200000 in
theorem lp_X2_twosIfAllThingsWere (d : Nat) (g : Nat → Nat → Int32) (tr : Int64) {n q dn : Nat} (hc : CI n q dn g) (s : Int32) : ∀ (k t : Nat) (a : Int32), t + k = n → Ev (d + 1) 27 4 [.ref 16, .int s, .int a, .int (nI t), .null] [] (wC g tr) (some (.int (fo (fun t a => fo (fun p a => if fitB (vC n q dn g) t s ((vC n q dn g) 4 p) ((vC n q dn g) 5 p) = true then a + 1 else a) q 0 a) k t a))) (wC g tr) := by
  intro k
  induction k with
  | zero =>
    intro t a hp
    have hb := hc.b
    refine Ev.sn e_X2_twosIfAllThingsWere 4 (i' := 8) (ls' := [_, _, _, _, _]) (st' := [_, _]) rfl ?_
    refine Ev.brT (i1 := 36) (i2 := 9) e_X2_twosIfAllThingsWere rfl rfl (ge_t hc.hn (by omega) (by omega)) ?_
    refine Ev.sn e_X2_twosIfAllThingsWere 1 (i' := 37) (ls' := [_, _, _, _, _]) (st' := [_]) rfl ?_
    refine Ev.iret e_X2_twosIfAllThingsWere rfl rfl rfl ?_ rfl
    rfl
  | succ k ih =>
    intro t a hp
    have hb := hc.b
    refine Ev.sn e_X2_twosIfAllThingsWere 4 (i' := 8) (ls' := [_, _, _, _, _]) (st' := [_, _]) rfl ?_
    refine Ev.brF (i1 := 36) (i2 := 9) e_X2_twosIfAllThingsWere rfl rfl (ge_f hc.hn (by omega) (by omega)) ?_
    refine Ev.sn e_X2_twosIfAllThingsWere 2 (i' := 11) (ls' := [_, _, _, _, _]) (st' := []) rfl ?_
    refine lq_X2_twosIfAllThingsWere _ _ _ hc _ (by omega) _ _ q 0 a (by omega) ?_
    refine Ev.sn e_X2_twosIfAllThingsWere 2 (i' := 4) (ls' := [_, _, _, _, _]) (st' := []) rfl ?_
    rw [nI_1]
    exact ih (t + 1) _ (by omega)
set_option maxRecDepth 20000 in
set_option maxHeartbeats 200000 in
theorem c_X2_twosIfAllThingsWere (d : Nat) (g : Nat → Nat → Int32) (tr : Int64) {n q dn : Nat} (hc : CI n q dn g) (s : Int32) : Ev (d + 1) 27 0 [.ref 16, .int s, .null, .null, .null] [] (wC g tr) (some (.int (TWO n q (vC n q dn g) s))) (wC g tr) := by
  have hb := hc.b
  refine Ev.sn e_X2_twosIfAllThingsWere 4 (i' := 4) (ls' := [_, _, _, _, _]) (st' := []) rfl ?_
  exact lp_X2_twosIfAllThingsWere _ _ _ hc _ n 0 0 (by omega)
end
section
/-! small methods: numbers -/
set_option maxRecDepth 20000 in
set_option maxHeartbeats 200000 in
theorem c_X8_isFirstOrSecond (d : Nat) (w : AW) (x : Int32) : Ev d 111 0 [.int x] [] w (some (.int (bI (decide (x = 0) || decide (x = 1))))) w := by
  refine Ev.sn e_X8_isFirstOrSecond 1 (i' := 1) (ls' := [_]) (st' := [_]) rfl ?_
  refine Ev.br (i1 := 5) (i2 := 2) e_X8_isFirstOrSecond rfl rfl (fun h0 => ?_) (fun h0 => ?_)
  · refine Ev.sn e_X8_isFirstOrSecond 2 (i' := 8) (ls' := [_]) (st' := [_]) rfl ?_
    refine Ev.iret e_X8_isFirstOrSecond rfl rfl rfl ?_ rfl
    simp [h0, bI]
  · refine Ev.sn e_X8_isFirstOrSecond 2 (i' := 4) (ls' := [_]) (st' := [_, _]) rfl ?_
    refine Ev.br (i1 := 5) (i2 := 7) e_X8_isFirstOrSecond rfl rfl (fun h1 => ?_) (fun h1 => ?_)
    · refine Ev.sn e_X8_isFirstOrSecond 2 (i' := 8) (ls' := [_]) (st' := [_]) rfl ?_
      refine Ev.iret e_X8_isFirstOrSecond rfl rfl rfl ?_ rfl
      simp [h0, h1, bI]
    · refine Ev.sn e_X8_isFirstOrSecond 1 (i' := 8) (ls' := [_]) (st' := [_]) rfl ?_
      refine Ev.iret e_X8_isFirstOrSecond rfl rfl rfl ?_ rfl
      simp [h0, h1, bI]
set_option maxRecDepth 20000 in
set_option maxHeartbeats 200000 in
theorem c_X8_isUse (d : Nat) (w : AW) (x : Int32) : Ev d 112 0 [.int x] [] w (some (.int (bI (decide (0 ≤ x) && decide (x < 3))))) w := by
  refine Ev.sn e_X8_isUse 1 (i' := 1) (ls' := [_]) (st' := [_]) rfl ?_
  refine Ev.br (i1 := 7) (i2 := 2) e_X8_isUse rfl rfl (fun h0 => ?_) (fun h0 => ?_)
  · refine Ev.sn e_X8_isUse 1 (i' := 8) (ls' := [_]) (st' := [_]) rfl ?_
    refine Ev.iret e_X8_isUse rfl rfl rfl ?_ rfl
    simp [bI, Int32.not_le.mpr h0]
  · refine Ev.sn e_X8_isUse 2 (i' := 4) (ls' := [_]) (st' := [_, _]) rfl ?_
    refine Ev.br (i1 := 7) (i2 := 5) e_X8_isUse rfl rfl (fun h1 => ?_) (fun h1 => ?_)
    · refine Ev.sn e_X8_isUse 1 (i' := 8) (ls' := [_]) (st' := [_]) rfl ?_
      refine Ev.iret e_X8_isUse rfl rfl rfl ?_ rfl
      simp [bI, Int32.not_lt.mpr h1]
    · refine Ev.sn e_X8_isUse 2 (i' := 8) (ls' := [_]) (st' := [_]) rfl ?_
      refine Ev.iret e_X8_isUse rfl rfl rfl ?_ rfl
      simp [bI, Int32.not_lt.mp h0, Int32.not_le.mp h1]
set_option maxRecDepth 20000 in
set_option maxHeartbeats 200000 in
theorem c_X8_isSize (d : Nat) (w : AW) (x : Int32) : Ev d 113 0 [.int x] [] w (some (.int (bI (decide (1 ≤ x) && decide (x ≤ 99))))) w := by
  refine Ev.sn e_X8_isSize 2 (i' := 2) (ls' := [_]) (st' := [_, _]) rfl ?_
  refine Ev.br (i1 := 8) (i2 := 3) e_X8_isSize rfl rfl (fun h0 => ?_) (fun h0 => ?_)
  · refine Ev.sn e_X8_isSize 1 (i' := 9) (ls' := [_]) (st' := [_]) rfl ?_
    refine Ev.iret e_X8_isSize rfl rfl rfl ?_ rfl
    simp [bI, Int32.not_le.mpr h0]
  · refine Ev.sn e_X8_isSize 2 (i' := 5) (ls' := [_]) (st' := [_, _]) rfl ?_
    refine Ev.br (i1 := 8) (i2 := 6) e_X8_isSize rfl rfl (fun h1 => ?_) (fun h1 => ?_)
    · refine Ev.sn e_X8_isSize 1 (i' := 9) (ls' := [_]) (st' := [_]) rfl ?_
      refine Ev.iret e_X8_isSize rfl rfl rfl ?_ rfl
      simp [bI, Int32.not_le.mpr h1]
    · refine Ev.sn e_X8_isSize 2 (i' := 9) (ls' := [_]) (st' := [_]) rfl ?_
      refine Ev.iret e_X8_isSize rfl rfl rfl ?_ rfl
      simp [bI, Int32.not_lt.mp h0, Int32.not_lt.mp h1]
set_option maxRecDepth 20000 in
set_option maxHeartbeats 200000 in
theorem c_J9_max_7cf53 (d : Nat) (w : AW) (x y : Int32) : Ev d 185 0 [.int x, .int y] [] w (some (.int (if x < y then y else x))) w := by
  refine Ev.sn e_J9_max_7cf53 2 (i' := 2) (ls' := [_, _]) (st' := [_, _]) rfl ?_
  refine Ev.br (i1 := 5) (i2 := 3) e_J9_max_7cf53 rfl rfl (fun h0 => ?_) (fun h0 => ?_)
  · refine Ev.sn e_J9_max_7cf53 1 (i' := 6) (ls' := [_, _]) (st' := [_]) rfl ?_
    refine Ev.iret e_J9_max_7cf53 rfl rfl rfl ?_ rfl
    simp [h0]
  · refine Ev.sn e_J9_max_7cf53 2 (i' := 6) (ls' := [_, _]) (st' := [_]) rfl ?_
    refine Ev.iret e_J9_max_7cf53 rfl rfl rfl ?_ rfl
    simp [h0]
set_option maxRecDepth 20000 in
set_option maxHeartbeats 200000 in
theorem c_J9_min_7cf53 (d : Nat) (w : AW) (x y : Int32) : Ev d 186 0 [.int x, .int y] [] w (some (.int (if y < x then y else x))) w := by
  refine Ev.sn e_J9_min_7cf53 2 (i' := 2) (ls' := [_, _]) (st' := [_, _]) rfl ?_
  refine Ev.br (i1 := 5) (i2 := 3) e_J9_min_7cf53 rfl rfl (fun h0 => ?_) (fun h0 => ?_)
  · refine Ev.sn e_J9_min_7cf53 1 (i' := 6) (ls' := [_, _]) (st' := [_]) rfl ?_
    refine Ev.iret e_J9_min_7cf53 rfl rfl rfl ?_ rfl
    simp [h0]
  · refine Ev.sn e_J9_min_7cf53 2 (i' := 6) (ls' := [_, _]) (st' := [_]) rfl ?_
    refine Ev.iret e_J9_min_7cf53 rfl rfl rfl ?_ rfl
    simp [h0]
def us (x : Int32) (k : Int32) : Int32 := (x.toUInt32 >>> (k.toUInt32 &&& Int32.toUInt32 31)).toInt32
/-- how many bits stand -/
def bcI (x0 : Int32) : Int32 :=
  let x1 := x0 - (us x0 1 &&& 1431655765)
  let x2 := (x1 &&& 858993459) + (us x1 2 &&& 858993459)
  let x3 := (x2 + us x2 4) &&& 252645135
  let x4 := x3 + us x3 8
  let x5 := x4 + us x4 16
  x5 &&& 63
set_option maxRecDepth 20000 in
set_option maxHeartbeats 200000 in
theorem c_J6_bitCount_0f7a4 (d : Nat) (w : AW) (x : Int32) : Ev d 184 0 [.int x] [] w (some (.int (bcI x))) w := by
  refine Ev.sn e_J6_bitCount_0f7a4 40 (i' := 40) (ls' := [_]) (st' := [_, _]) rfl ?_
  refine Ev.sn e_J6_bitCount_0f7a4 1 (i' := 41) (ls' := [_]) (st' := [_]) rfl ?_
  refine Ev.iret e_J6_bitCount_0f7a4 rfl rfl rfl ?_ rfl
  rfl
def gdI : Nat → Int64 → Int64 → Int64
  | 0, a, _ => a
  | k + 1, a, b => if b = 0 then a else gdI k b (a - a / b * b)
theorem lg_cmp_0 {x y : Int64} : lg_cmp x y = 0 ↔ x = y := by
  unfold lg_cmp
  by_cases h1 : x > y
  · rw [if_pos h1]
    constructor
    · intro h; exact absurd h (by decide)
    · intro h; subst h; exact absurd h1 (Int64.lt_irrefl)
  · rw [if_neg h1]
    by_cases h2 : x = y
    · simp [h2]
    · rw [if_neg h2]
      constructor
      · intro h; exact absurd h (by decide)
      · intro h; exact absurd h h2
set_option maxRecDepth 20000 in
set_option maxHeartbeats 200000 in
theorem lp_X8_greatestDivisor (d : Nat) (w : AW) : ∀ (k p : Nat) (a b : Int64) (j5 : Value), p + k = 200 → Ev d 115 2 [.long a, .null, .long b, .null, .int (nI p), .null, .null] [] w (some (.long (gdI k a b))) w := by
  intro k
  induction k with
  | zero =>
    intro p a b j5 hp
    refine Ev.sn e_X8_greatestDivisor 2 (i' := 4) (ls' := [_, _, _, _, _, _, _]) (st' := [_, _]) rfl ?_
    refine Ev.brT (i1 := 19) (i2 := 5) e_X8_greatestDivisor rfl rfl (ge_t (n := 200) rfl (by omega) (by omega)) ?_
    refine Ev.sn e_X8_greatestDivisor 1 (i' := 20) (ls' := [_, _, _, _, _, _, _]) (st' := [_]) rfl ?_
    refine Ev.lret e_X8_greatestDivisor rfl rfl ?_ rfl
    rfl
  | succ k ih =>
    intro p a b j5 hp
    refine Ev.sn e_X8_greatestDivisor 2 (i' := 4) (ls' := [_, _, _, _, _, _, _]) (st' := [_, _]) rfl ?_
    refine Ev.brF (i1 := 19) (i2 := 5) e_X8_greatestDivisor rfl rfl (ge_f (n := 200) rfl (by omega) (by omega)) ?_
    refine Ev.sn e_X8_greatestDivisor 3 (i' := 8) (ls' := [_, _, _, _, _, _, _]) (st' := [_]) rfl ?_
    refine Ev.br (i1 := 19) (i2 := 9) e_X8_greatestDivisor rfl rfl (fun h0 => ?_) (fun h0 => ?_)
    · refine Ev.sn e_X8_greatestDivisor 1 (i' := 20) (ls' := [_, _, _, _, _, _, _]) (st' := [_]) rfl ?_
      refine Ev.lret e_X8_greatestDivisor rfl rfl ?_ rfl
      rw [gdI, if_pos (lg_cmp_0.mp h0)]
    · refine Ev.sn e_X8_greatestDivisor 2 (i' := 11) (ls' := [_, _, _, _, _, _, _]) (st' := [_, _]) rfl ?_
      refine Ev.lrem e_X8_greatestDivisor rfl rfl (fun e => h0 (lg_cmp_0.mpr e)) ?_
      refine Ev.sn e_X8_greatestDivisor 7 (i' := 2) (ls' := [_, _, _, _, _, _, _]) (st' := []) rfl ?_
      rw [nI_1, gdI, if_neg (fun e => h0 (lg_cmp_0.mpr e))]
      exact Ev.weak (lle_c (lle_n (lle_c (lle_n (lle_c (lle_n (lle_n lle_0))))))) (ih (p + 1) _ _ .null (by omega))
set_option maxRecDepth 20000 in
set_option maxHeartbeats 200000 in
theorem c_X8_greatestDivisor (d : Nat) (w : AW) (a b : Int64) : Ev d 115 0 [.long a, .null, .long b, .null, .null, .null, .null] [] w (some (.long (gdI 200 a b))) w := by
  refine Ev.sn e_X8_greatestDivisor 2 (i' := 2) (ls' := [_, _, _, _, _, _, _]) (st' := []) rfl ?_
  exact lp_X8_greatestDivisor _ _ 200 0 a b .null rfl
def ilt (u l : Int64) (what : Int32) : Int64 := if gdI 200 u l = 0 then 0 else (if what = 0 then u else l) / gdI 200 u l
set_option maxRecDepth 20000 in
set_option maxHeartbeats 200000 in
theorem c_X8_inLowestTerms (d : Nat) (w : AW) (a b : Int64) (x : Int32) : Ev (d + 1) 114 0 [.long a, .null, .long b, .null, .int x, .null, .null] [] w (some (.long (ilt a b x))) w := by
  refine Ev.sn e_X8_inLowestTerms 2 (i' := 2) (ls' := [_, _, _, _, _, _, _]) (st' := [_, _]) rfl ?_
  refine Ev.clS e_X8_inLowestTerms rfl rfl rfl (as := [_, _]) rfl rfl rfl rfl rfl (c_X8_greatestDivisor _ _ _ _) rfl ?_
  refine Ev.sn e_X8_inLowestTerms 4 (i' := 7) (ls' := [_, _, _, _, _, _, _]) (st' := [_]) rfl ?_
  refine Ev.br (i1 := 8) (i2 := 10) e_X8_inLowestTerms rfl rfl (fun h0 => ?_) (fun h0 => ?_)
  · refine Ev.sn e_X8_inLowestTerms 1 (i' := 9) (ls' := [_, _, _, _, _, _, _]) (st' := [_]) rfl ?_
    refine Ev.lret e_X8_inLowestTerms rfl rfl ?_ rfl
    rw [ilt, if_pos (lg_cmp_0.mp h0)]
  · refine Ev.sn e_X8_inLowestTerms 1 (i' := 11) (ls' := [_, _, _, _, _, _, _]) (st' := [_]) rfl ?_
    refine Ev.br (i1 := 12) (i2 := 14) e_X8_inLowestTerms rfl rfl (fun h1 => ?_) (fun h1 => ?_)
    · refine Ev.sn e_X8_inLowestTerms 3 (i' := 16) (ls' := [_, _, _, _, _, _, _]) (st' := [_, _]) rfl ?_
      refine Ev.ldiv e_X8_inLowestTerms rfl rfl (fun e => h0 (lg_cmp_0.mpr e)) ?_
      refine Ev.lret e_X8_inLowestTerms rfl rfl ?_ rfl
      rw [ilt, if_neg (fun e => h0 (lg_cmp_0.mpr e))]
      simp [h1]
    · refine Ev.sn e_X8_inLowestTerms 2 (i' := 16) (ls' := [_, _, _, _, _, _, _]) (st' := [_, _]) rfl ?_
      refine Ev.ldiv e_X8_inLowestTerms rfl rfl (fun e => h0 (lg_cmp_0.mpr e)) ?_
      refine Ev.lret e_X8_inLowestTerms rfl rfl ?_ rfl
      rw [ilt, if_neg (fun e => h0 (lg_cmp_0.mpr e))]
      simp [h1]
set_option maxRecDepth 20000 in
set_option maxHeartbeats 200000 in
theorem lp_X8_power (d : Nat) (w : AW) (x : Int32) (e : Nat) (he : e < 2000) : ∀ (kk p : Nat) (a : Int64), p + kk = e → Ev d 117 4 [.int x, .int (nI e), .long a, .null, .int (nI p)] [] w (some (.long (fo (fun _ a => a * x.toInt64) kk p a))) w := by
  intro kk
  induction kk with
  | zero =>
    intro p a hp
    refine Ev.sn e_X8_power 2 (i' := 6) (ls' := [_, _, _, _, _]) (st' := [_, _]) rfl ?_
    refine Ev.brT (i1 := 14) (i2 := 7) e_X8_power rfl rfl (ge_t (n := e) rfl (by omega) (by omega)) ?_
    refine Ev.sn e_X8_power 1 (i' := 15) (ls' := [_, _, _, _, _]) (st' := [_]) rfl ?_
    refine Ev.lret e_X8_power rfl rfl ?_ rfl
    rfl
  | succ kk ih =>
    intro p a hp
    rw [fo_s (k := kk)]
    refine Ev.sn e_X8_power 2 (i' := 6) (ls' := [_, _, _, _, _]) (st' := [_, _]) rfl ?_
    refine Ev.brF (i1 := 14) (i2 := 7) e_X8_power rfl rfl (ge_f (n := e) rfl (by omega) (by omega)) ?_
    refine Ev.sn e_X8_power 7 (i' := 4) (ls' := [_, _, _, _, _]) (st' := []) rfl ?_
    refine Ev.weak (lle_c (lle_c (lle_c (lle_n (lle_c lle_0))))) (Ev.cg (ih (p + 1) ((fun _ a => a * x.toInt64) p a) (by omega)) ?_)
    simp [nI_1]
def pwI (x : Int32) (e : Nat) : Int64 := fo (fun _ a => a * x.toInt64) e 0 1
set_option maxRecDepth 20000 in
set_option maxHeartbeats 200000 in
theorem c_X8_power (d : Nat) (w : AW) (x : Int32) (e : Nat) (he : e < 2000) : Ev d 117 0 [.int x, .int (nI e), .null, .null, .null] [] w (some (.long (pwI x e))) w := by
  refine Ev.sn e_X8_power 4 (i' := 4) (ls' := [_, _, _, _, _]) (st' := []) rfl ?_
  exact lp_X8_power _ _ _ _ he e 0 1 (by omega)
def wyI (x : Int32) (e : Nat) : Int64 := fo (fun j a => a * (x - nI j + 1).toInt64 / (nI j).toInt64) e 1 1
theorem nI_l0 {p : Nat} (h : 0 < p) (h2 : p < 2000) : ¬ (nI p).toInt64 = 0 := by
  rw [nI_l (by omega)]
  intro e
  have : lN p = lN 0 := e
  rw [lN_eq (by omega) (by omega)] at this
  omega
set_option maxRecDepth 20000 in
set_option maxHeartbeats 200000 in
theorem lp_X8_waysToChoose (d : Nat) (w : AW) (x : Int32) (e : Nat) (he : e < 2000) : ∀ (k p : Nat) (a : Int64), p + k = e + 1 → 0 < p → Ev d 116 4 [.int x, .int (nI e), .long a, .null, .int (nI p)] [] w (some (.long (fo (fun j a => a * (x - nI j + 1).toInt64 / (nI j).toInt64) k p a))) w := by
  intro k
  induction k with
  | zero =>
    intro p a hp h0
    refine Ev.sn e_X8_waysToChoose 2 (i' := 6) (ls' := [_, _, _, _, _]) (st' := [_, _]) rfl ?_
    refine Ev.brT (i1 := 21) (i2 := 7) e_X8_waysToChoose rfl rfl (nI_lt (by omega) (by omega)) ?_
    refine Ev.sn e_X8_waysToChoose 1 (i' := 22) (ls' := [_, _, _, _, _]) (st' := [_]) rfl ?_
    refine Ev.lret e_X8_waysToChoose rfl rfl ?_ rfl
    rfl
  | succ k ih =>
    intro p a hp h0
    refine Ev.sn e_X8_waysToChoose 2 (i' := 6) (ls' := [_, _, _, _, _]) (st' := [_, _]) rfl ?_
    refine Ev.brF (i1 := 21) (i2 := 7) e_X8_waysToChoose rfl rfl (nI_nlt (by omega) (by omega)) ?_
    refine Ev.sn e_X8_waysToChoose 10 (i' := 17) (ls' := [_, _, _, _, _]) (st' := [_, _]) rfl ?_
    refine Ev.ldiv e_X8_waysToChoose rfl rfl (nI_l0 h0 (by omega)) ?_
    refine Ev.sn e_X8_waysToChoose 3 (i' := 4) (ls' := [_, _, _, _, _]) (st' := []) rfl ?_
    rw [nI_1]
    exact ih (p + 1) _ (by omega) (by omega)
set_option maxRecDepth 20000 in
set_option maxHeartbeats 200000 in
theorem c_X8_waysToChoose (d : Nat) (w : AW) (x : Int32) (e : Nat) (he : e < 2000) : Ev d 116 0 [.int x, .int (nI e), .null, .null, .null] [] w (some (.long (wyI x e))) w := by
  refine Ev.sn e_X8_waysToChoose 4 (i' := 4) (ls' := [_, _, _, _, _]) (st' := []) rfl ?_
  exact lp_X8_waysToChoose _ _ _ _ he e 1 1 (by omega) (by omega)
end
section
/-! class Trials -/
def allN (f : Nat → Bool) : Nat → Nat → Bool
  | 0, _ => true
  | k + 1, p => if f p = true then allN f k (p + 1) else false
def firN (f : Nat → Bool) (df : Int32) : Nat → Nat → Int32
  | 0, _ => df
  | k + 1, p => if f p = true then nI p else firN f df k (p + 1)
/-- what was tried: k of them; u 0 the THINGS, u 1 whether they fitted -/
def TI (n k : Nat) (u : VW) : Prop := k ≤ 6 ∧ ∀ i, i < k → (∃ t, t < n ∧ u 0 i = nI t) ∧ (u 1 i = 0 ∨ u 1 i = 1)
def tC (k : Nat) (g : Nat → Nat → Int32) : VW := fun r => match r with | 0 => cut k (g 98) | 1 => cut k (g 99) | _ => fun _ => 0
def tR (k : Nat) (g : Nat → Nat → Int32) : VW := fun r => match r with | 0 => cut k (g 11) | 1 => cut k (g 12) | _ => fun _ => 0
def ALW (k : Nat) (u v : VW) (z sc : Int32) : Bool := allN (fun i => decide (bI (fitB v (u 0 i).toNatClampNeg (v 1 (u 0 i).toNatClampNeg) sc z) = u 1 i)) k 0
def SLF (k : Nat) (u v : VW) (z : Int32) : Int32 := fo (fun s a => if ALW k u v z (nI s) = true then a + 1 else a) 48 1 0
def LSC (k : Nat) (u v : VW) (z : Int32) : Int32 := firN (fun s => ALW k u v z (nI s)) (-9) 48 1
def LA2 (k : Nat) (u v : VW) (z : Int32) (t : Nat) : Int32 × Int32 := fo (fun s a => if ALW k u v z (nI s) = true then (if fitB v t (v 1 t) (nI s) z = true then (a.1 + 1, a.2) else (a.1, a.2 + 1)) else a) 48 1 (0, 0)
def mx2 (a : Int32 × Int32) : Int32 := if a.1 < a.2 then a.2 else a.1
def LAW (k : Nat) (u v : VW) (z : Int32) (t : Nat) : Int32 := mx2 (LA2 k u v z t)
def stBT (k : Nat) (u v : VW) (z : Int32) (t : Nat) (a : Int32 × Int32) : Int32 × Int32 := if LAW k u v z t < a.2 then (nI t, LAW k u v z t) else a
def BTT (n k : Nat) (u v : VW) (z : Int32) : Int32 × Int32 := fo (stBT k u v z) n 0 (-9, 49)
set_option maxRecDepth 20000 in
set_option maxHeartbeats 200000 in
theorem c_X7_size (d : Nat) (g : Nat → Nat → Int32) (tr : Int64) : Ev d 64 0 [.ref 78] [] (wC g tr) (some (.int (g 100 0))) (wC g tr) := by
  refine Ev.sn e_X7_size 2 (i' := 2) (ls' := [_]) (st' := [_]) rfl ?_
  refine Ev.iret e_X7_size rfl rfl rfl ?_ rfl
  rfl
set_option maxRecDepth 20000 in
set_option maxHeartbeats 200000 in
theorem c_X7_isFull (d : Nat) (g : Nat → Nat → Int32) (tr : Int64) {k : Nat} (hk : g 100 0 = nI k) (hk6 : k ≤ 6) : Ev d 65 0 [.ref 78] [] (wC g tr) (some (.int (bI (decide (k = 6))))) (wC g tr) := by
  refine Ev.sn e_X7_isFull 3 (i' := 3) (ls' := [_]) (st' := [_, _]) rfl ?_
  refine Ev.br (i1 := 6) (i2 := 4) e_X7_isFull rfl rfl (fun h0 => ?_) (fun h0 => ?_)
  · refine Ev.sn e_X7_isFull 1 (i' := 7) (ls' := [_]) (st' := [_]) rfl ?_
    refine Ev.iret e_X7_isFull rfl rfl rfl ?_ rfl
    have : ¬ k = 6 := fun e => absurd h0 (by rw [hk, e]; decide)
    simp [bI, this]
  · refine Ev.sn e_X7_isFull 2 (i' := 7) (ls' := [_]) (st' := [_]) rfl ?_
    refine Ev.iret e_X7_isFull rfl rfl rfl ?_ rfl
    have : k = 6 := by
      by_cases e : k < 6
      · exact absurd (by rw [hk]; exact nI_lt (b := 6) e (by omega)) h0
      · omega
    simp [bI, this]
set_option maxRecDepth 20000 in
set_option maxHeartbeats 200000 in
theorem c_X7_loseAll (d : Nat) (g : Nat → Nat → Int32) (tr : Int64) : Ev d 66 0 [.ref 78] [] (wC g tr) none (wC (va_up g 100 (upd (g 100) 0 0)) tr) := by
  refine Ev.sn e_X7_loseAll 2 (i' := 2) (ls' := [_]) (st' := [_, _]) rfl ?_
  refine Ev.put e_X7_loseAll rfl rfl rfl rfl rfl rfl (w1 := wC (va_up g 100 (upd (g 100) 0 0)) tr) rfl ?_
  exact Ev.vret e_X7_loseAll rfl rfl rfl
set_option maxRecDepth 20000 in
set_option maxHeartbeats 200000 in
theorem c_X7_add (d : Nat) (g : Nat → Nat → Int32) (tr : Int64) {k : Nat} (hk : g 100 0 = nI k) (hk6 : k < 6) (x y : Int32) (hy : y = 0 ∨ y = 1) : Ev (d + 1) 67 0 [.ref 78, .int x, .int y] [] (wC g tr) none (wC (va_up (va_up (va_up g 98 (upd (g 98) k x)) 99 (upd (g 99) k y)) 100 (upd (g 100) 0 (nI (k + 1)))) tr) := by
  refine Ev.sn e_X7_add 1 (i' := 1) (ls' := [_, _, _]) (st' := [_]) rfl ?_
  refine Ev.clV e_X7_add rfl rfl (as := []) rfl rfl rfl kl_X7_isFull rfl rfl rfl (c_X7_isFull _ _ _ hk (by omega)) rfl ?_
  refine Ev.brT (i1 := 3) (i2 := 21) e_X7_add rfl rfl ((by rw [bI_0]; simp; omega)) ?_
  refine Ev.sn e_X7_add 5 (i' := 8) (ls' := [_, _, _]) (st' := [_, _, _]) rfl ?_
  refine Ev.iastE e_X7_add rfl rfl rfl hk hk6 (w1 := wC (va_up g 98 (upd (g 98) k x)) tr) rfl ?_
  refine Ev.sn e_X7_add 5 (i' := 14) (ls' := [_, _, _]) (st' := [_, _, _]) rfl ?_
  refine Ev.bastE e_X7_add rfl rfl rfl hk hk6 hy (w1 := wC (va_up (va_up g 98 (upd (g 98) k x)) 99 (upd (g 99) k y)) tr) rfl ?_
  refine Ev.sn e_X7_add 5 (i' := 20) (ls' := [_, _, _]) (st' := [_, _]) rfl ?_
  refine Ev.put e_X7_add rfl rfl rfl rfl rfl rfl (w1 := wC (va_up (va_up (va_up g 98 (upd (g 98) k x)) 99 (upd (g 99) k y)) 100 (upd (g 100) 0 (g 100 0 + 1))) tr) rfl ?_
  exact Ev.vret e_X7_add rfl rfl (by rw [hk, nI_1])
set_option maxRecDepth 20000 in
set_option maxHeartbeats 200000 in
theorem lp_X7_allow (d : Nat) (g : Nat → Nat → Int32) (tr : Int64) {n q dn : Nat} (hc : CI n q dn g) {k : Nat} (hk : g 100 0 = nI k) (ht : TI n k (tC k g)) (z sc : Int32) : ∀ (j p : Nat), p + j = k → Ev (d + 2) 68 2 [.ref 78, .ref 16, .int z, .int sc, .int (nI p)] [] (wC g tr) (some (.int (bI (allN (fun i => decide (bI (fitB (vC n q dn g) ((tC k g) 0 i).toNatClampNeg ((vC n q dn g) 1 ((tC k g) 0 i).toNatClampNeg) sc z) = (tC k g) 1 i)) j p)))) (wC g tr) := by
  intro j
  induction j with
  | zero =>
    intro p hp
    have hb := ht.1
    refine Ev.sn e_X7_allow 3 (i' := 5) (ls' := [_, _, _, _, _]) (st' := [_, _]) rfl ?_
    refine Ev.brT (i1 := 23) (i2 := 6) e_X7_allow rfl rfl (ge_t hk (by omega) (by omega)) ?_
    refine Ev.sn e_X7_allow 1 (i' := 24) (ls' := [_, _, _, _, _]) (st' := [_]) rfl ?_
    refine Ev.iret e_X7_allow rfl rfl rfl ?_ rfl
    rfl
  | succ j ih =>
    intro p hp
    have hb := ht.1
    obtain ⟨⟨t, ht1, ht2⟩, ht3⟩ := ht.2 p (by omega)
    have e0 : (tC k g) 0 p = g 98 p := cut_lt (by omega)
    have e1 : (tC k g) 1 p = g 99 p := cut_lt (by omega)
    have e2 : g 98 p = nI t := by rw [← e0]; exact ht2
    have hb2 := hc.b
    have e3 : (nI t).toNatClampNeg = t := nI_clamp (by omega)
    show Ev _ _ _ _ _ _ (some (.int (bI (if decide (bI (fitB (vC n q dn g) ((tC k g) 0 p).toNatClampNeg ((vC n q dn g) 1 ((tC k g) 0 p).toNatClampNeg) sc z) = (tC k g) 1 p) = true then allN (fun i => decide (bI (fitB (vC n q dn g) ((tC k g) 0 i).toNatClampNeg ((vC n q dn g) 1 ((tC k g) 0 i).toNatClampNeg) sc z) = (tC k g) 1 i)) j (p + 1) else false)))) _
    rw [ht2, e1, e3]
    refine Ev.sn e_X7_allow 3 (i' := 5) (ls' := [_, _, _, _, _]) (st' := [_, _]) rfl ?_
    refine Ev.brF (i1 := 23) (i2 := 6) e_X7_allow rfl rfl (ge_f hk (by omega) (by omega)) ?_
    refine Ev.sn e_X7_allow 4 (i' := 10) (ls' := [_, _, _, _, _]) (st' := [_, _, _]) rfl ?_
    refine Ev.ialdE e_X7_allow rfl rfl rfl rfl rfl (by omega) ?_
    refine Ev.sn e_X7_allow 2 (i' := 13) (ls' := [_, _, _, _, _]) (st' := [_, _, _, _]) rfl ?_
    refine Ev.clV e_X7_allow rfl rfl (as := [_, _, _]) rfl rfl rfl kl_X2_fitsStranger rfl rfl rfl (by rw [e2]; exact c_X2_fitsStranger _ _ _ hc ht1 _ _) rfl ?_
    refine Ev.sn e_X7_allow 3 (i' := 17) (ls' := [_, _, _, _, _]) (st' := [_, _, _]) rfl ?_
    refine Ev.baldE e_X7_allow rfl rfl rfl rfl (by omega) ?_
    refine Ev.br (i1 := 21) (i2 := 19) e_X7_allow rfl rfl (fun h0 => ?_) (fun h0 => ?_)
    · refine Ev.sn e_X7_allow 2 (i' := 2) (ls' := [_, _, _, _, _]) (st' := []) rfl ?_
      rw [nI_1, if_pos (by simp [h0])]
      exact ih (p + 1) (by omega)
    · refine Ev.sn e_X7_allow 1 (i' := 20) (ls' := [_, _, _, _, _]) (st' := [_]) rfl ?_
      refine Ev.iret e_X7_allow rfl rfl rfl ?_ rfl
      rw [if_neg (by simp [h0])]
      rfl
set_option maxRecDepth 20000 in
set_option maxHeartbeats 200000 in
theorem c_X7_allow (d : Nat) (g : Nat → Nat → Int32) (tr : Int64) {n q dn : Nat} (hc : CI n q dn g) {k : Nat} (hk : g 100 0 = nI k) (ht : TI n k (tC k g)) (z sc : Int32) : Ev (d + 2) 68 0 [.ref 78, .ref 16, .int z, .int sc, .null] [] (wC g tr) (some (.int (bI (ALW k (tC k g) (vC n q dn g) z sc)))) (wC g tr) := by
  refine Ev.sn e_X7_allow 2 (i' := 2) (ls' := [_, _, _, _, _]) (st' := []) rfl ?_
  exact lp_X7_allow _ _ _ hc hk ht _ _ k 0 (by omega)
set_option maxRecDepth 20000 in
set_option maxHeartbeats 200000 in
theorem lp_X7_scalesLeft (d : Nat) (g : Nat → Nat → Int32) (tr : Int64) {n q dn : Nat} (hc : CI n q dn g) {k : Nat} (hk : g 100 0 = nI k) (ht : TI n k (tC k g)) (z : Int32) : ∀ (j p : Nat) (a : Int32), p + j = 49 → Ev (d + 3) 69 4 [.ref 78, .ref 16, .int z, .int a, .int (nI p)] [] (wC g tr) (some (.int (fo (fun s a => if ALW k (tC k g) (vC n q dn g) z (nI s) = true then a + 1 else a) j p a))) (wC g tr) := by
  intro j
  induction j with
  | zero =>
    intro p a hp
    refine Ev.sn e_X7_scalesLeft 2 (i' := 6) (ls' := [_, _, _, _, _]) (st' := [_, _]) rfl ?_
    refine Ev.brT (i1 := 16) (i2 := 7) e_X7_scalesLeft rfl rfl (nI_lt (a := 48) (by omega) (by omega)) ?_
    refine Ev.sn e_X7_scalesLeft 1 (i' := 17) (ls' := [_, _, _, _, _]) (st' := [_]) rfl ?_
    refine Ev.iret e_X7_scalesLeft rfl rfl rfl ?_ rfl
    rfl
  | succ j ih =>
    intro p a hp
    rw [fo_s (k := j)]
    refine Ev.sn e_X7_scalesLeft 2 (i' := 6) (ls' := [_, _, _, _, _]) (st' := [_, _]) rfl ?_
    refine Ev.brF (i1 := 16) (i2 := 7) e_X7_scalesLeft rfl rfl (nI_nlt (a := 48) (by omega) (by omega)) ?_
    refine Ev.sn e_X7_scalesLeft 4 (i' := 11) (ls' := [_, _, _, _, _]) (st' := [_, _, _, _]) rfl ?_
    refine Ev.clV e_X7_scalesLeft rfl rfl (as := [_, _, _]) rfl rfl rfl kl_X7_allow rfl rfl rfl (c_X7_allow _ _ _ hc hk ht _ _) rfl ?_
    refine Ev.brB (i1 := 14) (i2 := 13) e_X7_scalesLeft rfl rfl (fun h0 => ?_) (fun h0 => ?_)
    · refine Ev.sn e_X7_scalesLeft 2 (i' := 4) (ls' := [_, _, _, _, _]) (st' := []) rfl ?_
      refine Ev.cg (ih (p + 1) ((fun s a => if ALW k (tC k g) (vC n q dn g) z (nI s) = true then a + 1 else a) p a) (by omega)) ?_
      simp [nI_1, h0]
    · refine Ev.sn e_X7_scalesLeft 3 (i' := 4) (ls' := [_, _, _, _, _]) (st' := []) rfl ?_
      refine Ev.cg (ih (p + 1) ((fun s a => if ALW k (tC k g) (vC n q dn g) z (nI s) = true then a + 1 else a) p a) (by omega)) ?_
      simp [nI_1, h0]
set_option maxRecDepth 20000 in
set_option maxHeartbeats 200000 in
theorem c_X7_scalesLeft (d : Nat) (g : Nat → Nat → Int32) (tr : Int64) {n q dn : Nat} (hc : CI n q dn g) {k : Nat} (hk : g 100 0 = nI k) (ht : TI n k (tC k g)) (z : Int32) : Ev (d + 3) 69 0 [.ref 78, .ref 16, .int z, .null, .null] [] (wC g tr) (some (.int (SLF k (tC k g) (vC n q dn g) z))) (wC g tr) := by
  refine Ev.sn e_X7_scalesLeft 4 (i' := 4) (ls' := [_, _, _, _, _]) (st' := []) rfl ?_
  exact lp_X7_scalesLeft _ _ _ hc hk ht _ 48 1 0 (by omega)
set_option maxRecDepth 20000 in
set_option maxHeartbeats 200000 in
theorem lp_X7_leastScale (d : Nat) (g : Nat → Nat → Int32) (tr : Int64) {n q dn : Nat} (hc : CI n q dn g) {k : Nat} (hk : g 100 0 = nI k) (ht : TI n k (tC k g)) (z : Int32) : ∀ (j p : Nat), p + j = 49 → Ev (d + 3) 70 2 [.ref 78, .ref 16, .int z, .int (nI p)] [] (wC g tr) (some (.int (firN (fun s => ALW k (tC k g) (vC n q dn g) z (nI s)) (-9) j p))) (wC g tr) := by
  intro j
  induction j with
  | zero =>
    intro p hp
    refine Ev.sn e_X7_leastScale 2 (i' := 4) (ls' := [_, _, _, _]) (st' := [_, _]) rfl ?_
    refine Ev.brT (i1 := 15) (i2 := 5) e_X7_leastScale rfl rfl (nI_lt (a := 48) (by omega) (by omega)) ?_
    refine Ev.sn e_X7_leastScale 1 (i' := 16) (ls' := [_, _, _, _]) (st' := [_]) rfl ?_
    refine Ev.iret e_X7_leastScale rfl rfl rfl ?_ rfl
    rfl
  | succ j ih =>
    intro p hp
    refine Ev.sn e_X7_leastScale 2 (i' := 4) (ls' := [_, _, _, _]) (st' := [_, _]) rfl ?_
    refine Ev.brF (i1 := 15) (i2 := 5) e_X7_leastScale rfl rfl (nI_nlt (a := 48) (by omega) (by omega)) ?_
    refine Ev.sn e_X7_leastScale 4 (i' := 9) (ls' := [_, _, _, _]) (st' := [_, _, _, _]) rfl ?_
    refine Ev.clV e_X7_leastScale rfl rfl (as := [_, _, _]) rfl rfl rfl kl_X7_allow rfl rfl rfl (c_X7_allow _ _ _ hc hk ht _ _) rfl ?_
    refine Ev.brB (i1 := 13) (i2 := 11) e_X7_leastScale rfl rfl (fun h0 => ?_) (fun h0 => ?_)
    · refine Ev.sn e_X7_leastScale 2 (i' := 2) (ls' := [_, _, _, _]) (st' := []) rfl ?_
      rw [nI_1]
      have := ih (p + 1) (by omega)
      simpa [firN, h0] using this
    · refine Ev.sn e_X7_leastScale 1 (i' := 12) (ls' := [_, _, _, _]) (st' := [_]) rfl ?_
      refine Ev.iret e_X7_leastScale rfl rfl rfl ?_ rfl
      simp [firN, h0]
set_option maxRecDepth 20000 in
set_option maxHeartbeats 200000 in
theorem c_X7_leastScale (d : Nat) (g : Nat → Nat → Int32) (tr : Int64) {n q dn : Nat} (hc : CI n q dn g) {k : Nat} (hk : g 100 0 = nI k) (ht : TI n k (tC k g)) (z : Int32) : Ev (d + 3) 70 0 [.ref 78, .ref 16, .int z, .null] [] (wC g tr) (some (.int (LSC k (tC k g) (vC n q dn g) z))) (wC g tr) := by
  refine Ev.sn e_X7_leastScale 2 (i' := 2) (ls' := [_, _, _, _]) (st' := []) rfl ?_
  exact lp_X7_leastScale _ _ _ hc hk ht _ 48 1 (by omega)
set_option maxRecDepth 20000 in
set_option maxHeartbeats 200000 in
theorem lp_X7_leftAtWorst (d : Nat) (g : Nat → Nat → Int32) (tr : Int64) {n q dn : Nat} (hc : CI n q dn g) {k : Nat} (hk : g 100 0 = nI k) (ht : TI n k (tC k g)) (z : Int32) {t : Nat} (ht0 : t < n) : ∀ (j p : Nat) (a : Int32 × Int32), p + j = 49 → Ev (d + 3) 71 6 [.ref 78, .ref 16, .int z, .int (nI t), .int a.1, .int a.2, .int (nI p)] [] (wC g tr) (some (.int (mx2 (fo (fun (s : Nat) (a : Int32 × Int32) => if ALW k (tC k g) (vC n q dn g) z (nI s) = true then (if fitB (vC n q dn g) t ((vC n q dn g) 1 t) (nI s) z = true then (a.1 + 1, a.2) else (a.1, a.2 + 1)) else a) j p a)))) (wC g tr) := by
  intro j
  induction j with
  | zero =>
    intro p a hp
    refine Ev.sn e_X7_leftAtWorst 2 (i' := 8) (ls' := [_, _, _, _, _, _, _]) (st' := [_, _]) rfl ?_
    refine Ev.brT (i1 := 26) (i2 := 9) e_X7_leftAtWorst rfl rfl (nI_lt (a := 48) (by omega) (by omega)) ?_
    refine Ev.sn e_X7_leftAtWorst 2 (i' := 28) (ls' := [_, _, _, _, _, _, _]) (st' := [_, _]) rfl ?_
    refine Ev.clS e_X7_leftAtWorst rfl rfl rfl (as := [_, _]) rfl rfl rfl rfl rfl (c_J9_max_7cf53 _ _ _ _) rfl ?_
    refine Ev.iret e_X7_leftAtWorst rfl rfl rfl ?_ rfl
    rfl
  | succ j ih =>
    intro p a hp
    rw [fo_s (k := j)]
    refine Ev.sn e_X7_leftAtWorst 2 (i' := 8) (ls' := [_, _, _, _, _, _, _]) (st' := [_, _]) rfl ?_
    refine Ev.brF (i1 := 26) (i2 := 9) e_X7_leftAtWorst rfl rfl (nI_nlt (a := 48) (by omega) (by omega)) ?_
    refine Ev.sn e_X7_leftAtWorst 4 (i' := 13) (ls' := [_, _, _, _, _, _, _]) (st' := [_, _, _, _]) rfl ?_
    refine Ev.clV e_X7_leftAtWorst rfl rfl (as := [_, _, _]) rfl rfl rfl kl_X7_allow rfl rfl rfl (c_X7_allow _ _ _ hc hk ht _ _) rfl ?_
    refine Ev.brB (i1 := 24) (i2 := 15) e_X7_leftAtWorst rfl rfl (fun h0 => ?_) (fun h0 => ?_)
    · refine Ev.sn e_X7_leftAtWorst 2 (i' := 6) (ls' := [_, _, _, _, _, _, _]) (st' := []) rfl ?_
      refine Ev.cg (ih (p + 1) ((fun (s : Nat) (a : Int32 × Int32) => if ALW k (tC k g) (vC n q dn g) z (nI s) = true then (if fitB (vC n q dn g) t ((vC n q dn g) 1 t) (nI s) z = true then (a.1 + 1, a.2) else (a.1, a.2 + 1)) else a) p a) (by omega)) ?_
      simp [nI_1, h0]
    · refine Ev.sn e_X7_leftAtWorst 4 (i' := 19) (ls' := [_, _, _, _, _, _, _]) (st' := [_, _, _, _]) rfl ?_
      refine Ev.clV e_X7_leftAtWorst rfl rfl (as := [_, _, _]) rfl rfl rfl kl_X2_fitsStranger rfl rfl rfl (c_X2_fitsStranger _ _ _ hc ht0 _ _) rfl ?_
      refine Ev.brB (i1 := 23) (i2 := 21) e_X7_leftAtWorst rfl rfl (fun h1 => ?_) (fun h1 => ?_)
      · refine Ev.sn e_X7_leftAtWorst 3 (i' := 6) (ls' := [_, _, _, _, _, _, _]) (st' := []) rfl ?_
        refine Ev.cg (ih (p + 1) ((fun (s : Nat) (a : Int32 × Int32) => if ALW k (tC k g) (vC n q dn g) z (nI s) = true then (if fitB (vC n q dn g) t ((vC n q dn g) 1 t) (nI s) z = true then (a.1 + 1, a.2) else (a.1, a.2 + 1)) else a) p a) (by omega)) ?_
        simp [nI_1, h0, h1]
      · refine Ev.sn e_X7_leftAtWorst 4 (i' := 6) (ls' := [_, _, _, _, _, _, _]) (st' := []) rfl ?_
        refine Ev.cg (ih (p + 1) ((fun (s : Nat) (a : Int32 × Int32) => if ALW k (tC k g) (vC n q dn g) z (nI s) = true then (if fitB (vC n q dn g) t ((vC n q dn g) 1 t) (nI s) z = true then (a.1 + 1, a.2) else (a.1, a.2 + 1)) else a) p a) (by omega)) ?_
        simp [nI_1, h0, h1]
set_option maxRecDepth 20000 in
set_option maxHeartbeats 200000 in
theorem c_X7_leftAtWorst (d : Nat) (g : Nat → Nat → Int32) (tr : Int64) {n q dn : Nat} (hc : CI n q dn g) {k : Nat} (hk : g 100 0 = nI k) (ht : TI n k (tC k g)) (z : Int32) {t : Nat} (ht0 : t < n) : Ev (d + 3) 71 0 [.ref 78, .ref 16, .int z, .int (nI t), .null, .null, .null] [] (wC g tr) (some (.int (LAW k (tC k g) (vC n q dn g) z t))) (wC g tr) := by
  refine Ev.sn e_X7_leftAtWorst 6 (i' := 6) (ls' := [_, _, _, _, _, _, _]) (st' := []) rfl ?_
  exact lp_X7_leftAtWorst _ _ _ hc hk ht _ ht0 48 1 (0, 0) (by omega)
set_option maxRecDepth 20000 in
set_option maxHeartbeats 200000 in
theorem lp_X7_bestToTry (d : Nat) (g : Nat → Nat → Int32) (tr : Int64) {n q dn : Nat} (hc : CI n q dn g) {k : Nat} (hk : g 100 0 = nI k) (ht : TI n k (tC k g)) (z : Int32) : ∀ (kk p : Nat) (a : Int32 × Int32), p + kk = n → Ev (d + 4) 72 6 [.ref 78, .ref 16, .int z, .int a.1, .int a.2, .int (nI p), .null] [] (wC g tr) (some (.int (fo (stBT k (tC k g) (vC n q dn g) z) kk p a).1)) (wC g tr) := by
  intro kk
  induction kk with
  | zero =>
    intro p a hp
    have hb := hc.b
    refine Ev.sn e_X7_bestToTry 4 (i' := 10) (ls' := [_, _, _, _, _, _, _]) (st' := [_, _]) rfl ?_
    refine Ev.brT (i1 := 26) (i2 := 11) e_X7_bestToTry rfl rfl (ge_t hc.hn (by omega) (by omega)) ?_
    refine Ev.sn e_X7_bestToTry 1 (i' := 27) (ls' := [_, _, _, _, _, _, _]) (st' := [_]) rfl ?_
    refine Ev.iret e_X7_bestToTry rfl rfl rfl ?_ rfl
    rfl
  | succ kk ih =>
    intro p a hp
    rw [fo_s (k := kk)]
    have hb := hc.b
    refine Ev.sn e_X7_bestToTry 4 (i' := 10) (ls' := [_, _, _, _, _, _, _]) (st' := [_, _]) rfl ?_
    refine Ev.brF (i1 := 26) (i2 := 11) e_X7_bestToTry rfl rfl (ge_f hc.hn (by omega) (by omega)) ?_
    refine Ev.sn e_X7_bestToTry 4 (i' := 15) (ls' := [_, _, _, _, _, _, _]) (st' := [_, _, _, _]) rfl ?_
    refine Ev.clV e_X7_bestToTry rfl rfl (as := [_, _, _]) rfl rfl rfl kl_X7_leftAtWorst rfl rfl rfl (c_X7_leftAtWorst _ _ _ hc hk ht z (by omega)) rfl ?_
    refine Ev.sn e_X7_bestToTry 3 (i' := 19) (ls' := [_, _, _, _, _, _, _]) (st' := [_, _]) rfl ?_
    refine Ev.br (i1 := 24) (i2 := 20) e_X7_bestToTry rfl rfl (fun h0 => ?_) (fun h0 => ?_)
    · refine Ev.sn e_X7_bestToTry 2 (i' := 6) (ls' := [_, _, _, _, _, _, _]) (st' := []) rfl ?_
      refine Ev.weak (lle_c (lle_c (lle_c (lle_c (lle_c (lle_c (lle_n lle_0))))))) (Ev.cg (ih (p + 1) ((stBT k (tC k g) (vC n q dn g) z) p a) (by omega)) ?_)
      simp [nI_1, stBT, ← Int32.not_le, h0]
    · refine Ev.sn e_X7_bestToTry 6 (i' := 6) (ls' := [_, _, _, _, _, _, _]) (st' := []) rfl ?_
      refine Ev.weak (lle_c (lle_c (lle_c (lle_c (lle_c (lle_c (lle_n lle_0))))))) (Ev.cg (ih (p + 1) ((stBT k (tC k g) (vC n q dn g) z) p a) (by omega)) ?_)
      simp [nI_1, stBT, ← Int32.not_le, h0]
set_option maxRecDepth 20000 in
set_option maxHeartbeats 200000 in
theorem c_X7_bestToTry (d : Nat) (g : Nat → Nat → Int32) (tr : Int64) {n q dn : Nat} (hc : CI n q dn g) {k : Nat} (hk : g 100 0 = nI k) (ht : TI n k (tC k g)) (z : Int32) : Ev (d + 4) 72 0 [.ref 78, .ref 16, .int z, .null, .null, .null, .null] [] (wC g tr) (some (.int ((BTT n k (tC k g) (vC n q dn g) z).1))) (wC g tr) := by
  refine Ev.sn e_X7_bestToTry 6 (i' := 6) (ls' := [_, _, _, _, _, _, _]) (st' := []) rfl ?_
  exact lp_X7_bestToTry _ _ _ hc hk ht _ n 0 (-9, 49) (by omega)
end
section
/-! classes Now and History -/
theorem Ev.aaldE {d M i : Nat} {ls : List Value} {w w' : AW} {r : Option Value} {c : List Row} {pc a b : Nat} {z : Int32} {zl : Int64} {sw : List (Int32 × Nat)} {ps : List Nat} {i' : Nat} {j : Int32} {s0 : List Value} {k n m v : Nat} {fo : Nat → Option Nat} (hc : mP M = c) (hr : c[i]? = some (pc, .aaload, a, b, z, zl, sw, ps)) (hi : i + 1 = i') (hw : w[k]? = some (.inl (3, n, .inr (.inr (.inr (.inr fo)))))) (hj : j = nI m) (hm : m < n) (hv : fo m = some v) (q : Ev d M i' ls (.ref v :: s0) w r w') (hn : n < 2000 := by decide) : Ev d M i ls (.int j :: .ref k :: s0) w r w' := by
  subst hj
  exact Ev.aald hc hr hi hw (vin_nI hm hn) (by rw [nI_cl hm hn]; exact hv) q
def cp3 (g : Nat → Nat → Int32) (bd bs : Nat) : Nat → Nat → Int32 := va_up (va_up (va_up g bd (va_cpy (g bs) (g bd) 0 0 6)) (bd + 1) (va_cpy (g (bs + 1)) (g (bd + 1)) 0 0 6)) (bd + 2) (va_cpy (g (bs + 2)) (g (bd + 2)) 0 0 5)
set_option maxRecDepth 20000 in
set_option maxHeartbeats 200000 in
theorem c_cp_36_30 (d a b : Nat) (g : Nat → Nat → Int32) (tr : Int64) : Ev (d + 1) 41 0 [.ref 36, .ref 30] [] (wX a b g tr) none (wX a b (cp3 g 60 50) tr) := by
  refine Ev.sn e_X4_copyFrom 7 (i' := 7) (ls' := [_, _]) (st' := [_, _, _, _, _]) rfl ?_
  refine Ev.copy e_X4_copyFrom rfl rfl rfl rfl rfl (by decide) (by decide) (by decide) (by decide) (by decide) (w1 := (wX a b (va_up g 60 (va_cpy (g 50) (g 60) 0 0 6)) tr)) rfl ?_
  refine Ev.sn e_X4_copyFrom 7 (i' := 15) (ls' := [_, _]) (st' := [_, _, _, _, _]) rfl ?_
  refine Ev.copy e_X4_copyFrom rfl rfl rfl rfl rfl (by decide) (by decide) (by decide) (by decide) (by decide) (w1 := (wX a b (va_up (va_up g 60 (va_cpy (g 50) (g 60) 0 0 6)) 61 (va_cpy (g 51) (g 61) 0 0 6)) tr)) rfl ?_
  refine Ev.sn e_X4_copyFrom 7 (i' := 23) (ls' := [_, _]) (st' := [_, _, _, _, _]) rfl ?_
  refine Ev.copy e_X4_copyFrom rfl rfl rfl rfl rfl (by decide) (by decide) (by decide) (by decide) (by decide) (w1 := (wX a b (va_up (va_up (va_up g 60 (va_cpy (g 50) (g 60) 0 0 6)) 61 (va_cpy (g 51) (g 61) 0 0 6)) 62 (va_cpy (g 52) (g 62) 0 0 5)) tr)) rfl ?_
  exact Ev.vret e_X4_copyFrom rfl rfl rfl
set_option maxRecDepth 20000 in
set_option maxHeartbeats 200000 in
theorem c_cp_30_36 (d a b : Nat) (g : Nat → Nat → Int32) (tr : Int64) : Ev (d + 1) 41 0 [.ref 30, .ref 36] [] (wX a b g tr) none (wX a b (cp3 g 50 60) tr) := by
  refine Ev.sn e_X4_copyFrom 7 (i' := 7) (ls' := [_, _]) (st' := [_, _, _, _, _]) rfl ?_
  refine Ev.copy e_X4_copyFrom rfl rfl rfl rfl rfl (by decide) (by decide) (by decide) (by decide) (by decide) (w1 := (wX a b (va_up g 50 (va_cpy (g 60) (g 50) 0 0 6)) tr)) rfl ?_
  refine Ev.sn e_X4_copyFrom 7 (i' := 15) (ls' := [_, _]) (st' := [_, _, _, _, _]) rfl ?_
  refine Ev.copy e_X4_copyFrom rfl rfl rfl rfl rfl (by decide) (by decide) (by decide) (by decide) (by decide) (w1 := (wX a b (va_up (va_up g 50 (va_cpy (g 60) (g 50) 0 0 6)) 51 (va_cpy (g 61) (g 51) 0 0 6)) tr)) rfl ?_
  refine Ev.sn e_X4_copyFrom 7 (i' := 23) (ls' := [_, _]) (st' := [_, _, _, _, _]) rfl ?_
  refine Ev.copy e_X4_copyFrom rfl rfl rfl rfl rfl (by decide) (by decide) (by decide) (by decide) (by decide) (w1 := (wX a b (va_up (va_up (va_up g 50 (va_cpy (g 60) (g 50) 0 0 6)) 51 (va_cpy (g 61) (g 51) 0 0 6)) 52 (va_cpy (g 62) (g 52) 0 0 5)) tr)) rfl ?_
  exact Ev.vret e_X4_copyFrom rfl rfl rfl
set_option maxRecDepth 20000 in
set_option maxHeartbeats 200000 in
theorem c_cp_40_30 (d a b : Nat) (g : Nat → Nat → Int32) (tr : Int64) : Ev (d + 1) 41 0 [.ref 40, .ref 30] [] (wX a b g tr) none (wX a b (cp3 g 63 50) tr) := by
  refine Ev.sn e_X4_copyFrom 7 (i' := 7) (ls' := [_, _]) (st' := [_, _, _, _, _]) rfl ?_
  refine Ev.copy e_X4_copyFrom rfl rfl rfl rfl rfl (by decide) (by decide) (by decide) (by decide) (by decide) (w1 := (wX a b (va_up g 63 (va_cpy (g 50) (g 63) 0 0 6)) tr)) rfl ?_
  refine Ev.sn e_X4_copyFrom 7 (i' := 15) (ls' := [_, _]) (st' := [_, _, _, _, _]) rfl ?_
  refine Ev.copy e_X4_copyFrom rfl rfl rfl rfl rfl (by decide) (by decide) (by decide) (by decide) (by decide) (w1 := (wX a b (va_up (va_up g 63 (va_cpy (g 50) (g 63) 0 0 6)) 64 (va_cpy (g 51) (g 64) 0 0 6)) tr)) rfl ?_
  refine Ev.sn e_X4_copyFrom 7 (i' := 23) (ls' := [_, _]) (st' := [_, _, _, _, _]) rfl ?_
  refine Ev.copy e_X4_copyFrom rfl rfl rfl rfl rfl (by decide) (by decide) (by decide) (by decide) (by decide) (w1 := (wX a b (va_up (va_up (va_up g 63 (va_cpy (g 50) (g 63) 0 0 6)) 64 (va_cpy (g 51) (g 64) 0 0 6)) 65 (va_cpy (g 52) (g 65) 0 0 5)) tr)) rfl ?_
  exact Ev.vret e_X4_copyFrom rfl rfl rfl
set_option maxRecDepth 20000 in
set_option maxHeartbeats 200000 in
theorem c_cp_30_40 (d a b : Nat) (g : Nat → Nat → Int32) (tr : Int64) : Ev (d + 1) 41 0 [.ref 30, .ref 40] [] (wX a b g tr) none (wX a b (cp3 g 50 63) tr) := by
  refine Ev.sn e_X4_copyFrom 7 (i' := 7) (ls' := [_, _]) (st' := [_, _, _, _, _]) rfl ?_
  refine Ev.copy e_X4_copyFrom rfl rfl rfl rfl rfl (by decide) (by decide) (by decide) (by decide) (by decide) (w1 := (wX a b (va_up g 50 (va_cpy (g 63) (g 50) 0 0 6)) tr)) rfl ?_
  refine Ev.sn e_X4_copyFrom 7 (i' := 15) (ls' := [_, _]) (st' := [_, _, _, _, _]) rfl ?_
  refine Ev.copy e_X4_copyFrom rfl rfl rfl rfl rfl (by decide) (by decide) (by decide) (by decide) (by decide) (w1 := (wX a b (va_up (va_up g 50 (va_cpy (g 63) (g 50) 0 0 6)) 51 (va_cpy (g 64) (g 51) 0 0 6)) tr)) rfl ?_
  refine Ev.sn e_X4_copyFrom 7 (i' := 23) (ls' := [_, _]) (st' := [_, _, _, _, _]) rfl ?_
  refine Ev.copy e_X4_copyFrom rfl rfl rfl rfl rfl (by decide) (by decide) (by decide) (by decide) (by decide) (w1 := (wX a b (va_up (va_up (va_up g 50 (va_cpy (g 63) (g 50) 0 0 6)) 51 (va_cpy (g 64) (g 51) 0 0 6)) 52 (va_cpy (g 65) (g 52) 0 0 5)) tr)) rfl ?_
  exact Ev.vret e_X4_copyFrom rfl rfl rfl
set_option maxRecDepth 20000 in
set_option maxHeartbeats 200000 in
theorem c_cp_44_30 (d a b : Nat) (g : Nat → Nat → Int32) (tr : Int64) : Ev (d + 1) 41 0 [.ref 44, .ref 30] [] (wX a b g tr) none (wX a b (cp3 g 66 50) tr) := by
  refine Ev.sn e_X4_copyFrom 7 (i' := 7) (ls' := [_, _]) (st' := [_, _, _, _, _]) rfl ?_
  refine Ev.copy e_X4_copyFrom rfl rfl rfl rfl rfl (by decide) (by decide) (by decide) (by decide) (by decide) (w1 := (wX a b (va_up g 66 (va_cpy (g 50) (g 66) 0 0 6)) tr)) rfl ?_
  refine Ev.sn e_X4_copyFrom 7 (i' := 15) (ls' := [_, _]) (st' := [_, _, _, _, _]) rfl ?_
  refine Ev.copy e_X4_copyFrom rfl rfl rfl rfl rfl (by decide) (by decide) (by decide) (by decide) (by decide) (w1 := (wX a b (va_up (va_up g 66 (va_cpy (g 50) (g 66) 0 0 6)) 67 (va_cpy (g 51) (g 67) 0 0 6)) tr)) rfl ?_
  refine Ev.sn e_X4_copyFrom 7 (i' := 23) (ls' := [_, _]) (st' := [_, _, _, _, _]) rfl ?_
  refine Ev.copy e_X4_copyFrom rfl rfl rfl rfl rfl (by decide) (by decide) (by decide) (by decide) (by decide) (w1 := (wX a b (va_up (va_up (va_up g 66 (va_cpy (g 50) (g 66) 0 0 6)) 67 (va_cpy (g 51) (g 67) 0 0 6)) 68 (va_cpy (g 52) (g 68) 0 0 5)) tr)) rfl ?_
  exact Ev.vret e_X4_copyFrom rfl rfl rfl
set_option maxRecDepth 20000 in
set_option maxHeartbeats 200000 in
theorem c_cp_30_44 (d a b : Nat) (g : Nat → Nat → Int32) (tr : Int64) : Ev (d + 1) 41 0 [.ref 30, .ref 44] [] (wX a b g tr) none (wX a b (cp3 g 50 66) tr) := by
  refine Ev.sn e_X4_copyFrom 7 (i' := 7) (ls' := [_, _]) (st' := [_, _, _, _, _]) rfl ?_
  refine Ev.copy e_X4_copyFrom rfl rfl rfl rfl rfl (by decide) (by decide) (by decide) (by decide) (by decide) (w1 := (wX a b (va_up g 50 (va_cpy (g 66) (g 50) 0 0 6)) tr)) rfl ?_
  refine Ev.sn e_X4_copyFrom 7 (i' := 15) (ls' := [_, _]) (st' := [_, _, _, _, _]) rfl ?_
  refine Ev.copy e_X4_copyFrom rfl rfl rfl rfl rfl (by decide) (by decide) (by decide) (by decide) (by decide) (w1 := (wX a b (va_up (va_up g 50 (va_cpy (g 66) (g 50) 0 0 6)) 51 (va_cpy (g 67) (g 51) 0 0 6)) tr)) rfl ?_
  refine Ev.sn e_X4_copyFrom 7 (i' := 23) (ls' := [_, _]) (st' := [_, _, _, _, _]) rfl ?_
  refine Ev.copy e_X4_copyFrom rfl rfl rfl rfl rfl (by decide) (by decide) (by decide) (by decide) (by decide) (w1 := (wX a b (va_up (va_up (va_up g 50 (va_cpy (g 66) (g 50) 0 0 6)) 51 (va_cpy (g 67) (g 51) 0 0 6)) 52 (va_cpy (g 68) (g 52) 0 0 5)) tr)) rfl ?_
  exact Ev.vret e_X4_copyFrom rfl rfl rfl
set_option maxRecDepth 20000 in
set_option maxHeartbeats 200000 in
theorem c_cp_48_30 (d a b : Nat) (g : Nat → Nat → Int32) (tr : Int64) : Ev (d + 1) 41 0 [.ref 48, .ref 30] [] (wX a b g tr) none (wX a b (cp3 g 69 50) tr) := by
  refine Ev.sn e_X4_copyFrom 7 (i' := 7) (ls' := [_, _]) (st' := [_, _, _, _, _]) rfl ?_
  refine Ev.copy e_X4_copyFrom rfl rfl rfl rfl rfl (by decide) (by decide) (by decide) (by decide) (by decide) (w1 := (wX a b (va_up g 69 (va_cpy (g 50) (g 69) 0 0 6)) tr)) rfl ?_
  refine Ev.sn e_X4_copyFrom 7 (i' := 15) (ls' := [_, _]) (st' := [_, _, _, _, _]) rfl ?_
  refine Ev.copy e_X4_copyFrom rfl rfl rfl rfl rfl (by decide) (by decide) (by decide) (by decide) (by decide) (w1 := (wX a b (va_up (va_up g 69 (va_cpy (g 50) (g 69) 0 0 6)) 70 (va_cpy (g 51) (g 70) 0 0 6)) tr)) rfl ?_
  refine Ev.sn e_X4_copyFrom 7 (i' := 23) (ls' := [_, _]) (st' := [_, _, _, _, _]) rfl ?_
  refine Ev.copy e_X4_copyFrom rfl rfl rfl rfl rfl (by decide) (by decide) (by decide) (by decide) (by decide) (w1 := (wX a b (va_up (va_up (va_up g 69 (va_cpy (g 50) (g 69) 0 0 6)) 70 (va_cpy (g 51) (g 70) 0 0 6)) 71 (va_cpy (g 52) (g 71) 0 0 5)) tr)) rfl ?_
  exact Ev.vret e_X4_copyFrom rfl rfl rfl
set_option maxRecDepth 20000 in
set_option maxHeartbeats 200000 in
theorem c_cp_30_48 (d a b : Nat) (g : Nat → Nat → Int32) (tr : Int64) : Ev (d + 1) 41 0 [.ref 30, .ref 48] [] (wX a b g tr) none (wX a b (cp3 g 50 69) tr) := by
  refine Ev.sn e_X4_copyFrom 7 (i' := 7) (ls' := [_, _]) (st' := [_, _, _, _, _]) rfl ?_
  refine Ev.copy e_X4_copyFrom rfl rfl rfl rfl rfl (by decide) (by decide) (by decide) (by decide) (by decide) (w1 := (wX a b (va_up g 50 (va_cpy (g 69) (g 50) 0 0 6)) tr)) rfl ?_
  refine Ev.sn e_X4_copyFrom 7 (i' := 15) (ls' := [_, _]) (st' := [_, _, _, _, _]) rfl ?_
  refine Ev.copy e_X4_copyFrom rfl rfl rfl rfl rfl (by decide) (by decide) (by decide) (by decide) (by decide) (w1 := (wX a b (va_up (va_up g 50 (va_cpy (g 69) (g 50) 0 0 6)) 51 (va_cpy (g 70) (g 51) 0 0 6)) tr)) rfl ?_
  refine Ev.sn e_X4_copyFrom 7 (i' := 23) (ls' := [_, _]) (st' := [_, _, _, _, _]) rfl ?_
  refine Ev.copy e_X4_copyFrom rfl rfl rfl rfl rfl (by decide) (by decide) (by decide) (by decide) (by decide) (w1 := (wX a b (va_up (va_up (va_up g 50 (va_cpy (g 69) (g 50) 0 0 6)) 51 (va_cpy (g 70) (g 51) 0 0 6)) 52 (va_cpy (g 71) (g 52) 0 0 5)) tr)) rfl ?_
  exact Ev.vret e_X4_copyFrom rfl rfl rfl
set_option maxRecDepth 20000 in
set_option maxHeartbeats 200000 in
theorem c_cp_52_30 (d a b : Nat) (g : Nat → Nat → Int32) (tr : Int64) : Ev (d + 1) 41 0 [.ref 52, .ref 30] [] (wX a b g tr) none (wX a b (cp3 g 72 50) tr) := by
  refine Ev.sn e_X4_copyFrom 7 (i' := 7) (ls' := [_, _]) (st' := [_, _, _, _, _]) rfl ?_
  refine Ev.copy e_X4_copyFrom rfl rfl rfl rfl rfl (by decide) (by decide) (by decide) (by decide) (by decide) (w1 := (wX a b (va_up g 72 (va_cpy (g 50) (g 72) 0 0 6)) tr)) rfl ?_
  refine Ev.sn e_X4_copyFrom 7 (i' := 15) (ls' := [_, _]) (st' := [_, _, _, _, _]) rfl ?_
  refine Ev.copy e_X4_copyFrom rfl rfl rfl rfl rfl (by decide) (by decide) (by decide) (by decide) (by decide) (w1 := (wX a b (va_up (va_up g 72 (va_cpy (g 50) (g 72) 0 0 6)) 73 (va_cpy (g 51) (g 73) 0 0 6)) tr)) rfl ?_
  refine Ev.sn e_X4_copyFrom 7 (i' := 23) (ls' := [_, _]) (st' := [_, _, _, _, _]) rfl ?_
  refine Ev.copy e_X4_copyFrom rfl rfl rfl rfl rfl (by decide) (by decide) (by decide) (by decide) (by decide) (w1 := (wX a b (va_up (va_up (va_up g 72 (va_cpy (g 50) (g 72) 0 0 6)) 73 (va_cpy (g 51) (g 73) 0 0 6)) 74 (va_cpy (g 52) (g 74) 0 0 5)) tr)) rfl ?_
  exact Ev.vret e_X4_copyFrom rfl rfl rfl
set_option maxRecDepth 20000 in
set_option maxHeartbeats 200000 in
theorem c_cp_30_52 (d a b : Nat) (g : Nat → Nat → Int32) (tr : Int64) : Ev (d + 1) 41 0 [.ref 30, .ref 52] [] (wX a b g tr) none (wX a b (cp3 g 50 72) tr) := by
  refine Ev.sn e_X4_copyFrom 7 (i' := 7) (ls' := [_, _]) (st' := [_, _, _, _, _]) rfl ?_
  refine Ev.copy e_X4_copyFrom rfl rfl rfl rfl rfl (by decide) (by decide) (by decide) (by decide) (by decide) (w1 := (wX a b (va_up g 50 (va_cpy (g 72) (g 50) 0 0 6)) tr)) rfl ?_
  refine Ev.sn e_X4_copyFrom 7 (i' := 15) (ls' := [_, _]) (st' := [_, _, _, _, _]) rfl ?_
  refine Ev.copy e_X4_copyFrom rfl rfl rfl rfl rfl (by decide) (by decide) (by decide) (by decide) (by decide) (w1 := (wX a b (va_up (va_up g 50 (va_cpy (g 72) (g 50) 0 0 6)) 51 (va_cpy (g 73) (g 51) 0 0 6)) tr)) rfl ?_
  refine Ev.sn e_X4_copyFrom 7 (i' := 23) (ls' := [_, _]) (st' := [_, _, _, _, _]) rfl ?_
  refine Ev.copy e_X4_copyFrom rfl rfl rfl rfl rfl (by decide) (by decide) (by decide) (by decide) (by decide) (w1 := (wX a b (va_up (va_up (va_up g 50 (va_cpy (g 72) (g 50) 0 0 6)) 51 (va_cpy (g 73) (g 51) 0 0 6)) 52 (va_cpy (g 74) (g 52) 0 0 5)) tr)) rfl ?_
  exact Ev.vret e_X4_copyFrom rfl rfl rfl
set_option maxRecDepth 20000 in
set_option maxHeartbeats 200000 in
theorem c_cp_56_30 (d a b : Nat) (g : Nat → Nat → Int32) (tr : Int64) : Ev (d + 1) 41 0 [.ref 56, .ref 30] [] (wX a b g tr) none (wX a b (cp3 g 75 50) tr) := by
  refine Ev.sn e_X4_copyFrom 7 (i' := 7) (ls' := [_, _]) (st' := [_, _, _, _, _]) rfl ?_
  refine Ev.copy e_X4_copyFrom rfl rfl rfl rfl rfl (by decide) (by decide) (by decide) (by decide) (by decide) (w1 := (wX a b (va_up g 75 (va_cpy (g 50) (g 75) 0 0 6)) tr)) rfl ?_
  refine Ev.sn e_X4_copyFrom 7 (i' := 15) (ls' := [_, _]) (st' := [_, _, _, _, _]) rfl ?_
  refine Ev.copy e_X4_copyFrom rfl rfl rfl rfl rfl (by decide) (by decide) (by decide) (by decide) (by decide) (w1 := (wX a b (va_up (va_up g 75 (va_cpy (g 50) (g 75) 0 0 6)) 76 (va_cpy (g 51) (g 76) 0 0 6)) tr)) rfl ?_
  refine Ev.sn e_X4_copyFrom 7 (i' := 23) (ls' := [_, _]) (st' := [_, _, _, _, _]) rfl ?_
  refine Ev.copy e_X4_copyFrom rfl rfl rfl rfl rfl (by decide) (by decide) (by decide) (by decide) (by decide) (w1 := (wX a b (va_up (va_up (va_up g 75 (va_cpy (g 50) (g 75) 0 0 6)) 76 (va_cpy (g 51) (g 76) 0 0 6)) 77 (va_cpy (g 52) (g 77) 0 0 5)) tr)) rfl ?_
  exact Ev.vret e_X4_copyFrom rfl rfl rfl
set_option maxRecDepth 20000 in
set_option maxHeartbeats 200000 in
theorem c_cp_30_56 (d a b : Nat) (g : Nat → Nat → Int32) (tr : Int64) : Ev (d + 1) 41 0 [.ref 30, .ref 56] [] (wX a b g tr) none (wX a b (cp3 g 50 75) tr) := by
  refine Ev.sn e_X4_copyFrom 7 (i' := 7) (ls' := [_, _]) (st' := [_, _, _, _, _]) rfl ?_
  refine Ev.copy e_X4_copyFrom rfl rfl rfl rfl rfl (by decide) (by decide) (by decide) (by decide) (by decide) (w1 := (wX a b (va_up g 50 (va_cpy (g 75) (g 50) 0 0 6)) tr)) rfl ?_
  refine Ev.sn e_X4_copyFrom 7 (i' := 15) (ls' := [_, _]) (st' := [_, _, _, _, _]) rfl ?_
  refine Ev.copy e_X4_copyFrom rfl rfl rfl rfl rfl (by decide) (by decide) (by decide) (by decide) (by decide) (w1 := (wX a b (va_up (va_up g 50 (va_cpy (g 75) (g 50) 0 0 6)) 51 (va_cpy (g 76) (g 51) 0 0 6)) tr)) rfl ?_
  refine Ev.sn e_X4_copyFrom 7 (i' := 23) (ls' := [_, _]) (st' := [_, _, _, _, _]) rfl ?_
  refine Ev.copy e_X4_copyFrom rfl rfl rfl rfl rfl (by decide) (by decide) (by decide) (by decide) (by decide) (w1 := (wX a b (va_up (va_up (va_up g 50 (va_cpy (g 75) (g 50) 0 0 6)) 51 (va_cpy (g 76) (g 51) 0 0 6)) 52 (va_cpy (g 77) (g 52) 0 0 5)) tr)) rfl ?_
  exact Ev.vret e_X4_copyFrom rfl rfl rfl
set_option maxRecDepth 20000 in
set_option maxHeartbeats 200000 in
theorem c_cp_60_30 (d a b : Nat) (g : Nat → Nat → Int32) (tr : Int64) : Ev (d + 1) 41 0 [.ref 60, .ref 30] [] (wX a b g tr) none (wX a b (cp3 g 78 50) tr) := by
  refine Ev.sn e_X4_copyFrom 7 (i' := 7) (ls' := [_, _]) (st' := [_, _, _, _, _]) rfl ?_
  refine Ev.copy e_X4_copyFrom rfl rfl rfl rfl rfl (by decide) (by decide) (by decide) (by decide) (by decide) (w1 := (wX a b (va_up g 78 (va_cpy (g 50) (g 78) 0 0 6)) tr)) rfl ?_
  refine Ev.sn e_X4_copyFrom 7 (i' := 15) (ls' := [_, _]) (st' := [_, _, _, _, _]) rfl ?_
  refine Ev.copy e_X4_copyFrom rfl rfl rfl rfl rfl (by decide) (by decide) (by decide) (by decide) (by decide) (w1 := (wX a b (va_up (va_up g 78 (va_cpy (g 50) (g 78) 0 0 6)) 79 (va_cpy (g 51) (g 79) 0 0 6)) tr)) rfl ?_
  refine Ev.sn e_X4_copyFrom 7 (i' := 23) (ls' := [_, _]) (st' := [_, _, _, _, _]) rfl ?_
  refine Ev.copy e_X4_copyFrom rfl rfl rfl rfl rfl (by decide) (by decide) (by decide) (by decide) (by decide) (w1 := (wX a b (va_up (va_up (va_up g 78 (va_cpy (g 50) (g 78) 0 0 6)) 79 (va_cpy (g 51) (g 79) 0 0 6)) 80 (va_cpy (g 52) (g 80) 0 0 5)) tr)) rfl ?_
  exact Ev.vret e_X4_copyFrom rfl rfl rfl
set_option maxRecDepth 20000 in
set_option maxHeartbeats 200000 in
theorem c_cp_30_60 (d a b : Nat) (g : Nat → Nat → Int32) (tr : Int64) : Ev (d + 1) 41 0 [.ref 30, .ref 60] [] (wX a b g tr) none (wX a b (cp3 g 50 78) tr) := by
  refine Ev.sn e_X4_copyFrom 7 (i' := 7) (ls' := [_, _]) (st' := [_, _, _, _, _]) rfl ?_
  refine Ev.copy e_X4_copyFrom rfl rfl rfl rfl rfl (by decide) (by decide) (by decide) (by decide) (by decide) (w1 := (wX a b (va_up g 50 (va_cpy (g 78) (g 50) 0 0 6)) tr)) rfl ?_
  refine Ev.sn e_X4_copyFrom 7 (i' := 15) (ls' := [_, _]) (st' := [_, _, _, _, _]) rfl ?_
  refine Ev.copy e_X4_copyFrom rfl rfl rfl rfl rfl (by decide) (by decide) (by decide) (by decide) (by decide) (w1 := (wX a b (va_up (va_up g 50 (va_cpy (g 78) (g 50) 0 0 6)) 51 (va_cpy (g 79) (g 51) 0 0 6)) tr)) rfl ?_
  refine Ev.sn e_X4_copyFrom 7 (i' := 23) (ls' := [_, _]) (st' := [_, _, _, _, _]) rfl ?_
  refine Ev.copy e_X4_copyFrom rfl rfl rfl rfl rfl (by decide) (by decide) (by decide) (by decide) (by decide) (w1 := (wX a b (va_up (va_up (va_up g 50 (va_cpy (g 78) (g 50) 0 0 6)) 51 (va_cpy (g 79) (g 51) 0 0 6)) 52 (va_cpy (g 80) (g 52) 0 0 5)) tr)) rfl ?_
  exact Ev.vret e_X4_copyFrom rfl rfl rfl
set_option maxRecDepth 20000 in
set_option maxHeartbeats 200000 in
theorem c_cp_64_30 (d a b : Nat) (g : Nat → Nat → Int32) (tr : Int64) : Ev (d + 1) 41 0 [.ref 64, .ref 30] [] (wX a b g tr) none (wX a b (cp3 g 81 50) tr) := by
  refine Ev.sn e_X4_copyFrom 7 (i' := 7) (ls' := [_, _]) (st' := [_, _, _, _, _]) rfl ?_
  refine Ev.copy e_X4_copyFrom rfl rfl rfl rfl rfl (by decide) (by decide) (by decide) (by decide) (by decide) (w1 := (wX a b (va_up g 81 (va_cpy (g 50) (g 81) 0 0 6)) tr)) rfl ?_
  refine Ev.sn e_X4_copyFrom 7 (i' := 15) (ls' := [_, _]) (st' := [_, _, _, _, _]) rfl ?_
  refine Ev.copy e_X4_copyFrom rfl rfl rfl rfl rfl (by decide) (by decide) (by decide) (by decide) (by decide) (w1 := (wX a b (va_up (va_up g 81 (va_cpy (g 50) (g 81) 0 0 6)) 82 (va_cpy (g 51) (g 82) 0 0 6)) tr)) rfl ?_
  refine Ev.sn e_X4_copyFrom 7 (i' := 23) (ls' := [_, _]) (st' := [_, _, _, _, _]) rfl ?_
  refine Ev.copy e_X4_copyFrom rfl rfl rfl rfl rfl (by decide) (by decide) (by decide) (by decide) (by decide) (w1 := (wX a b (va_up (va_up (va_up g 81 (va_cpy (g 50) (g 81) 0 0 6)) 82 (va_cpy (g 51) (g 82) 0 0 6)) 83 (va_cpy (g 52) (g 83) 0 0 5)) tr)) rfl ?_
  exact Ev.vret e_X4_copyFrom rfl rfl rfl
set_option maxRecDepth 20000 in
set_option maxHeartbeats 200000 in
theorem c_cp_30_64 (d a b : Nat) (g : Nat → Nat → Int32) (tr : Int64) : Ev (d + 1) 41 0 [.ref 30, .ref 64] [] (wX a b g tr) none (wX a b (cp3 g 50 81) tr) := by
  refine Ev.sn e_X4_copyFrom 7 (i' := 7) (ls' := [_, _]) (st' := [_, _, _, _, _]) rfl ?_
  refine Ev.copy e_X4_copyFrom rfl rfl rfl rfl rfl (by decide) (by decide) (by decide) (by decide) (by decide) (w1 := (wX a b (va_up g 50 (va_cpy (g 81) (g 50) 0 0 6)) tr)) rfl ?_
  refine Ev.sn e_X4_copyFrom 7 (i' := 15) (ls' := [_, _]) (st' := [_, _, _, _, _]) rfl ?_
  refine Ev.copy e_X4_copyFrom rfl rfl rfl rfl rfl (by decide) (by decide) (by decide) (by decide) (by decide) (w1 := (wX a b (va_up (va_up g 50 (va_cpy (g 81) (g 50) 0 0 6)) 51 (va_cpy (g 82) (g 51) 0 0 6)) tr)) rfl ?_
  refine Ev.sn e_X4_copyFrom 7 (i' := 23) (ls' := [_, _]) (st' := [_, _, _, _, _]) rfl ?_
  refine Ev.copy e_X4_copyFrom rfl rfl rfl rfl rfl (by decide) (by decide) (by decide) (by decide) (by decide) (w1 := (wX a b (va_up (va_up (va_up g 50 (va_cpy (g 81) (g 50) 0 0 6)) 51 (va_cpy (g 82) (g 51) 0 0 6)) 52 (va_cpy (g 83) (g 52) 0 0 5)) tr)) rfl ?_
  exact Ev.vret e_X4_copyFrom rfl rfl rfl
set_option maxRecDepth 20000 in
set_option maxHeartbeats 200000 in
theorem c_cp_68_30 (d a b : Nat) (g : Nat → Nat → Int32) (tr : Int64) : Ev (d + 1) 41 0 [.ref 68, .ref 30] [] (wX a b g tr) none (wX a b (cp3 g 84 50) tr) := by
  refine Ev.sn e_X4_copyFrom 7 (i' := 7) (ls' := [_, _]) (st' := [_, _, _, _, _]) rfl ?_
  refine Ev.copy e_X4_copyFrom rfl rfl rfl rfl rfl (by decide) (by decide) (by decide) (by decide) (by decide) (w1 := (wX a b (va_up g 84 (va_cpy (g 50) (g 84) 0 0 6)) tr)) rfl ?_
  refine Ev.sn e_X4_copyFrom 7 (i' := 15) (ls' := [_, _]) (st' := [_, _, _, _, _]) rfl ?_
  refine Ev.copy e_X4_copyFrom rfl rfl rfl rfl rfl (by decide) (by decide) (by decide) (by decide) (by decide) (w1 := (wX a b (va_up (va_up g 84 (va_cpy (g 50) (g 84) 0 0 6)) 85 (va_cpy (g 51) (g 85) 0 0 6)) tr)) rfl ?_
  refine Ev.sn e_X4_copyFrom 7 (i' := 23) (ls' := [_, _]) (st' := [_, _, _, _, _]) rfl ?_
  refine Ev.copy e_X4_copyFrom rfl rfl rfl rfl rfl (by decide) (by decide) (by decide) (by decide) (by decide) (w1 := (wX a b (va_up (va_up (va_up g 84 (va_cpy (g 50) (g 84) 0 0 6)) 85 (va_cpy (g 51) (g 85) 0 0 6)) 86 (va_cpy (g 52) (g 86) 0 0 5)) tr)) rfl ?_
  exact Ev.vret e_X4_copyFrom rfl rfl rfl
set_option maxRecDepth 20000 in
set_option maxHeartbeats 200000 in
theorem c_cp_30_68 (d a b : Nat) (g : Nat → Nat → Int32) (tr : Int64) : Ev (d + 1) 41 0 [.ref 30, .ref 68] [] (wX a b g tr) none (wX a b (cp3 g 50 84) tr) := by
  refine Ev.sn e_X4_copyFrom 7 (i' := 7) (ls' := [_, _]) (st' := [_, _, _, _, _]) rfl ?_
  refine Ev.copy e_X4_copyFrom rfl rfl rfl rfl rfl (by decide) (by decide) (by decide) (by decide) (by decide) (w1 := (wX a b (va_up g 50 (va_cpy (g 84) (g 50) 0 0 6)) tr)) rfl ?_
  refine Ev.sn e_X4_copyFrom 7 (i' := 15) (ls' := [_, _]) (st' := [_, _, _, _, _]) rfl ?_
  refine Ev.copy e_X4_copyFrom rfl rfl rfl rfl rfl (by decide) (by decide) (by decide) (by decide) (by decide) (w1 := (wX a b (va_up (va_up g 50 (va_cpy (g 84) (g 50) 0 0 6)) 51 (va_cpy (g 85) (g 51) 0 0 6)) tr)) rfl ?_
  refine Ev.sn e_X4_copyFrom 7 (i' := 23) (ls' := [_, _]) (st' := [_, _, _, _, _]) rfl ?_
  refine Ev.copy e_X4_copyFrom rfl rfl rfl rfl rfl (by decide) (by decide) (by decide) (by decide) (by decide) (w1 := (wX a b (va_up (va_up (va_up g 50 (va_cpy (g 84) (g 50) 0 0 6)) 51 (va_cpy (g 85) (g 51) 0 0 6)) 52 (va_cpy (g 86) (g 52) 0 0 5)) tr)) rfl ?_
  exact Ev.vret e_X4_copyFrom rfl rfl rfl
set_option maxRecDepth 20000 in
set_option maxHeartbeats 200000 in
theorem c_cp_72_30 (d a b : Nat) (g : Nat → Nat → Int32) (tr : Int64) : Ev (d + 1) 41 0 [.ref 72, .ref 30] [] (wX a b g tr) none (wX a b (cp3 g 87 50) tr) := by
  refine Ev.sn e_X4_copyFrom 7 (i' := 7) (ls' := [_, _]) (st' := [_, _, _, _, _]) rfl ?_
  refine Ev.copy e_X4_copyFrom rfl rfl rfl rfl rfl (by decide) (by decide) (by decide) (by decide) (by decide) (w1 := (wX a b (va_up g 87 (va_cpy (g 50) (g 87) 0 0 6)) tr)) rfl ?_
  refine Ev.sn e_X4_copyFrom 7 (i' := 15) (ls' := [_, _]) (st' := [_, _, _, _, _]) rfl ?_
  refine Ev.copy e_X4_copyFrom rfl rfl rfl rfl rfl (by decide) (by decide) (by decide) (by decide) (by decide) (w1 := (wX a b (va_up (va_up g 87 (va_cpy (g 50) (g 87) 0 0 6)) 88 (va_cpy (g 51) (g 88) 0 0 6)) tr)) rfl ?_
  refine Ev.sn e_X4_copyFrom 7 (i' := 23) (ls' := [_, _]) (st' := [_, _, _, _, _]) rfl ?_
  refine Ev.copy e_X4_copyFrom rfl rfl rfl rfl rfl (by decide) (by decide) (by decide) (by decide) (by decide) (w1 := (wX a b (va_up (va_up (va_up g 87 (va_cpy (g 50) (g 87) 0 0 6)) 88 (va_cpy (g 51) (g 88) 0 0 6)) 89 (va_cpy (g 52) (g 89) 0 0 5)) tr)) rfl ?_
  exact Ev.vret e_X4_copyFrom rfl rfl rfl
set_option maxRecDepth 20000 in
set_option maxHeartbeats 200000 in
theorem c_cp_30_72 (d a b : Nat) (g : Nat → Nat → Int32) (tr : Int64) : Ev (d + 1) 41 0 [.ref 30, .ref 72] [] (wX a b g tr) none (wX a b (cp3 g 50 87) tr) := by
  refine Ev.sn e_X4_copyFrom 7 (i' := 7) (ls' := [_, _]) (st' := [_, _, _, _, _]) rfl ?_
  refine Ev.copy e_X4_copyFrom rfl rfl rfl rfl rfl (by decide) (by decide) (by decide) (by decide) (by decide) (w1 := (wX a b (va_up g 50 (va_cpy (g 87) (g 50) 0 0 6)) tr)) rfl ?_
  refine Ev.sn e_X4_copyFrom 7 (i' := 15) (ls' := [_, _]) (st' := [_, _, _, _, _]) rfl ?_
  refine Ev.copy e_X4_copyFrom rfl rfl rfl rfl rfl (by decide) (by decide) (by decide) (by decide) (by decide) (w1 := (wX a b (va_up (va_up g 50 (va_cpy (g 87) (g 50) 0 0 6)) 51 (va_cpy (g 88) (g 51) 0 0 6)) tr)) rfl ?_
  refine Ev.sn e_X4_copyFrom 7 (i' := 23) (ls' := [_, _]) (st' := [_, _, _, _, _]) rfl ?_
  refine Ev.copy e_X4_copyFrom rfl rfl rfl rfl rfl (by decide) (by decide) (by decide) (by decide) (by decide) (w1 := (wX a b (va_up (va_up (va_up g 50 (va_cpy (g 87) (g 50) 0 0 6)) 51 (va_cpy (g 88) (g 51) 0 0 6)) 52 (va_cpy (g 89) (g 52) 0 0 5)) tr)) rfl ?_
  exact Ev.vret e_X4_copyFrom rfl rfl rfl
set_option maxRecDepth 20000 in
set_option maxHeartbeats 200000 in
theorem c_cp_87_30 (d a b : Nat) (g : Nat → Nat → Int32) (tr : Int64) : Ev (d + 1) 41 0 [.ref 87, .ref 30] [] (wX a b g tr) none (wX a b (cp3 g 91 50) tr) := by
  refine Ev.sn e_X4_copyFrom 7 (i' := 7) (ls' := [_, _]) (st' := [_, _, _, _, _]) rfl ?_
  refine Ev.copy e_X4_copyFrom rfl rfl rfl rfl rfl (by decide) (by decide) (by decide) (by decide) (by decide) (w1 := (wX a b (va_up g 91 (va_cpy (g 50) (g 91) 0 0 6)) tr)) rfl ?_
  refine Ev.sn e_X4_copyFrom 7 (i' := 15) (ls' := [_, _]) (st' := [_, _, _, _, _]) rfl ?_
  refine Ev.copy e_X4_copyFrom rfl rfl rfl rfl rfl (by decide) (by decide) (by decide) (by decide) (by decide) (w1 := (wX a b (va_up (va_up g 91 (va_cpy (g 50) (g 91) 0 0 6)) 92 (va_cpy (g 51) (g 92) 0 0 6)) tr)) rfl ?_
  refine Ev.sn e_X4_copyFrom 7 (i' := 23) (ls' := [_, _]) (st' := [_, _, _, _, _]) rfl ?_
  refine Ev.copy e_X4_copyFrom rfl rfl rfl rfl rfl (by decide) (by decide) (by decide) (by decide) (by decide) (w1 := (wX a b (va_up (va_up (va_up g 91 (va_cpy (g 50) (g 91) 0 0 6)) 92 (va_cpy (g 51) (g 92) 0 0 6)) 93 (va_cpy (g 52) (g 93) 0 0 5)) tr)) rfl ?_
  exact Ev.vret e_X4_copyFrom rfl rfl rfl
set_option maxRecDepth 20000 in
set_option maxHeartbeats 200000 in
theorem c_cp_30_87 (d a b : Nat) (g : Nat → Nat → Int32) (tr : Int64) : Ev (d + 1) 41 0 [.ref 30, .ref 87] [] (wX a b g tr) none (wX a b (cp3 g 50 91) tr) := by
  refine Ev.sn e_X4_copyFrom 7 (i' := 7) (ls' := [_, _]) (st' := [_, _, _, _, _]) rfl ?_
  refine Ev.copy e_X4_copyFrom rfl rfl rfl rfl rfl (by decide) (by decide) (by decide) (by decide) (by decide) (w1 := (wX a b (va_up g 50 (va_cpy (g 91) (g 50) 0 0 6)) tr)) rfl ?_
  refine Ev.sn e_X4_copyFrom 7 (i' := 15) (ls' := [_, _]) (st' := [_, _, _, _, _]) rfl ?_
  refine Ev.copy e_X4_copyFrom rfl rfl rfl rfl rfl (by decide) (by decide) (by decide) (by decide) (by decide) (w1 := (wX a b (va_up (va_up g 50 (va_cpy (g 91) (g 50) 0 0 6)) 51 (va_cpy (g 92) (g 51) 0 0 6)) tr)) rfl ?_
  refine Ev.sn e_X4_copyFrom 7 (i' := 23) (ls' := [_, _]) (st' := [_, _, _, _, _]) rfl ?_
  refine Ev.copy e_X4_copyFrom rfl rfl rfl rfl rfl (by decide) (by decide) (by decide) (by decide) (by decide) (w1 := (wX a b (va_up (va_up (va_up g 50 (va_cpy (g 91) (g 50) 0 0 6)) 51 (va_cpy (g 92) (g 51) 0 0 6)) 52 (va_cpy (g 93) (g 52) 0 0 5)) tr)) rfl ?_
  exact Ev.vret e_X4_copyFrom rfl rfl rfl
set_option maxRecDepth 20000 in
set_option maxHeartbeats 200000 in
theorem c_cp_91_30 (d a b : Nat) (g : Nat → Nat → Int32) (tr : Int64) : Ev (d + 1) 41 0 [.ref 91, .ref 30] [] (wX a b g tr) none (wX a b (cp3 g 94 50) tr) := by
  refine Ev.sn e_X4_copyFrom 7 (i' := 7) (ls' := [_, _]) (st' := [_, _, _, _, _]) rfl ?_
  refine Ev.copy e_X4_copyFrom rfl rfl rfl rfl rfl (by decide) (by decide) (by decide) (by decide) (by decide) (w1 := (wX a b (va_up g 94 (va_cpy (g 50) (g 94) 0 0 6)) tr)) rfl ?_
  refine Ev.sn e_X4_copyFrom 7 (i' := 15) (ls' := [_, _]) (st' := [_, _, _, _, _]) rfl ?_
  refine Ev.copy e_X4_copyFrom rfl rfl rfl rfl rfl (by decide) (by decide) (by decide) (by decide) (by decide) (w1 := (wX a b (va_up (va_up g 94 (va_cpy (g 50) (g 94) 0 0 6)) 95 (va_cpy (g 51) (g 95) 0 0 6)) tr)) rfl ?_
  refine Ev.sn e_X4_copyFrom 7 (i' := 23) (ls' := [_, _]) (st' := [_, _, _, _, _]) rfl ?_
  refine Ev.copy e_X4_copyFrom rfl rfl rfl rfl rfl (by decide) (by decide) (by decide) (by decide) (by decide) (w1 := (wX a b (va_up (va_up (va_up g 94 (va_cpy (g 50) (g 94) 0 0 6)) 95 (va_cpy (g 51) (g 95) 0 0 6)) 96 (va_cpy (g 52) (g 96) 0 0 5)) tr)) rfl ?_
  exact Ev.vret e_X4_copyFrom rfl rfl rfl
set_option maxRecDepth 20000 in
set_option maxHeartbeats 200000 in
theorem c_cp_30_91 (d a b : Nat) (g : Nat → Nat → Int32) (tr : Int64) : Ev (d + 1) 41 0 [.ref 30, .ref 91] [] (wX a b g tr) none (wX a b (cp3 g 50 94) tr) := by
  refine Ev.sn e_X4_copyFrom 7 (i' := 7) (ls' := [_, _]) (st' := [_, _, _, _, _]) rfl ?_
  refine Ev.copy e_X4_copyFrom rfl rfl rfl rfl rfl (by decide) (by decide) (by decide) (by decide) (by decide) (w1 := (wX a b (va_up g 50 (va_cpy (g 94) (g 50) 0 0 6)) tr)) rfl ?_
  refine Ev.sn e_X4_copyFrom 7 (i' := 15) (ls' := [_, _]) (st' := [_, _, _, _, _]) rfl ?_
  refine Ev.copy e_X4_copyFrom rfl rfl rfl rfl rfl (by decide) (by decide) (by decide) (by decide) (by decide) (w1 := (wX a b (va_up (va_up g 50 (va_cpy (g 94) (g 50) 0 0 6)) 51 (va_cpy (g 95) (g 51) 0 0 6)) tr)) rfl ?_
  refine Ev.sn e_X4_copyFrom 7 (i' := 23) (ls' := [_, _]) (st' := [_, _, _, _, _]) rfl ?_
  refine Ev.copy e_X4_copyFrom rfl rfl rfl rfl rfl (by decide) (by decide) (by decide) (by decide) (by decide) (w1 := (wX a b (va_up (va_up (va_up g 50 (va_cpy (g 94) (g 50) 0 0 6)) 51 (va_cpy (g 95) (g 51) 0 0 6)) 52 (va_cpy (g 96) (g 52) 0 0 5)) tr)) rfl ?_
  exact Ev.vret e_X4_copyFrom rfl rfl rfl
set_option maxRecDepth 20000 in
set_option maxHeartbeats 200000 in
theorem c_X1_size (d : Nat) (g : Nat → Nat → Int32) (tr : Int64) : Ev d 9 0 [.ref 34] [] (wC g tr) (some (.int (g 90 1))) (wC g tr) := by
  refine Ev.sn e_X1_size 2 (i' := 2) (ls' := [_]) (st' := [_]) rfl ?_
  refine Ev.iret e_X1_size rfl rfl rfl ?_ rfl
  rfl
set_option maxRecDepth 20000 in
set_option maxHeartbeats 200000 in
theorem c_X1_loseAll (d a b : Nat) (g : Nat → Nat → Int32) (tr : Int64) : Ev d 10 0 [.ref 34] [] (wX a b g tr) none (wX a b (va_up g 90 (upd (g 90) 1 0)) tr) := by
  refine Ev.sn e_X1_loseAll 2 (i' := 2) (ls' := [_]) (st' := [_, _]) rfl ?_
  refine Ev.put e_X1_loseAll rfl rfl rfl rfl rfl rfl (w1 := (wX a b (va_up g 90 (upd (g 90) 1 0)) tr)) rfl ?_
  exact Ev.vret e_X1_loseAll rfl rfl rfl
def remT (g : Nat → Nat → Int32) (r k : Nat) : Nat → Nat → Int32 := va_up (cp3 g (60 + 3 * r) 50) 90 (upd (g 90) 1 (nI (k + 1)))
set_option maxRecDepth 20000 in
set_option maxHeartbeats 200000 in
theorem lt_X1_remember (d : Nat) (g : Nat → Nat → Int32) (tr : Int64) {o k r : Nat} (ho : g 90 0 = nI o) (hk : g 90 1 = nI k) (ho10 : o < 10) (hk10 : k < 10) (hr : r = (o + k) % 10) : Ev (d + 2) 11 18 [.ref 34, .ref 30] [] (wC g tr) none (wC (remT g r k) tr) := by
  have hrr : (nI o + nI k) - (nI o + nI k) / 10 * 10 = nI r := by
    rw [nI_add, hr]
    exact pk_rem (d := 10) (by omega) (by omega) (by omega)
  have hr10 : r < 10 := by omega
  clear hr
  refine Ev.sn e_X1_remember 8 (i' := 26) (ls' := [_, _]) (st' := [_, _, _]) rfl ?_
  refine Ev.irem e_X1_remember rfl rfl (by decide) ?_
  rw [ho, hk]
  match r, hr10, hrr with
  | 0, _, hrr =>
    refine Ev.aaldE e_X1_remember rfl rfl rfl hrr (by decide) rfl ?_
    refine Ev.sn e_X1_remember 1 (i' := 29) (ls' := [_, _]) (st' := [_, _]) rfl ?_
    refine Ev.clV e_X1_remember rfl rfl (as := [_]) rfl rfl rfl kl_X4_copyFrom rfl rfl rfl (c_cp_36_30 _ _ _ _ _) rfl ?_
    refine Ev.sn e_X1_remember 5 (i' := 35) (ls' := [_, _]) (st' := [_, _]) rfl ?_
    refine Ev.put e_X1_remember rfl rfl rfl rfl rfl rfl (w1 := wC (va_up (cp3 g 60 50) 90 (upd (g 90) 1 (g 90 1 + 1))) tr) rfl ?_
    exact Ev.vret e_X1_remember rfl rfl (by rw [hk, nI_1]; rfl)
  
  | 1, _, hrr =>
    refine Ev.aaldE e_X1_remember rfl rfl rfl hrr (by decide) rfl ?_
    refine Ev.sn e_X1_remember 1 (i' := 29) (ls' := [_, _]) (st' := [_, _]) rfl ?_
    refine Ev.clV e_X1_remember rfl rfl (as := [_]) rfl rfl rfl kl_X4_copyFrom rfl rfl rfl (c_cp_40_30 _ _ _ _ _) rfl ?_
    refine Ev.sn e_X1_remember 5 (i' := 35) (ls' := [_, _]) (st' := [_, _]) rfl ?_
    refine Ev.put e_X1_remember rfl rfl rfl rfl rfl rfl (w1 := wC (va_up (cp3 g 63 50) 90 (upd (g 90) 1 (g 90 1 + 1))) tr) rfl ?_
    exact Ev.vret e_X1_remember rfl rfl (by rw [hk, nI_1]; rfl)
  
  | 2, _, hrr =>
    refine Ev.aaldE e_X1_remember rfl rfl rfl hrr (by decide) rfl ?_
    refine Ev.sn e_X1_remember 1 (i' := 29) (ls' := [_, _]) (st' := [_, _]) rfl ?_
    refine Ev.clV e_X1_remember rfl rfl (as := [_]) rfl rfl rfl kl_X4_copyFrom rfl rfl rfl (c_cp_44_30 _ _ _ _ _) rfl ?_
    refine Ev.sn e_X1_remember 5 (i' := 35) (ls' := [_, _]) (st' := [_, _]) rfl ?_
    refine Ev.put e_X1_remember rfl rfl rfl rfl rfl rfl (w1 := wC (va_up (cp3 g 66 50) 90 (upd (g 90) 1 (g 90 1 + 1))) tr) rfl ?_
    exact Ev.vret e_X1_remember rfl rfl (by rw [hk, nI_1]; rfl)
  
  | 3, _, hrr =>
    refine Ev.aaldE e_X1_remember rfl rfl rfl hrr (by decide) rfl ?_
    refine Ev.sn e_X1_remember 1 (i' := 29) (ls' := [_, _]) (st' := [_, _]) rfl ?_
    refine Ev.clV e_X1_remember rfl rfl (as := [_]) rfl rfl rfl kl_X4_copyFrom rfl rfl rfl (c_cp_48_30 _ _ _ _ _) rfl ?_
    refine Ev.sn e_X1_remember 5 (i' := 35) (ls' := [_, _]) (st' := [_, _]) rfl ?_
    refine Ev.put e_X1_remember rfl rfl rfl rfl rfl rfl (w1 := wC (va_up (cp3 g 69 50) 90 (upd (g 90) 1 (g 90 1 + 1))) tr) rfl ?_
    exact Ev.vret e_X1_remember rfl rfl (by rw [hk, nI_1]; rfl)
  
  | 4, _, hrr =>
    refine Ev.aaldE e_X1_remember rfl rfl rfl hrr (by decide) rfl ?_
    refine Ev.sn e_X1_remember 1 (i' := 29) (ls' := [_, _]) (st' := [_, _]) rfl ?_
    refine Ev.clV e_X1_remember rfl rfl (as := [_]) rfl rfl rfl kl_X4_copyFrom rfl rfl rfl (c_cp_52_30 _ _ _ _ _) rfl ?_
    refine Ev.sn e_X1_remember 5 (i' := 35) (ls' := [_, _]) (st' := [_, _]) rfl ?_
    refine Ev.put e_X1_remember rfl rfl rfl rfl rfl rfl (w1 := wC (va_up (cp3 g 72 50) 90 (upd (g 90) 1 (g 90 1 + 1))) tr) rfl ?_
    exact Ev.vret e_X1_remember rfl rfl (by rw [hk, nI_1]; rfl)
  
  | 5, _, hrr =>
    refine Ev.aaldE e_X1_remember rfl rfl rfl hrr (by decide) rfl ?_
    refine Ev.sn e_X1_remember 1 (i' := 29) (ls' := [_, _]) (st' := [_, _]) rfl ?_
    refine Ev.clV e_X1_remember rfl rfl (as := [_]) rfl rfl rfl kl_X4_copyFrom rfl rfl rfl (c_cp_56_30 _ _ _ _ _) rfl ?_
    refine Ev.sn e_X1_remember 5 (i' := 35) (ls' := [_, _]) (st' := [_, _]) rfl ?_
    refine Ev.put e_X1_remember rfl rfl rfl rfl rfl rfl (w1 := wC (va_up (cp3 g 75 50) 90 (upd (g 90) 1 (g 90 1 + 1))) tr) rfl ?_
    exact Ev.vret e_X1_remember rfl rfl (by rw [hk, nI_1]; rfl)
  
  | 6, _, hrr =>
    refine Ev.aaldE e_X1_remember rfl rfl rfl hrr (by decide) rfl ?_
    refine Ev.sn e_X1_remember 1 (i' := 29) (ls' := [_, _]) (st' := [_, _]) rfl ?_
    refine Ev.clV e_X1_remember rfl rfl (as := [_]) rfl rfl rfl kl_X4_copyFrom rfl rfl rfl (c_cp_60_30 _ _ _ _ _) rfl ?_
    refine Ev.sn e_X1_remember 5 (i' := 35) (ls' := [_, _]) (st' := [_, _]) rfl ?_
    refine Ev.put e_X1_remember rfl rfl rfl rfl rfl rfl (w1 := wC (va_up (cp3 g 78 50) 90 (upd (g 90) 1 (g 90 1 + 1))) tr) rfl ?_
    exact Ev.vret e_X1_remember rfl rfl (by rw [hk, nI_1]; rfl)
  
  | 7, _, hrr =>
    refine Ev.aaldE e_X1_remember rfl rfl rfl hrr (by decide) rfl ?_
    refine Ev.sn e_X1_remember 1 (i' := 29) (ls' := [_, _]) (st' := [_, _]) rfl ?_
    refine Ev.clV e_X1_remember rfl rfl (as := [_]) rfl rfl rfl kl_X4_copyFrom rfl rfl rfl (c_cp_64_30 _ _ _ _ _) rfl ?_
    refine Ev.sn e_X1_remember 5 (i' := 35) (ls' := [_, _]) (st' := [_, _]) rfl ?_
    refine Ev.put e_X1_remember rfl rfl rfl rfl rfl rfl (w1 := wC (va_up (cp3 g 81 50) 90 (upd (g 90) 1 (g 90 1 + 1))) tr) rfl ?_
    exact Ev.vret e_X1_remember rfl rfl (by rw [hk, nI_1]; rfl)
  
  | 8, _, hrr =>
    refine Ev.aaldE e_X1_remember rfl rfl rfl hrr (by decide) rfl ?_
    refine Ev.sn e_X1_remember 1 (i' := 29) (ls' := [_, _]) (st' := [_, _]) rfl ?_
    refine Ev.clV e_X1_remember rfl rfl (as := [_]) rfl rfl rfl kl_X4_copyFrom rfl rfl rfl (c_cp_68_30 _ _ _ _ _) rfl ?_
    refine Ev.sn e_X1_remember 5 (i' := 35) (ls' := [_, _]) (st' := [_, _]) rfl ?_
    refine Ev.put e_X1_remember rfl rfl rfl rfl rfl rfl (w1 := wC (va_up (cp3 g 84 50) 90 (upd (g 90) 1 (g 90 1 + 1))) tr) rfl ?_
    exact Ev.vret e_X1_remember rfl rfl (by rw [hk, nI_1]; rfl)
  
  | 9, _, hrr =>
    refine Ev.aaldE e_X1_remember rfl rfl rfl hrr (by decide) rfl ?_
    refine Ev.sn e_X1_remember 1 (i' := 29) (ls' := [_, _]) (st' := [_, _]) rfl ?_
    refine Ev.clV e_X1_remember rfl rfl (as := [_]) rfl rfl rfl kl_X4_copyFrom rfl rfl rfl (c_cp_72_30 _ _ _ _ _) rfl ?_
    refine Ev.sn e_X1_remember 5 (i' := 35) (ls' := [_, _]) (st' := [_, _]) rfl ?_
    refine Ev.put e_X1_remember rfl rfl rfl rfl rfl rfl (w1 := wC (va_up (cp3 g 87 50) 90 (upd (g 90) 1 (g 90 1 + 1))) tr) rfl ?_
    exact Ev.vret e_X1_remember rfl rfl (by rw [hk, nI_1]; rfl)
/-- what remember does: of o, k (the oldest, how many are held) before it; r the row that is written -/
def RMB (g g' : Nat → Nat → Int32) (o k : Nat) : Prop := ∃ o' k' r, o' < 10 ∧ k' < 10 ∧ r = (o' + k') % 10 ∧ ((k < 10 ∧ o' = o ∧ k' = k) ∨ (k = 10 ∧ o' = (o + 1) % 10 ∧ k' = 9)) ∧ g' 90 0 = nI o' ∧ g' 90 1 = nI (k' + 1) ∧ (∀ x, x ≠ 90 → (x < 60 + 3 * r ∨ 62 + 3 * r < x) → g' x = g x) ∧ (∀ t, t < 6 → g' (60 + 3 * r) t = g 50 t ∧ g' (61 + 3 * r) t = g 51 t) ∧ (∀ p, p < 5 → g' (62 + 3 * r) p = g 52 p)
theorem remT_ok {g : Nat → Nat → Int32} {r k : Nat} (hr : r < 10) : (∀ x, x ≠ 90 → (x < 60 + 3 * r ∨ 62 + 3 * r < x) → remT g r k x = g x) ∧ (∀ t, t < 6 → remT g r k (60 + 3 * r) t = g 50 t ∧ remT g r k (61 + 3 * r) t = g 51 t) ∧ (∀ p, p < 5 → remT g r k (62 + 3 * r) p = g 52 p) ∧ remT g r k 90 0 = g 90 0 ∧ remT g r k 90 1 = nI (k + 1) := by
  unfold remT cp3
  refine ⟨fun x h1 h2 => ?_, fun t ht => ⟨?_, ?_⟩, fun p hp => ?_, ?_, ?_⟩
  · rw [va_up_ne _ _ h1, va_up_ne _ _ (by omega), va_up_ne _ _ (by omega), va_up_ne _ _ (by omega)]
  · rw [va_up_ne _ _ (by omega), va_up_ne _ _ (by omega), va_up_ne _ _ (by omega), va_up_self, pk_cpy_in (by omega) (by omega)]
    simp
  · rw [va_up_ne _ _ (by omega), va_up_ne _ _ (by omega), show 61 + 3 * r = 60 + 3 * r + 1 by omega, va_up_self, pk_cpy_in (by omega) (by omega)]
    simp
  · rw [va_up_ne _ _ (by omega), show 62 + 3 * r = 60 + 3 * r + 2 by omega, va_up_self, pk_cpy_in (by omega) (by omega)]
    simp
  · rw [va_up_self, pk_un (by omega)]
  · rw [va_up_self, pk_us]
set_option maxRecDepth 20000 in
set_option maxHeartbeats 200000 in
theorem c_X1_remember (d : Nat) (g : Nat → Nat → Int32) (tr : Int64) {o k : Nat} (ho : g 90 0 = nI o) (hk : g 90 1 = nI k) (ho10 : o < 10) (hk10 : k ≤ 10) : ∃ g', Ev (d + 2) 11 0 [.ref 34, .ref 30] [] (wC g tr) none (wC g' tr) ∧ RMB g g' o k := by
  by_cases hx : k = 10
  · subst hx
    have e1 : nI o + 1 - (nI o + 1) / 10 * 10 = nI ((o + 1) % 10) := by
      rw [nI_1]
      exact pk_rem (d := 10) (by omega) (by omega) (by omega)
    obtain ⟨g2, hg2⟩ : ∃ g2, g2 = va_up g 90 (upd (upd (g 90) 0 (nI ((o + 1) % 10))) 1 (nI 9)) := ⟨_, rfl⟩
    have a0 : g2 90 0 = nI ((o + 1) % 10) := by rw [hg2]; rfl
    have a1 : g2 90 1 = nI 9 := by rw [hg2]; rfl
    refine ⟨remT g2 (((o + 1) % 10 + 9) % 10) 9, ?_, ?_⟩
    · have tl := lt_X1_remember d g2 tr a0 a1 (by omega) (by omega) rfl
      refine Ev.sn e_X1_remember 3 (i' := 3) (ls' := [_, _]) (st' := [_, _]) rfl ?_
      refine Ev.brT (i1 := 4) (i2 := 18) e_X1_remember rfl rfl (hk) ?_
      refine Ev.sn e_X1_remember 6 (i' := 10) (ls' := [_, _]) (st' := [_, _, _]) rfl ?_
      refine Ev.irem e_X1_remember rfl rfl (by decide) ?_
      refine Ev.put e_X1_remember rfl rfl rfl rfl rfl rfl (w1 := wC (va_up g 90 (upd (g 90) 0 (g 90 0 + 1 - (g 90 0 + 1) / 10 * 10))) tr) rfl ?_
      refine Ev.sn e_X1_remember 5 (i' := 17) (ls' := [_, _]) (st' := [_, _]) rfl ?_
      refine Ev.put e_X1_remember rfl rfl rfl rfl rfl rfl (w1 := wC (va_up g 90 (upd (upd (g 90) 0 (g 90 0 + 1 - (g 90 0 + 1) / 10 * 10)) 1 (g 90 1 - 1))) tr) rfl ?_
      rw [ho, hk, e1, show nI 10 - 1 = nI 9 from nI_pred 9]
      rw [hg2] at tl ⊢
      exact tl
    · obtain ⟨b1, b2, b3, b4, b5⟩ := remT_ok (g := g2) (r := ((o + 1) % 10 + 9) % 10) (k := 9) (by omega)
      have ne : ∀ x, x ≠ 90 → g2 x = g x := fun x h => by rw [hg2]; exact va_up_ne _ _ h
      refine ⟨(o + 1) % 10, 9, _, by omega, by omega, rfl, Or.inr ⟨rfl, rfl, rfl⟩, by rw [b4, a0], b5, fun x h1 h2 => by rw [b1 x h1 h2, ne x h1], fun t ht => ?_, fun p hp => ?_⟩
      · rw [(b2 t ht).1, (b2 t ht).2, ne 50 (by omega), ne 51 (by omega)]
        exact ⟨rfl, rfl⟩
      · rw [b3 p hp, ne 52 (by omega)]
  · refine ⟨remT g ((o + k) % 10) k, ?_, ?_⟩
    · have tl := lt_X1_remember d g tr ho hk ho10 (by omega) rfl
      refine Ev.sn e_X1_remember 3 (i' := 3) (ls' := [_, _]) (st' := [_, _]) rfl ?_
      refine Ev.brF (i1 := 4) (i2 := 18) e_X1_remember rfl rfl ((fun e => hx (by rw [hk] at e; exact (nI_eq (by omega) (by omega)).mp e))) ?_
      exact tl
    · obtain ⟨b1, b2, b3, b4, b5⟩ := remT_ok (g := g) (r := (o + k) % 10) (k := k) (by omega)
      exact ⟨o, k, _, ho10, by omega, rfl, Or.inl ⟨by omega, rfl, rfl⟩, by rw [b4, ho], b5, b1, b2, b3⟩
def resT (g : Nat → Nat → Int32) (r k : Nat) : Nat → Nat → Int32 := cp3 (va_up g 90 (upd (g 90) 1 (nI k))) 50 (60 + 3 * r)
set_option maxRecDepth 20000 in
set_option maxHeartbeats 200000 in
theorem c_X1_restoreLatest (d : Nat) (g : Nat → Nat → Int32) (tr : Int64) {o k r : Nat} (ho : g 90 0 = nI o) (hk : g 90 1 = nI (k + 1)) (ho10 : o < 10) (hk10 : k < 10) (hr : r = (o + k) % 10) : Ev (d + 2) 12 0 [.ref 34, .ref 30] [] (wC g tr) none (wC (resT g r k) tr) := by
  have hrr : (nI o + nI k) - (nI o + nI k) / 10 * 10 = nI r := by
    rw [nI_add, hr]
    exact pk_rem (d := 10) (by omega) (by omega) (by omega)
  have hr10 : r < 10 := by omega
  clear hr
  refine Ev.sn e_X1_restoreLatest 2 (i' := 2) (ls' := [_, _]) (st' := [_]) rfl ?_
  refine Ev.brF (i1 := 21) (i2 := 3) e_X1_restoreLatest rfl rfl ((by rw [hk]; exact nI_nle (by omega) (by omega))) ?_
  refine Ev.sn e_X1_restoreLatest 5 (i' := 8) (ls' := [_, _]) (st' := [_, _]) rfl ?_
  refine Ev.put e_X1_restoreLatest rfl rfl rfl rfl rfl rfl (w1 := wC (va_up g 90 (upd (g 90) 1 (g 90 1 - 1))) tr) rfl ?_
  refine Ev.sn e_X1_restoreLatest 9 (i' := 18) (ls' := [_, _]) (st' := [_, _, _, _]) rfl ?_
  refine Ev.irem e_X1_restoreLatest rfl rfl (by decide) ?_
  rw [show (va_up g 90 (upd (g 90) 1 (g 90 1 - 1))) 90 0 = g 90 0 from rfl, show (va_up g 90 (upd (g 90) 1 (g 90 1 - 1))) 90 1 = g 90 1 - 1 from rfl, hk, ho, nI_pred]
  match r, hr10, hrr with
  | 0, _, hrr =>
    refine Ev.aaldE e_X1_restoreLatest rfl rfl rfl hrr (by decide) rfl ?_
    refine Ev.clV e_X1_restoreLatest rfl rfl (as := [_]) rfl rfl rfl kl_X4_copyFrom rfl rfl rfl (c_cp_30_36 _ _ _ _ _) rfl ?_
    exact Ev.vret e_X1_restoreLatest rfl rfl rfl
  
  | 1, _, hrr =>
    refine Ev.aaldE e_X1_restoreLatest rfl rfl rfl hrr (by decide) rfl ?_
    refine Ev.clV e_X1_restoreLatest rfl rfl (as := [_]) rfl rfl rfl kl_X4_copyFrom rfl rfl rfl (c_cp_30_40 _ _ _ _ _) rfl ?_
    exact Ev.vret e_X1_restoreLatest rfl rfl rfl
  
  | 2, _, hrr =>
    refine Ev.aaldE e_X1_restoreLatest rfl rfl rfl hrr (by decide) rfl ?_
    refine Ev.clV e_X1_restoreLatest rfl rfl (as := [_]) rfl rfl rfl kl_X4_copyFrom rfl rfl rfl (c_cp_30_44 _ _ _ _ _) rfl ?_
    exact Ev.vret e_X1_restoreLatest rfl rfl rfl
  
  | 3, _, hrr =>
    refine Ev.aaldE e_X1_restoreLatest rfl rfl rfl hrr (by decide) rfl ?_
    refine Ev.clV e_X1_restoreLatest rfl rfl (as := [_]) rfl rfl rfl kl_X4_copyFrom rfl rfl rfl (c_cp_30_48 _ _ _ _ _) rfl ?_
    exact Ev.vret e_X1_restoreLatest rfl rfl rfl
  
  | 4, _, hrr =>
    refine Ev.aaldE e_X1_restoreLatest rfl rfl rfl hrr (by decide) rfl ?_
    refine Ev.clV e_X1_restoreLatest rfl rfl (as := [_]) rfl rfl rfl kl_X4_copyFrom rfl rfl rfl (c_cp_30_52 _ _ _ _ _) rfl ?_
    exact Ev.vret e_X1_restoreLatest rfl rfl rfl
  
  | 5, _, hrr =>
    refine Ev.aaldE e_X1_restoreLatest rfl rfl rfl hrr (by decide) rfl ?_
    refine Ev.clV e_X1_restoreLatest rfl rfl (as := [_]) rfl rfl rfl kl_X4_copyFrom rfl rfl rfl (c_cp_30_56 _ _ _ _ _) rfl ?_
    exact Ev.vret e_X1_restoreLatest rfl rfl rfl
  
  | 6, _, hrr =>
    refine Ev.aaldE e_X1_restoreLatest rfl rfl rfl hrr (by decide) rfl ?_
    refine Ev.clV e_X1_restoreLatest rfl rfl (as := [_]) rfl rfl rfl kl_X4_copyFrom rfl rfl rfl (c_cp_30_60 _ _ _ _ _) rfl ?_
    exact Ev.vret e_X1_restoreLatest rfl rfl rfl
  
  | 7, _, hrr =>
    refine Ev.aaldE e_X1_restoreLatest rfl rfl rfl hrr (by decide) rfl ?_
    refine Ev.clV e_X1_restoreLatest rfl rfl (as := [_]) rfl rfl rfl kl_X4_copyFrom rfl rfl rfl (c_cp_30_64 _ _ _ _ _) rfl ?_
    exact Ev.vret e_X1_restoreLatest rfl rfl rfl
  
  | 8, _, hrr =>
    refine Ev.aaldE e_X1_restoreLatest rfl rfl rfl hrr (by decide) rfl ?_
    refine Ev.clV e_X1_restoreLatest rfl rfl (as := [_]) rfl rfl rfl kl_X4_copyFrom rfl rfl rfl (c_cp_30_68 _ _ _ _ _) rfl ?_
    exact Ev.vret e_X1_restoreLatest rfl rfl rfl
  
  | 9, _, hrr =>
    refine Ev.aaldE e_X1_restoreLatest rfl rfl rfl hrr (by decide) rfl ?_
    refine Ev.clV e_X1_restoreLatest rfl rfl (as := [_]) rfl rfl rfl kl_X4_copyFrom rfl rfl rfl (c_cp_30_72 _ _ _ _ _) rfl ?_
    exact Ev.vret e_X1_restoreLatest rfl rfl rfl
def flI (x : Int32) (k p : Nat) (f : Nat → Int32) : Nat → Int32 := fo (fun t f => upd f t x) k p f
set_option maxRecDepth 20000 in
set_option maxHeartbeats 200000 in
theorem lp_J7_fill_53178 (d a b : Nat) (g : Nat → Nat → Int32) (tr : Int64) (x : Int32) : ∀ (kk p : Nat) (f : Nat → Int32), p + kk = 6 → Ev d 187 5 [.ref 31, .int x, .int (nI p), .int (nI 6)] [] (wX a b (va_up g 50 f) tr) none (wX a b (va_up g 50 (flI x kk p f)) tr) := by
  intro kk
  induction kk with
  | zero =>
    intro p f hp
    refine Ev.sn e_J7_fill_53178 2 (i' := 7) (ls' := [_, _, _, _]) (st' := [_, _]) rfl ?_
    refine Ev.brT (i1 := 14) (i2 := 8) e_J7_fill_53178 rfl rfl (ge_t (n := 6) rfl (by omega) (by omega)) ?_
    exact Ev.vret e_J7_fill_53178 rfl rfl rfl
  | succ kk ih =>
    intro p f hp
    refine Ev.sn e_J7_fill_53178 2 (i' := 7) (ls' := [_, _, _, _]) (st' := [_, _]) rfl ?_
    refine Ev.brF (i1 := 14) (i2 := 8) e_J7_fill_53178 rfl rfl (ge_f (n := 6) rfl (by omega) (by omega)) ?_
    refine Ev.sn e_J7_fill_53178 3 (i' := 11) (ls' := [_, _, _, _]) (st' := [_, _, _]) rfl ?_
    refine Ev.iastE e_J7_fill_53178 rfl rfl rfl rfl (by omega) (w1 := (wX a b (va_up g 50 (upd f p x)) tr)) rfl ?_
    refine Ev.sn e_J7_fill_53178 2 (i' := 5) (ls' := [_, _, _, _]) (st' := []) rfl ?_
    rw [nI_1]
    exact ih (p + 1) (upd f p x) (by omega)
set_option maxRecDepth 20000 in
set_option maxHeartbeats 200000 in
theorem c_J7_fill_53178 (d a b : Nat) (g : Nat → Nat → Int32) (tr : Int64) (x : Int32) : Ev d 187 0 [.ref 31, .int x, .null, .null] [] (wX a b g tr) none (wX a b (va_up g 50 (flI x 6 0 (g 50))) tr) := by
  refine Ev.sn e_J7_fill_53178 3 (i' := 3) (ls' := [_, _, _, _]) (st' := [_]) rfl ?_
  refine Ev.alen e_J7_fill_53178 rfl rfl rfl rfl ?_
  refine Ev.sn e_J7_fill_53178 1 (i' := 5) (ls' := [_, _, _, _]) (st' := []) rfl ?_
  refine Ev.wd (w2 := (wX a b (va_up g 50 (g 50)) tr)) rfl ?_
  exact lp_J7_fill_53178 _ _ _ _ _ _ 6 0 (g 50) rfl
def bat (g : Nat → Nat → Int32) : Nat → Nat → Int32 := va_up (va_up (va_up g 50 (flI (-9) 6 0 (g 50))) 51 (va_cpy (g 13) (g 51) 0 0 6)) 52 (va_cpy (g 16) (g 52) 0 0 5)
set_option maxRecDepth 20000 in
set_option maxHeartbeats 200000 in
theorem c_X4_beginAsTold (d a b : Nat) (g : Nat → Nat → Int32) (tr : Int64) : Ev (d + 1) 40 0 [.ref 30, .ref 3] [] (wX a b g tr) none (wX a b (bat g) tr) := by
  refine Ev.sn e_X4_beginAsTold 3 (i' := 3) (ls' := [_, _]) (st' := [_, _]) rfl ?_
  refine Ev.clS e_X4_beginAsTold rfl rfl rfl (as := [_, _]) rfl rfl rfl rfl rfl (c_J7_fill_53178 _ _ _ _ _ _) rfl ?_
  refine Ev.sn e_X4_beginAsTold 7 (i' := 11) (ls' := [_, _]) (st' := [_, _, _, _, _]) rfl ?_
  refine Ev.copy e_X4_beginAsTold rfl rfl rfl rfl rfl (by decide) (by decide) (by decide) (by decide) (by decide) (w1 := (wX a b (va_up (va_up g 50 (flI (-9) 6 0 (g 50))) 51 (va_cpy (g 13) (g 51) 0 0 6)) tr)) rfl ?_
  refine Ev.sn e_X4_beginAsTold 7 (i' := 19) (ls' := [_, _]) (st' := [_, _, _, _, _]) rfl ?_
  refine Ev.copy e_X4_beginAsTold rfl rfl rfl rfl rfl (by decide) (by decide) (by decide) (by decide) (by decide) (w1 := (wX a b (va_up (va_up (va_up g 50 (flI (-9) 6 0 (g 50))) 51 (va_cpy (g 13) (g 51) 0 0 6)) 52 (va_cpy (g 16) (g 52) 0 0 5)) tr)) rfl ?_
  exact Ev.vret e_X4_beginAsTold rfl rfl rfl
end
section
/-! the reference: its questions -/
theorem le_pred {x : Int32} {n : Nat} (hn : n < 2000) : x ≤ nI n - 1 ↔ x < nI n := by
  rw [Int32.le_iff_toInt_le, Int32.lt_iff_toInt_lt, nI_toInt (by omega)]
  have h : (nI n - 1).toInt = (n : Int) - 1 := pk_sub_toInt (b := 1) (by omega) (by omega)
  rw [h]
  omega
theorem z_add (x : Int32) : 0 + x = x := Int32.zero_add x
theorem own_R {g : Nat → Nat → Int32} {n q dn t p : Nat} (hc : RI n q dn g) (ht : t < n) (hp : p < 2000) : vR n q dn g 12 t = nI p ↔ g 7 t = nI p + 1 := by
  have hv : vR n q dn g 12 t = if g 7 t = 0 then -9 else g 7 t - 1 := cut_lt (f := fun t => if g 7 t = 0 then -9 else g 7 t - 1) ht
  rw [hv]
  constructor
  · intro h
    split at h
    · have h2 := congrArg Int32.toInt h
      rw [nI_toInt (by omega)] at h2
      have h3 : (-9 : Int32).toInt = -9 := by decide
      omega
    · rw [← h, Int32.sub_add_cancel]
  · intro h
    rw [if_neg, h, Int32.add_sub_cancel]
    intro e
    rw [h, nI_1] at e
    exact nI_ne0 (n := p + 1) (by omega) (by omega) e
theorem own_cases {g : Nat → Nat → Int32} {n q dn t : Nat} (hc : RI n q dn g) (ht : t < n) : (g 7 t = 0 ∧ vR n q dn g 12 t = -9) ∨ ∃ p, p < q ∧ g 7 t = nI (p + 1) ∧ vR n q dn g 12 t = nI p := by
  have hv : vR n q dn g 12 t = if g 7 t = 0 then -9 else g 7 t - 1 := cut_lt (f := fun t => if g 7 t = 0 then -9 else g 7 t - 1) ht
  have hb := hc.b
  rcases hc.o t ht with h | ⟨p, h1, h2⟩
  · exact Or.inl ⟨h, by rw [hv, if_pos h]⟩
  · exact Or.inr ⟨p, h1, h2, by rw [hv, if_neg (by rw [h2]; exact nI_ne0 (by omega) (by omega)), h2, nI_pred]⟩
set_option maxRecDepth 20000 in
set_option maxHeartbeats 200000 in
theorem c_X9_in (d : Nat) (w : AW) (x a b : Int32) : Ev d 120 0 [.int x, .int a, .int b] [] w (some (.int (bI (decide (a ≤ x) && decide (x ≤ b))))) w := by
  refine Ev.sn e_X9_in 2 (i' := 2) (ls' := [_, _, _]) (st' := [_, _]) rfl ?_
  refine Ev.br (i1 := 8) (i2 := 3) e_X9_in rfl rfl (fun h0 => ?_) (fun h0 => ?_)
  · refine Ev.sn e_X9_in 1 (i' := 9) (ls' := [_, _, _]) (st' := [_]) rfl ?_
    refine Ev.iret e_X9_in rfl rfl rfl ?_ rfl
    simp [bI, Int32.not_le.mpr h0]
  · refine Ev.sn e_X9_in 2 (i' := 5) (ls' := [_, _, _]) (st' := [_, _]) rfl ?_
    refine Ev.br (i1 := 8) (i2 := 6) e_X9_in rfl rfl (fun h1 => ?_) (fun h1 => ?_)
    · refine Ev.sn e_X9_in 1 (i' := 9) (ls' := [_, _, _]) (st' := [_]) rfl ?_
      refine Ev.iret e_X9_in rfl rfl rfl ?_ rfl
      simp [bI, Int32.not_le.mpr h1]
    · refine Ev.sn e_X9_in 2 (i' := 9) (ls' := [_, _, _]) (st' := [_]) rfl ?_
      refine Ev.iret e_X9_in rfl rfl rfl ?_ rfl
      simp [bI, Int32.not_lt.mp h0, Int32.not_lt.mp h1]
def ONE (x : Int32) : Int32 := fo (fun k a => a + (x >>> (nI k &&& 31) &&& 1)) 6 0 0
set_option maxRecDepth 20000 in
set_option maxHeartbeats 200000 in
theorem lp_X9_ones (d : Nat) (w : AW) (x : Int32) : ∀ (kk p : Nat) (a : Int32), p + kk = 6 → Ev d 121 4 [.int x, .int a, .int (nI p)] [] w (some (.int (fo (fun k a => a + (x >>> (nI k &&& 31) &&& 1)) kk p a))) w := by
  intro kk
  induction kk with
  | zero =>
    intro p a hp
    refine Ev.sn e_X9_ones 2 (i' := 6) (ls' := [_, _, _]) (st' := [_, _]) rfl ?_
    refine Ev.brT (i1 := 17) (i2 := 7) e_X9_ones rfl rfl (ge_t (n := 6) rfl (by omega) (by omega)) ?_
    refine Ev.sn e_X9_ones 1 (i' := 18) (ls' := [_, _, _]) (st' := [_]) rfl ?_
    refine Ev.iret e_X9_ones rfl rfl rfl ?_ rfl
    rfl
  | succ kk ih =>
    intro p a hp
    rw [fo_s (k := kk)]
    refine Ev.sn e_X9_ones 2 (i' := 6) (ls' := [_, _, _]) (st' := [_, _]) rfl ?_
    refine Ev.brF (i1 := 17) (i2 := 7) e_X9_ones rfl rfl (ge_f (n := 6) rfl (by omega) (by omega)) ?_
    refine Ev.sn e_X9_ones 10 (i' := 4) (ls' := [_, _, _]) (st' := []) rfl ?_
    refine id (Ev.cg (ih (p + 1) ((fun k a => a + (x >>> (nI k &&& 31) &&& 1)) p a) (by omega)) ?_)
    simp [nI_1]
set_option maxRecDepth 20000 in
set_option maxHeartbeats 200000 in
theorem c_X9_ones (d : Nat) (w : AW) (x : Int32) : Ev d 121 0 [.int x, .null, .null] [] w (some (.int (ONE x))) w := by
  refine Ev.sn e_X9_ones 4 (i' := 4) (ls' := [_, _, _]) (st' := []) rfl ?_
  exact lp_X9_ones _ _ _ 6 0 0 rfl
set_option maxRecDepth 20000 in
set_option maxHeartbeats 200000 in
theorem c_X9_isThingThere (d : Nat) (g : Nat → Nat → Int32) (tr : Int64) {n q dn : Nat} (hc : RI n q dn g) (t : Int32) : Ev (d + 1) 133 0 [.ref 0, .int t] [] (wR g tr) (some (.int (bI (decide (0 ≤ t) && decide (t < nI n))))) (wR g tr) := by
  have hb := hc.b
  refine Ev.sn e_X9_isThingThere 5 (i' := 5) (ls' := [_, _]) (st' := [_, _, _, _]) rfl ?_
  refine Ev.ialdE e_X9_isThingThere rfl rfl rfl rfl (m := 0) rfl (by decide) ?_
  refine Ev.sn e_X9_isThingThere 2 (i' := 8) (ls' := [_, _]) (st' := [_, _, _]) rfl ?_
  refine Ev.clS e_X9_isThingThere rfl rfl rfl (as := [_, _, _]) rfl rfl rfl rfl rfl (c_X9_in _ _ _ _ _) rfl ?_
  refine Ev.iret e_X9_isThingThere rfl rfl bI_nar ?_ rfl
  rw [hc.hn, decide_eq_decide.mpr (le_pred (x := t) (n := n) (by omega))]
set_option maxRecDepth 20000 in
set_option maxHeartbeats 200000 in
theorem c_X9_isPerson (d : Nat) (g : Nat → Nat → Int32) (tr : Int64) {n q dn : Nat} (hc : RI n q dn g) (t : Int32) : Ev (d + 1) 134 0 [.ref 0, .int t] [] (wR g tr) (some (.int (bI (decide (0 ≤ t) && decide (t < nI q))))) (wR g tr) := by
  have hb := hc.b
  refine Ev.sn e_X9_isPerson 5 (i' := 5) (ls' := [_, _]) (st' := [_, _, _, _]) rfl ?_
  refine Ev.ialdE e_X9_isPerson rfl rfl rfl rfl (m := 1) rfl (by decide) ?_
  refine Ev.sn e_X9_isPerson 2 (i' := 8) (ls' := [_, _]) (st' := [_, _, _]) rfl ?_
  refine Ev.clS e_X9_isPerson rfl rfl rfl (as := [_, _, _]) rfl rfl rfl rfl rfl (c_X9_in _ _ _ _ _) rfl ?_
  refine Ev.iret e_X9_isPerson rfl rfl bI_nar ?_ rfl
  rw [hc.hq, decide_eq_decide.mpr (le_pred (x := t) (n := q) (by omega))]
set_option maxRecDepth 20000 in
set_option maxHeartbeats 200000 in
theorem c_X9_useOf (d : Nat) (g : Nat → Nat → Int32) (tr : Int64) {n q dn : Nat} (hc : RI n q dn g) {t : Nat} (ht : t < n) : Ev d 135 0 [.ref 0, .int (nI t)] [] (wR g tr) (some (.int ((vR n q dn g) 0 t))) (wR g tr) := by
  have hb := hc.b
  refine Ev.sn e_X9_useOf 5 (i' := 5) (ls' := [_, _]) (st' := [_, _]) rfl ?_
  refine Ev.ialdE e_X9_useOf rfl rfl rfl rfl (pk_mul 4 t) (by omega) ?_
  refine Ev.iret e_X9_useOf rfl rfl rfl ?_ rfl
  exact (cut_lt (f := fun t => g 3 (4 * t)) ht).symm
set_option maxRecDepth 20000 in
set_option maxHeartbeats 200000 in
theorem fitB_R {n q dn : Nat} {g : Nat → Nat → Int32} {t u : Nat} (ht : t < n) (hu : u < 3) (e : g 3 (4 * t) = nI u) (its sc size : Int32) : fitB (vR n q dn g) t its sc size = (decide (g 6 (2 * u) * (size * its) ≤ 20 * g 3 (4 * t + 2) * sc) && decide (20 * g 3 (4 * t + 2) * sc ≤ g 6 (2 * u + 1) * (size * its))) := by
  have e0 : (vR n q dn g) 0 t = g 3 (4 * t) := cut_lt (f := fun t => g 3 (4 * t)) ht
  have e1 : ux (vR n q dn g) t = u := by
    show ((vR n q dn g) 0 t).toNatClampNeg = u
    rw [e0, e]
    exact nI_clamp (by omega)
  have e2 : (vR n q dn g) 6 u = g 6 (2 * u) := cut_lt (f := fun t => g 6 (2 * t)) hu
  have e3 : (vR n q dn g) 7 u = g 6 (2 * u + 1) := cut_lt (f := fun t => g 6 (2 * t + 1)) hu
  have e4 : (vR n q dn g) 2 t = g 3 (4 * t + 2) := cut_lt (f := fun t => g 3 (4 * t + 2)) ht
  unfold fitB
  rw [e1, e2, e3, e4]
set_option maxRecDepth 20000 in
set_option maxHeartbeats 200000 in
theorem c_X9_fits (d : Nat) (g : Nat → Nat → Int32) (tr : Int64) {n q dn : Nat} (hc : RI n q dn g) {t : Nat} (ht : t < n) (its sc size : Int32) : Ev (d + 1) 136 0 [.ref 0, .int (nI t), .int its, .int sc, .int size, .null, .null] [] (wR g tr) (some (.int (bI (fitB (vR n q dn g) t its sc size)))) (wR g tr) := by
  have hb := hc.b
  obtain ⟨u, hu, e⟩ := hc.use ht
  have eu : (vR n q dn g) 0 t = nI u := (cut_lt (f := fun t => g 3 (4 * t)) ht).trans e
  rw [fitB_R ht hu e]
  refine Ev.sn e_X9_fits 8 (i' := 8) (ls' := [_, _, _, _, _, _, _]) (st' := [_, _, _]) rfl ?_
  refine Ev.ialdE e_X9_fits rfl rfl rfl rfl (ixm 4 2 t) (by omega) ?_
  refine Ev.sn e_X9_fits 14 (i' := 23) (ls' := [_, _, _, _, _, _, _]) (st' := [_, _, _, _, _]) rfl ?_
  refine Ev.clV e_X9_fits rfl rfl (as := [_]) rfl rfl rfl kl_X9_useOf rfl rfl rfl (c_X9_useOf _ _ _ hc ht) rfl ?_
  refine Ev.sn e_X9_fits 1 (i' := 25) (ls' := [_, _, _, _, _, _, _]) (st' := [_, _, _]) rfl ?_
  refine Ev.ialdE e_X9_fits rfl rfl rfl rfl (by rw [eu]; exact pk_mul 2 u) (by omega) ?_
  refine Ev.sn e_X9_fits 2 (i' := 28) (ls' := [_, _, _, _, _, _, _]) (st' := [_, _]) rfl ?_
  refine Ev.br (i1 := 45) (i2 := 29) e_X9_fits rfl rfl (fun h0 => ?_) (fun h0 => ?_)
  · refine Ev.sn e_X9_fits 1 (i' := 46) (ls' := [_, _, _, _, _, _, _]) (st' := [_]) rfl ?_
    refine Ev.iret e_X9_fits rfl rfl rfl ?_ rfl
    simp [bI, Int32.not_le.mpr h0]
  · refine Ev.sn e_X9_fits 6 (i' := 35) (ls' := [_, _, _, _, _, _, _]) (st' := [_, _, _, _, _]) rfl ?_
    refine Ev.clV e_X9_fits rfl rfl (as := [_]) rfl rfl rfl kl_X9_useOf rfl rfl rfl (c_X9_useOf _ _ _ hc ht) rfl ?_
    refine Ev.sn e_X9_fits 3 (i' := 39) (ls' := [_, _, _, _, _, _, _]) (st' := [_, _, _]) rfl ?_
    refine Ev.ialdE e_X9_fits rfl rfl rfl rfl (by rw [eu]; exact ixm 2 1 u) (by omega) ?_
    refine Ev.sn e_X9_fits 2 (i' := 42) (ls' := [_, _, _, _, _, _, _]) (st' := [_, _]) rfl ?_
    refine Ev.br (i1 := 45) (i2 := 43) e_X9_fits rfl rfl (fun h1 => ?_) (fun h1 => ?_)
    · refine Ev.sn e_X9_fits 1 (i' := 46) (ls' := [_, _, _, _, _, _, _]) (st' := [_]) rfl ?_
      refine Ev.iret e_X9_fits rfl rfl rfl ?_ rfl
      simp [bI, Int32.not_le.mpr h1]
    · refine Ev.sn e_X9_fits 2 (i' := 46) (ls' := [_, _, _, _, _, _, _]) (st' := [_]) rfl ?_
      refine Ev.iret e_X9_fits rfl rfl rfl ?_ rfl
      simp [bI, Int32.not_lt.mp h0, Int32.not_lt.mp h1]
set_option maxRecDepth 20000 in
set_option maxHeartbeats 200000 in
theorem c_X9_isFit (d : Nat) (g : Nat → Nat → Int32) (tr : Int64) {n q dn : Nat} (hc : RI n q dn g) {t p : Nat} (ht : t < n) (hp : p < q) : Ev (d + 2) 137 0 [.ref 0, .int (nI t), .int (nI p)] [] (wR g tr) (some (.int (bI (fpB (vR n q dn g) t p)))) (wR g tr) := by
  have hb := hc.b
  have v1 : (vR n q dn g) 1 t = g 7 (6 + t) := cut_lt (f := fun t => g 7 (6 + t)) ht
  have v4 : (vR n q dn g) 4 p = g 7 (12 + p) := cut_lt (f := fun t => g 7 (12 + t)) hp
  have v5 : (vR n q dn g) 5 p = g 4 (2 * p + 1) := cut_lt (f := fun t => g 4 (2 * t + 1)) hp
  rw [show fpB (vR n q dn g) t p = fitB (vR n q dn g) t (g 7 (6 + t)) (g 7 (12 + p)) (g 4 (2 * p + 1)) by rw [← v1, ← v4, ← v5]; rfl]
  refine Ev.sn e_X9_isFit 7 (i' := 7) (ls' := [_, _, _]) (st' := [_, _, _, _]) rfl ?_
  refine Ev.ialdE e_X9_isFit rfl rfl rfl rfl (nI_add 6 t) (by omega) ?_
  refine Ev.sn e_X9_isFit 5 (i' := 13) (ls' := [_, _, _]) (st' := [_, _, _, _, _]) rfl ?_
  refine Ev.ialdE e_X9_isFit rfl rfl rfl rfl (nI_add 12 p) (by omega) ?_
  refine Ev.sn e_X9_isFit 7 (i' := 21) (ls' := [_, _, _]) (st' := [_, _, _, _, _, _]) rfl ?_
  refine Ev.ialdE e_X9_isFit rfl rfl rfl rfl (ixm 2 1 p) (by omega) ?_
  refine Ev.clV e_X9_isFit rfl rfl (as := [_, _, _, _]) rfl rfl rfl kl_X9_fits rfl rfl rfl (c_X9_fits _ _ _ hc ht _ _ _) rfl ?_
  refine Ev.iret e_X9_isFit rfl rfl bI_nar ?_ rfl
  rfl
set_option maxRecDepth 20000 in
set_option maxHeartbeats 200000 in
theorem lp_X9_fitsOf (d : Nat) (g : Nat → Nat → Int32) (tr : Int64) {n q dn : Nat} (hc : RI n q dn g) {t : Nat} (ht : t < n) : ∀ (kk p : Nat) (a : Int32), p + kk = q → Ev (d + 3) 138 4 [.ref 0, .int (nI t), .int a, .int (nI p)] [] (wR g tr) (some (.int (fo (fun p a => if fpB (vR n q dn g) t p = true then a ||| bitI p else a) kk p a))) (wR g tr) := by
  intro kk
  induction kk with
  | zero =>
    intro p a hp
    have hb := hc.b
    refine Ev.sn e_X9_fitsOf 4 (i' := 8) (ls' := [_, _, _, _]) (st' := [_, _, _]) rfl ?_
    refine Ev.ialdE e_X9_fitsOf rfl rfl rfl rfl (m := 1) rfl (by decide) ?_
    refine Ev.brT (i1 := 25) (i2 := 10) e_X9_fitsOf rfl rfl (ge_t hc.hq (by omega) (by omega)) ?_
    refine Ev.sn e_X9_fitsOf 1 (i' := 26) (ls' := [_, _, _, _]) (st' := [_]) rfl ?_
    refine Ev.iret e_X9_fitsOf rfl rfl rfl ?_ rfl
    rfl
  | succ kk ih =>
    intro p a hp
    rw [fo_s (k := kk)]
    have hb := hc.b
    refine Ev.sn e_X9_fitsOf 4 (i' := 8) (ls' := [_, _, _, _]) (st' := [_, _, _]) rfl ?_
    refine Ev.ialdE e_X9_fitsOf rfl rfl rfl rfl (m := 1) rfl (by decide) ?_
    refine Ev.brF (i1 := 25) (i2 := 10) e_X9_fitsOf rfl rfl (ge_f hc.hq (by omega) (by omega)) ?_
    refine Ev.sn e_X9_fitsOf 4 (i' := 14) (ls' := [_, _, _, _]) (st' := [_, _, _, _]) rfl ?_
    refine Ev.clV e_X9_fitsOf rfl rfl (as := [_, _]) rfl rfl rfl kl_X9_isFit rfl rfl rfl (c_X9_isFit _ _ _ hc ht (by omega)) rfl ?_
    refine Ev.brB (i1 := 20) (i2 := 16) e_X9_fitsOf rfl rfl (fun h0 => ?_) (fun h0 => ?_)
    · refine Ev.sn e_X9_fitsOf 5 (i' := 4) (ls' := [_, _, _, _]) (st' := []) rfl ?_
      refine id (Ev.cg (ih (p + 1) ((fun p a => if fpB (vR n q dn g) t p = true then a ||| bitI p else a) p a) (by omega)) ?_)
      simp [nI_1, bitI, h0]
    · refine Ev.sn e_X9_fitsOf 8 (i' := 4) (ls' := [_, _, _, _]) (st' := []) rfl ?_
      refine id (Ev.cg (ih (p + 1) ((fun p a => if fpB (vR n q dn g) t p = true then a ||| bitI p else a) p a) (by omega)) ?_)
      simp [nI_1, bitI, h0]
set_option maxRecDepth 20000 in
set_option maxHeartbeats 200000 in
theorem c_X9_fitsOf (d : Nat) (g : Nat → Nat → Int32) (tr : Int64) {n q dn : Nat} (hc : RI n q dn g) {t : Nat} (ht : t < n) : Ev (d + 3) 138 0 [.ref 0, .int (nI t), .null, .null] [] (wR g tr) (some (.int (PIF q (vR n q dn g) t))) (wR g tr) := by
  have hb := hc.b
  refine Ev.sn e_X9_fitsOf 4 (i' := 4) (ls' := [_, _, _, _]) (st' := []) rfl ?_
  exact lp_X9_fitsOf _ _ _ hc ht q 0 0 (by omega)
set_option maxRecDepth 20000 in
set_option maxHeartbeats 200000 in
theorem lp_X9_useless (d : Nat) (g : Nat → Nat → Int32) (tr : Int64) {n q dn : Nat} (hc : RI n q dn g) : ∀ (kk p : Nat) (a : Int32), p + kk = n → Ev (d + 4) 145 4 [.ref 0, .int a, .int (nI p)] [] (wR g tr) (some (.int (fo (fun t a => if PIF q (vR n q dn g) t = 0 then a ||| bitI t else a) kk p a))) (wR g tr) := by
  intro kk
  induction kk with
  | zero =>
    intro p a hp
    have hb := hc.b
    refine Ev.sn e_X9_useless 4 (i' := 8) (ls' := [_, _, _]) (st' := [_, _, _]) rfl ?_
    refine Ev.ialdE e_X9_useless rfl rfl rfl rfl (m := 0) rfl (by decide) ?_
    refine Ev.brT (i1 := 24) (i2 := 10) e_X9_useless rfl rfl (ge_t hc.hn (by omega) (by omega)) ?_
    refine Ev.sn e_X9_useless 1 (i' := 25) (ls' := [_, _, _]) (st' := [_]) rfl ?_
    refine Ev.iret e_X9_useless rfl rfl rfl ?_ rfl
    rfl
  | succ kk ih =>
    intro p a hp
    rw [fo_s (k := kk)]
    have hb := hc.b
    refine Ev.sn e_X9_useless 4 (i' := 8) (ls' := [_, _, _]) (st' := [_, _, _]) rfl ?_
    refine Ev.ialdE e_X9_useless rfl rfl rfl rfl (m := 0) rfl (by decide) ?_
    refine Ev.brF (i1 := 24) (i2 := 10) e_X9_useless rfl rfl (ge_f hc.hn (by omega) (by omega)) ?_
    refine Ev.sn e_X9_useless 3 (i' := 13) (ls' := [_, _, _]) (st' := [_, _, _]) rfl ?_
    refine Ev.clV e_X9_useless rfl rfl (as := [_]) rfl rfl rfl kl_X9_fitsOf rfl rfl rfl (c_X9_fitsOf _ _ _ hc (by omega)) rfl ?_
    refine Ev.br (i1 := 15) (i2 := 19) e_X9_useless rfl rfl (fun h0 => ?_) (fun h0 => ?_)
    · refine Ev.sn e_X9_useless 8 (i' := 4) (ls' := [_, _, _]) (st' := []) rfl ?_
      refine id (Ev.cg (ih (p + 1) ((fun t a => if PIF q (vR n q dn g) t = 0 then a ||| bitI t else a) p a) (by omega)) ?_)
      simp [nI_1, bitI, h0]
    · refine Ev.sn e_X9_useless 5 (i' := 4) (ls' := [_, _, _]) (st' := []) rfl ?_
      refine id (Ev.cg (ih (p + 1) ((fun t a => if PIF q (vR n q dn g) t = 0 then a ||| bitI t else a) p a) (by omega)) ?_)
      simp [nI_1, bitI, h0]
set_option maxRecDepth 20000 in
set_option maxHeartbeats 200000 in
theorem c_X9_useless (d : Nat) (g : Nat → Nat → Int32) (tr : Int64) {n q dn : Nat} (hc : RI n q dn g) : Ev (d + 4) 145 0 [.ref 0, .null, .null] [] (wR g tr) (some (.int (ULS n q (vR n q dn g)))) (wR g tr) := by
  have hb := hc.b
  refine Ev.sn e_X9_useless 4 (i' := 4) (ls' := [_, _, _]) (st' := []) rfl ?_
  exact lp_X9_useless _ _ _ hc n 0 0 (by omega)
set_option maxRecDepth 20000 in
set_option maxHeartbeats 200000 in
theorem lp_X9_bare (d : Nat) (g : Nat → Nat → Int32) (tr : Int64) {n q dn : Nat} (hc : RI n q dn g) (u : Int32) : ∀ (kk p : Nat) (a : Int32), p + kk = n → Ev (d + 4) 146 11 [.ref 0, .int u, .int a, .int (nI p)] [] (wR g tr) (some (.int (fo (fun t a => if (vR n q dn g) 0 t = u then a &&& (PIF q (vR n q dn g) t ^^^ (-1)) else a) kk p a))) (wR g tr) := by
  intro kk
  induction kk with
  | zero =>
    intro p a hp
    have hb := hc.b
    refine Ev.sn e_X9_bare 4 (i' := 15) (ls' := [_, _, _, _]) (st' := [_, _, _]) rfl ?_
    refine Ev.ialdE e_X9_bare rfl rfl rfl rfl (m := 0) rfl (by decide) ?_
    refine Ev.brT (i1 := 34) (i2 := 17) e_X9_bare rfl rfl (ge_t hc.hn (by omega) (by omega)) ?_
    refine Ev.sn e_X9_bare 1 (i' := 35) (ls' := [_, _, _, _]) (st' := [_]) rfl ?_
    refine Ev.iret e_X9_bare rfl rfl rfl ?_ rfl
    rfl
  | succ kk ih =>
    intro p a hp
    rw [fo_s (k := kk)]
    have hb := hc.b
    refine Ev.sn e_X9_bare 4 (i' := 15) (ls' := [_, _, _, _]) (st' := [_, _, _]) rfl ?_
    refine Ev.ialdE e_X9_bare rfl rfl rfl rfl (m := 0) rfl (by decide) ?_
    refine Ev.brF (i1 := 34) (i2 := 17) e_X9_bare rfl rfl (ge_f hc.hn (by omega) (by omega)) ?_
    refine Ev.sn e_X9_bare 3 (i' := 20) (ls' := [_, _, _, _]) (st' := [_, _, _]) rfl ?_
    refine Ev.clV e_X9_bare rfl rfl (as := [_]) rfl rfl rfl kl_X9_useOf rfl rfl rfl (c_X9_useOf _ _ _ hc (by omega)) rfl ?_
    refine Ev.sn e_X9_bare 1 (i' := 22) (ls' := [_, _, _, _]) (st' := [_, _, _]) rfl ?_
    refine Ev.br (i1 := 23) (i2 := 29) e_X9_bare rfl rfl (fun h0 => ?_) (fun h0 => ?_)
    · refine Ev.sn e_X9_bare 2 (i' := 25) (ls' := [_, _, _, _]) (st' := [_, _, _]) rfl ?_
      refine Ev.clV e_X9_bare rfl rfl (as := [_]) rfl rfl rfl kl_X9_fitsOf rfl rfl rfl (c_X9_fitsOf _ _ _ hc (by omega)) rfl ?_
      refine Ev.sn e_X9_bare 7 (i' := 11) (ls' := [_, _, _, _]) (st' := []) rfl ?_
      refine id (Ev.cg (ih (p + 1) ((fun t a => if (vR n q dn g) 0 t = u then a &&& (PIF q (vR n q dn g) t ^^^ (-1)) else a) p a) (by omega)) ?_)
      simp [nI_1, h0]
    · refine Ev.sn e_X9_bare 5 (i' := 11) (ls' := [_, _, _, _]) (st' := []) rfl ?_
      refine id (Ev.cg (ih (p + 1) ((fun t a => if (vR n q dn g) 0 t = u then a &&& (PIF q (vR n q dn g) t ^^^ (-1)) else a) p a) (by omega)) ?_)
      simp [nI_1, h0]
set_option maxRecDepth 20000 in
set_option maxHeartbeats 200000 in
theorem c_X9_bare (d : Nat) (g : Nat → Nat → Int32) (tr : Int64) {n q dn : Nat} (hc : RI n q dn g) (u : Int32) : Ev (d + 4) 146 0 [.ref 0, .int u, .null, .null] [] (wR g tr) (some (.int (BAR n q (vR n q dn g) u))) (wR g tr) := by
  have hb := hc.b
  refine Ev.sn e_X9_bare 4 (i' := 4) (ls' := [_, _, _, _]) (st' := [_, _, _]) rfl ?_
  refine Ev.ialdE e_X9_bare rfl rfl rfl rfl (m := 1) rfl (by decide) ?_
  refine Ev.sn e_X9_bare 6 (i' := 11) (ls' := [_, _, _, _]) (st' := []) rfl ?_
  rw [hc.hq]
  exact lp_X9_bare _ _ _ hc _ n 0 _ (by omega)
set_option maxRecDepth 20000 in
set_option maxHeartbeats 200000 in
theorem lp_X9_thingsOf (d : Nat) (g : Nat → Nat → Int32) (tr : Int64) {n q dn : Nat} (hc : RI n q dn g) {x : Nat} (hx : x < 2000) : ∀ (kk p : Nat) (a : Int32), p + kk = n → Ev d 141 4 [.ref 0, .int (nI x), .int a, .int (nI p)] [] (wR g tr) (some (.int (fo (fun t a => if (vR n q dn g) 12 t = nI x then a ||| bitI t else a) kk p a))) (wR g tr) := by
  intro kk
  induction kk with
  | zero =>
    intro p a hp
    have hb := hc.b
    refine Ev.sn e_X9_thingsOf 4 (i' := 8) (ls' := [_, _, _, _]) (st' := [_, _, _]) rfl ?_
    refine Ev.ialdE e_X9_thingsOf rfl rfl rfl rfl (m := 0) rfl (by decide) ?_
    refine Ev.brT (i1 := 30) (i2 := 10) e_X9_thingsOf rfl rfl (ge_t hc.hn (by omega) (by omega)) ?_
    refine Ev.sn e_X9_thingsOf 1 (i' := 31) (ls' := [_, _, _, _]) (st' := [_]) rfl ?_
    refine Ev.iret e_X9_thingsOf rfl rfl rfl ?_ rfl
    rfl
  | succ kk ih =>
    intro p a hp
    rw [fo_s (k := kk)]
    have hb := hc.b
    have hv := own_R (p := x) hc (show p < n by omega) hx
    refine Ev.sn e_X9_thingsOf 4 (i' := 8) (ls' := [_, _, _, _]) (st' := [_, _, _]) rfl ?_
    refine Ev.ialdE e_X9_thingsOf rfl rfl rfl rfl (m := 0) rfl (by decide) ?_
    refine Ev.brF (i1 := 30) (i2 := 10) e_X9_thingsOf rfl rfl (ge_f hc.hn (by omega) (by omega)) ?_
    refine Ev.sn e_X9_thingsOf 6 (i' := 16) (ls' := [_, _, _, _]) (st' := [_, _, _]) rfl ?_
    refine Ev.ialdE e_X9_thingsOf rfl rfl rfl rfl (z_add _) (by omega) ?_
    refine Ev.sn e_X9_thingsOf 3 (i' := 20) (ls' := [_, _, _, _]) (st' := [_, _, _]) rfl ?_
    refine Ev.br (i1 := 21) (i2 := 25) e_X9_thingsOf rfl rfl (fun h0 => ?_) (fun h0 => ?_)
    · refine Ev.sn e_X9_thingsOf 8 (i' := 4) (ls' := [_, _, _, _]) (st' := []) rfl ?_
      refine id (Ev.cg (ih (p + 1) ((fun t a => if (vR n q dn g) 12 t = nI x then a ||| bitI t else a) p a) (by omega)) ?_)
      simp [← nI_1, hv, bitI, h0]
    · refine Ev.sn e_X9_thingsOf 5 (i' := 4) (ls' := [_, _, _, _]) (st' := []) rfl ?_
      refine id (Ev.cg (ih (p + 1) ((fun t a => if (vR n q dn g) 12 t = nI x then a ||| bitI t else a) p a) (by omega)) ?_)
      simp [← nI_1, hv, bitI, h0]
set_option maxRecDepth 20000 in
set_option maxHeartbeats 200000 in
theorem c_X9_thingsOf (d : Nat) (g : Nat → Nat → Int32) (tr : Int64) {n q dn : Nat} (hc : RI n q dn g) {x : Nat} (hx : x < 2000) : Ev d 141 0 [.ref 0, .int (nI x), .null, .null] [] (wR g tr) (some (.int (TOF n (vR n q dn g) (nI x)))) (wR g tr) := by
  have hb := hc.b
  refine Ev.sn e_X9_thingsOf 4 (i' := 4) (ls' := [_, _, _, _]) (st' := []) rfl ?_
  exact lp_X9_thingsOf _ _ _ hc hx n 0 0 (by omega)
theorem own_le {g : Nat → Nat → Int32} {n q dn t : Nat} (hc : RI n q dn g) (ht : t < n) : g 7 t ≤ 0 ↔ vR n q dn g 12 t = -9 := by
  rcases own_cases hc ht with ⟨h1, h2⟩ | ⟨p, h1, h2, h3⟩
  · rw [h1, h2]; simp
  · have hb := hc.b
    rw [h2, h3]
    constructor
    · intro h; exact absurd h (nI_nle (by omega) (by omega))
    · intro h
      have h4 := congrArg Int32.toInt h
      rw [nI_toInt (by omega)] at h4
      have h5 : (-9 : Int32).toInt = -9 := by decide
      omega
set_option maxRecDepth 20000 in
set_option maxHeartbeats 200000 in
theorem lp_X9_owned (d : Nat) (g : Nat → Nat → Int32) (tr : Int64) {n q dn : Nat} (hc : RI n q dn g) : ∀ (kk p : Nat) (a : Int32), p + kk = n → Ev d 147 4 [.ref 0, .int a, .int (nI p)] [] (wR g tr) (some (.int (fo (fun t a => if (vR n q dn g) 12 t = -9 then a else a ||| bitI t) kk p a))) (wR g tr) := by
  intro kk
  induction kk with
  | zero =>
    intro p a hp
    have hb := hc.b
    refine Ev.sn e_X9_owned 4 (i' := 8) (ls' := [_, _, _]) (st' := [_, _, _]) rfl ?_
    refine Ev.ialdE e_X9_owned rfl rfl rfl rfl (m := 0) rfl (by decide) ?_
    refine Ev.brT (i1 := 27) (i2 := 10) e_X9_owned rfl rfl (ge_t hc.hn (by omega) (by omega)) ?_
    refine Ev.sn e_X9_owned 1 (i' := 28) (ls' := [_, _, _]) (st' := [_]) rfl ?_
    refine Ev.iret e_X9_owned rfl rfl rfl ?_ rfl
    rfl
  | succ kk ih =>
    intro p a hp
    rw [fo_s (k := kk)]
    have hb := hc.b
    have hv : (g 7 p ≤ 0 ↔ (vR n q dn g) 12 p = -9) := own_le hc (by omega)
    refine Ev.sn e_X9_owned 4 (i' := 8) (ls' := [_, _, _]) (st' := [_, _, _]) rfl ?_
    refine Ev.ialdE e_X9_owned rfl rfl rfl rfl (m := 0) rfl (by decide) ?_
    refine Ev.brF (i1 := 27) (i2 := 10) e_X9_owned rfl rfl (ge_f hc.hn (by omega) (by omega)) ?_
    refine Ev.sn e_X9_owned 6 (i' := 16) (ls' := [_, _, _]) (st' := [_, _, _]) rfl ?_
    refine Ev.ialdE e_X9_owned rfl rfl rfl rfl (z_add _) (by omega) ?_
    refine Ev.br (i1 := 22) (i2 := 18) e_X9_owned rfl rfl (fun h0 => ?_) (fun h0 => ?_)
    · refine Ev.sn e_X9_owned 5 (i' := 4) (ls' := [_, _, _]) (st' := []) rfl ?_
      refine id (Ev.cg (ih (p + 1) ((fun t a => if (vR n q dn g) 12 t = -9 then a else a ||| bitI t) p a) (by omega)) ?_)
      simp [nI_1, ← hv, bitI, h0]
    · refine Ev.sn e_X9_owned 8 (i' := 4) (ls' := [_, _, _]) (st' := []) rfl ?_
      refine id (Ev.cg (ih (p + 1) ((fun t a => if (vR n q dn g) 12 t = -9 then a else a ||| bitI t) p a) (by omega)) ?_)
      simp [nI_1, ← hv, bitI, h0]
set_option maxRecDepth 20000 in
set_option maxHeartbeats 200000 in
theorem c_X9_owned (d : Nat) (g : Nat → Nat → Int32) (tr : Int64) {n q dn : Nat} (hc : RI n q dn g) : Ev d 147 0 [.ref 0, .null, .null] [] (wR g tr) (some (.int (OWN n (vR n q dn g)))) (wR g tr) := by
  have hb := hc.b
  refine Ev.sn e_X9_owned 4 (i' := 4) (ls' := [_, _, _]) (st' := []) rfl ?_
  exact lp_X9_owned _ _ _ hc n 0 0 (by omega)
set_option maxRecDepth 20000 in
set_option maxHeartbeats 200000 in
theorem lp_X9_taller (d : Nat) (g : Nat → Nat → Int32) (tr : Int64) {n q dn : Nat} (hc : RI n q dn g) {x : Nat} (hx : x < q) : ∀ (kk p : Nat) (a : Int32), p + kk = q → Ev d 142 4 [.ref 0, .int (nI x), .int a, .int (nI p)] [] (wR g tr) (some (.int (fo (fun e a => if (vR n q dn g) 5 e * (vR n q dn g) 4 x < (vR n q dn g) 5 x * (vR n q dn g) 4 e then a + 1 else a) kk p a))) (wR g tr) := by
  intro kk
  induction kk with
  | zero =>
    intro p a hp
    have hb := hc.b
    refine Ev.sn e_X9_taller 4 (i' := 8) (ls' := [_, _, _, _]) (st' := [_, _, _]) rfl ?_
    refine Ev.ialdE e_X9_taller rfl rfl rfl rfl (m := 1) rfl (by decide) ?_
    refine Ev.brT (i1 := 49) (i2 := 10) e_X9_taller rfl rfl (ge_t hc.hq (by omega) (by omega)) ?_
    refine Ev.sn e_X9_taller 1 (i' := 50) (ls' := [_, _, _, _]) (st' := [_]) rfl ?_
    refine Ev.iret e_X9_taller rfl rfl rfl ?_ rfl
    rfl
  | succ kk ih =>
    intro p a hp
    rw [fo_s (k := kk)]
    have hb := hc.b
    have hv1 : (vR n q dn g) 5 p = g 4 (2 * p + 1) := cut_lt (f := fun t => g 4 (2 * t + 1)) (by omega)
    have hv2 : (vR n q dn g) 4 p = g 7 (12 + p) := cut_lt (f := fun t => g 7 (12 + t)) (by omega)
    have hv3 : (vR n q dn g) 5 x = g 4 (2 * x + 1) := cut_lt (f := fun t => g 4 (2 * t + 1)) hx
    have hv4 : (vR n q dn g) 4 x = g 7 (12 + x) := cut_lt (f := fun t => g 7 (12 + t)) hx
    refine Ev.sn e_X9_taller 4 (i' := 8) (ls' := [_, _, _, _]) (st' := [_, _, _]) rfl ?_
    refine Ev.ialdE e_X9_taller rfl rfl rfl rfl (m := 1) rfl (by decide) ?_
    refine Ev.brF (i1 := 49) (i2 := 10) e_X9_taller rfl rfl (ge_f hc.hq (by omega) (by omega)) ?_
    refine Ev.sn e_X9_taller 8 (i' := 18) (ls' := [_, _, _, _]) (st' := [_, _, _]) rfl ?_
    refine Ev.ialdE e_X9_taller rfl rfl rfl rfl (ixm 2 1 p) (by omega) ?_
    refine Ev.sn e_X9_taller 5 (i' := 24) (ls' := [_, _, _, _]) (st' := [_, _, _, _]) rfl ?_
    refine Ev.ialdE e_X9_taller rfl rfl rfl rfl (nI_add 12 x) (by omega) ?_
    refine Ev.sn e_X9_taller 8 (i' := 33) (ls' := [_, _, _, _]) (st' := [_, _, _, _]) rfl ?_
    refine Ev.ialdE e_X9_taller rfl rfl rfl rfl (ixm 2 1 x) (by omega) ?_
    refine Ev.sn e_X9_taller 5 (i' := 39) (ls' := [_, _, _, _]) (st' := [_, _, _, _, _]) rfl ?_
    refine Ev.ialdE e_X9_taller rfl rfl rfl rfl (nI_add 12 p) (by omega) ?_
    refine Ev.sn e_X9_taller 1 (i' := 41) (ls' := [_, _, _, _]) (st' := [_, _, _]) rfl ?_
    refine Ev.br (i1 := 44) (i2 := 42) e_X9_taller rfl rfl (fun h0 => ?_) (fun h0 => ?_)
    · refine Ev.sn e_X9_taller 5 (i' := 4) (ls' := [_, _, _, _]) (st' := []) rfl ?_
      refine id (Ev.cg (ih (p + 1) ((fun e a => if (vR n q dn g) 5 e * (vR n q dn g) 4 x < (vR n q dn g) 5 x * (vR n q dn g) 4 e then a + 1 else a) p a) (by omega)) ?_)
      simp [nI_1, hv1, hv2, hv3, hv4, ← Int32.not_le, h0]
    · refine Ev.sn e_X9_taller 6 (i' := 4) (ls' := [_, _, _, _]) (st' := []) rfl ?_
      refine id (Ev.cg (ih (p + 1) ((fun e a => if (vR n q dn g) 5 e * (vR n q dn g) 4 x < (vR n q dn g) 5 x * (vR n q dn g) 4 e then a + 1 else a) p a) (by omega)) ?_)
      simp [nI_1, hv1, hv2, hv3, hv4, ← Int32.not_le, h0]
set_option maxRecDepth 20000 in
set_option maxHeartbeats 200000 in
theorem c_X9_taller (d : Nat) (g : Nat → Nat → Int32) (tr : Int64) {n q dn : Nat} (hc : RI n q dn g) {x : Nat} (hx : x < q) : Ev d 142 0 [.ref 0, .int (nI x), .null, .null] [] (wR g tr) (some (.int (SMT q (vR n q dn g) x))) (wR g tr) := by
  have hb := hc.b
  refine Ev.sn e_X9_taller 4 (i' := 4) (ls' := [_, _, _, _]) (st' := []) rfl ?_
  exact lp_X9_taller _ _ _ hc hx q 0 0 (by omega)
set_option maxRecDepth 20000 in
set_option maxHeartbeats 200000 in
theorem lp_X9_fitsHim (d : Nat) (g : Nat → Nat → Int32) (tr : Int64) {n q dn : Nat} (hc : RI n q dn g) (sc z : Int32) : ∀ (kk p : Nat) (a : Int32), p + kk = n → Ev (d + 2) 167 4 [.ref 0, .int sc, .int z, .int a, .int (nI p)] [] (wR g tr) (some (.int (fo (fun t a => if fitB (vR n q dn g) t ((vR n q dn g) 1 t) sc z = true then a + 1 else a) kk p a))) (wR g tr) := by
  intro kk
  induction kk with
  | zero =>
    intro p a hp
    have hb := hc.b
    refine Ev.sn e_X9_fitsHim 4 (i' := 8) (ls' := [_, _, _, _, _]) (st' := [_, _, _]) rfl ?_
    refine Ev.ialdE e_X9_fitsHim rfl rfl rfl rfl (m := 0) rfl (by decide) ?_
    refine Ev.brT (i1 := 30) (i2 := 10) e_X9_fitsHim rfl rfl (ge_t hc.hn (by omega) (by omega)) ?_
    refine Ev.sn e_X9_fitsHim 1 (i' := 31) (ls' := [_, _, _, _, _]) (st' := [_]) rfl ?_
    refine Ev.iret e_X9_fitsHim rfl rfl rfl ?_ rfl
    rfl
  | succ kk ih =>
    intro p a hp
    rw [fo_s (k := kk)]
    have hb := hc.b
    have hv : (vR n q dn g) 1 p = g 7 (6 + p) := cut_lt (f := fun t => g 7 (6 + t)) (by omega)
    refine Ev.sn e_X9_fitsHim 4 (i' := 8) (ls' := [_, _, _, _, _]) (st' := [_, _, _]) rfl ?_
    refine Ev.ialdE e_X9_fitsHim rfl rfl rfl rfl (m := 0) rfl (by decide) ?_
    refine Ev.brF (i1 := 30) (i2 := 10) e_X9_fitsHim rfl rfl (ge_f hc.hn (by omega) (by omega)) ?_
    refine Ev.sn e_X9_fitsHim 8 (i' := 18) (ls' := [_, _, _, _, _]) (st' := [_, _, _, _, _]) rfl ?_
    refine Ev.ialdE e_X9_fitsHim rfl rfl rfl rfl (nI_add 6 p) (by omega) ?_
    refine Ev.sn e_X9_fitsHim 2 (i' := 21) (ls' := [_, _, _, _, _]) (st' := [_, _, _, _, _, _]) rfl ?_
    refine Ev.clV e_X9_fitsHim rfl rfl (as := [_, _, _, _]) rfl rfl rfl kl_X9_fits rfl rfl rfl (c_X9_fits _ _ _ hc (by omega) _ _ _) rfl ?_
    refine Ev.brB (i1 := 25) (i2 := 23) e_X9_fitsHim rfl rfl (fun h0 => ?_) (fun h0 => ?_)
    · refine Ev.sn e_X9_fitsHim 5 (i' := 4) (ls' := [_, _, _, _, _]) (st' := []) rfl ?_
      refine id (Ev.cg (ih (p + 1) ((fun t a => if fitB (vR n q dn g) t ((vR n q dn g) 1 t) sc z = true then a + 1 else a) p a) (by omega)) ?_)
      simp [nI_1, hv, h0]
    · refine Ev.sn e_X9_fitsHim 6 (i' := 4) (ls' := [_, _, _, _, _]) (st' := []) rfl ?_
      refine id (Ev.cg (ih (p + 1) ((fun t a => if fitB (vR n q dn g) t ((vR n q dn g) 1 t) sc z = true then a + 1 else a) p a) (by omega)) ?_)
      simp [nI_1, hv, h0]
set_option maxRecDepth 20000 in
set_option maxHeartbeats 200000 in
theorem c_X9_fitsHim (d : Nat) (g : Nat → Nat → Int32) (tr : Int64) {n q dn : Nat} (hc : RI n q dn g) (sc z : Int32) : Ev (d + 2) 167 0 [.ref 0, .int sc, .int z, .null, .null] [] (wR g tr) (some (.int (THF n (vR n q dn g) z sc))) (wR g tr) := by
  have hb := hc.b
  refine Ev.sn e_X9_fitsHim 4 (i' := 4) (ls' := [_, _, _, _, _]) (st' := []) rfl ?_
  exact lp_X9_fitsHim _ _ _ hc _ _ n 0 0 (by omega)
def anyF (f : Nat → Bool) (k p : Nat) (b : Bool) : Bool := fo (fun t b => b || f t) k p b
theorem anyF_eq (f : Nat → Bool) : ∀ (k p : Nat) (b : Bool), anyF f k p b = (b || anyN f k p)
  | 0, _, b => by simp [anyF, fo, anyN]
  | k + 1, p, b => by
    show anyF f k (p + 1) (b || f p) = _
    rw [anyF_eq f k (p + 1), anyN]
    cases b <;> cases f p <;> simp
set_option maxRecDepth 20000 in
set_option maxHeartbeats 200000 in
theorem lp_X9_hasOne (d : Nat) (g : Nat → Nat → Int32) (tr : Int64) {n q dn : Nat} (hc : RI n q dn g) {x : Nat} (hx : x < 2000) (u : Int32) : ∀ (kk p : Nat) (a : Bool), p + kk = n → Ev (d + 1) 150 4 [.ref 0, .int (nI x), .int u, .int (bI a), .int (nI p)] [] (wR g tr) (some (.int (bI (fo (fun t b => b || (fun t => decide ((vR n q dn g) 12 t = nI x) && decide ((vR n q dn g) 0 t = u)) t) kk p a)))) (wR g tr) := by
  intro kk
  induction kk with
  | zero =>
    intro p a hp
    have hb := hc.b
    refine Ev.sn e_X9_hasOne 4 (i' := 8) (ls' := [_, _, _, _, _]) (st' := [_, _, _]) rfl ?_
    refine Ev.ialdE e_X9_hasOne rfl rfl rfl rfl (m := 0) rfl (by decide) ?_
    refine Ev.brT (i1 := 33) (i2 := 10) e_X9_hasOne rfl rfl (ge_t hc.hn (by omega) (by omega)) ?_
    refine Ev.sn e_X9_hasOne 1 (i' := 34) (ls' := [_, _, _, _, _]) (st' := [_]) rfl ?_
    refine Ev.iret e_X9_hasOne rfl rfl bI_nar ?_ rfl
    rfl
  | succ kk ih =>
    intro p a hp
    rw [fo_s (k := kk)]
    have hb := hc.b
    have hv := own_R (p := x) hc (show p < n by omega) hx
    refine Ev.sn e_X9_hasOne 4 (i' := 8) (ls' := [_, _, _, _, _]) (st' := [_, _, _]) rfl ?_
    refine Ev.ialdE e_X9_hasOne rfl rfl rfl rfl (m := 0) rfl (by decide) ?_
    refine Ev.brF (i1 := 33) (i2 := 10) e_X9_hasOne rfl rfl (ge_f hc.hn (by omega) (by omega)) ?_
    refine Ev.sn e_X9_hasOne 1 (i' := 11) (ls' := [_, _, _, _, _]) (st' := [_]) rfl ?_
    refine Ev.brB (i1 := 12) (i2 := 27) e_X9_hasOne rfl rfl (fun h0 => ?_) (fun h0 => ?_)
    · refine Ev.sn e_X9_hasOne 5 (i' := 17) (ls' := [_, _, _, _, _]) (st' := [_, _]) rfl ?_
      refine Ev.ialdE e_X9_hasOne rfl rfl rfl rfl (z_add _) (by omega) ?_
      refine Ev.sn e_X9_hasOne 3 (i' := 21) (ls' := [_, _, _, _, _]) (st' := [_, _]) rfl ?_
      refine Ev.br (i1 := 22) (i2 := 29) e_X9_hasOne rfl rfl (fun h1 => ?_) (fun h1 => ?_)
      · refine Ev.sn e_X9_hasOne 2 (i' := 24) (ls' := [_, _, _, _, _]) (st' := [_, _]) rfl ?_
        refine Ev.clV e_X9_hasOne rfl rfl (as := [_]) rfl rfl rfl kl_X9_useOf rfl rfl rfl (c_X9_useOf _ _ _ hc (by omega)) rfl ?_
        refine Ev.sn e_X9_hasOne 1 (i' := 26) (ls' := [_, _, _, _, _]) (st' := [_, _]) rfl ?_
        refine Ev.br (i1 := 27) (i2 := 29) e_X9_hasOne rfl rfl (fun h2 => ?_) (fun h2 => ?_)
        · refine Ev.sn e_X9_hasOne 5 (i' := 4) (ls' := [_, _, _, _, _]) (st' := []) rfl ?_
          refine id (Ev.cg (ih (p + 1) ((fun t b => b || (fun t => decide ((vR n q dn g) 12 t = nI x) && decide ((vR n q dn g) 0 t = u)) t) p a) (by omega)) ?_)
          simp [← nI_1, hv, bI, h0, h1, h2]
        · refine Ev.sn e_X9_hasOne 4 (i' := 4) (ls' := [_, _, _, _, _]) (st' := []) rfl ?_
          refine id (Ev.cg (ih (p + 1) ((fun t b => b || (fun t => decide ((vR n q dn g) 12 t = nI x) && decide ((vR n q dn g) 0 t = u)) t) p a) (by omega)) ?_)
          simp [← nI_1, hv, bI, h0, h1, h2]
      · refine Ev.sn e_X9_hasOne 4 (i' := 4) (ls' := [_, _, _, _, _]) (st' := []) rfl ?_
        refine id (Ev.cg (ih (p + 1) ((fun t b => b || (fun t => decide ((vR n q dn g) 12 t = nI x) && decide ((vR n q dn g) 0 t = u)) t) p a) (by omega)) ?_)
        simp [← nI_1, hv, bI, h0, h1]
    · refine Ev.sn e_X9_hasOne 5 (i' := 4) (ls' := [_, _, _, _, _]) (st' := []) rfl ?_
      refine id (Ev.cg (ih (p + 1) ((fun t b => b || (fun t => decide ((vR n q dn g) 12 t = nI x) && decide ((vR n q dn g) 0 t = u)) t) p a) (by omega)) ?_)
      simp [← nI_1, hv, bI, h0]
set_option maxRecDepth 20000 in
set_option maxHeartbeats 200000 in
theorem c_X9_hasOne (d : Nat) (g : Nat → Nat → Int32) (tr : Int64) {n q dn : Nat} (hc : RI n q dn g) {x : Nat} (hx : x < 2000) (u : Int32) : Ev (d + 1) 150 0 [.ref 0, .int (nI x), .int u, .null, .null] [] (wR g tr) (some (.int (bI (HOO n (vR n q dn g) (nI x) u)))) (wR g tr) := by
  have hb := hc.b
  refine Ev.sn e_X9_hasOne 4 (i' := 4) (ls' := [_, _, _, _, _]) (st' := []) rfl ?_
  have := lp_X9_hasOne d g tr hc hx u n 0 false (by omega)
  rw [show fo (fun t b => b || (fun t => decide ((vR n q dn g) 12 t = nI x) && decide ((vR n q dn g) 0 t = u)) t) n 0 false = anyF (fun t => decide ((vR n q dn g) 12 t = nI x) && decide ((vR n q dn g) 0 t = u)) n 0 false from rfl, anyF_eq, Bool.false_or] at this
  exact this
def allF (f : Nat → Bool) (k p : Nat) (b : Bool) : Bool := fo (fun t b => b && f t) k p b
theorem allF_eq (f : Nat → Bool) : ∀ (k p : Nat) (b : Bool), allF f k p b = (b && allN f k p)
  | 0, _, b => by simp [allF, fo, allN]
  | k + 1, p, b => by
    show allF f k (p + 1) (b && f p) = _
    rw [allF_eq f k (p + 1), allN]
    cases b <;> cases f p <;> simp
set_option maxRecDepth 20000 in
set_option maxHeartbeats 200000 in
theorem lp_X9_mayBeAt (d : Nat) (g : Nat → Nat → Int32) (tr : Int64) {n q dn : Nat} (hc : RI n q dn g) {k : Nat} (hk : g 0 7 = nI k) (ht : TI n k (tR k g)) (sc z : Int32) : ∀ (kk p : Nat) (a : Bool), p + kk = k → Ev (d + 2) 161 4 [.ref 0, .int sc, .int z, .int (bI a), .int (nI p), .null] [] (wR g tr) (some (.int (bI (fo (fun t b => b && (fun i => decide (bI (fitB (vR n q dn g) ((tR k g) 0 i).toNatClampNeg ((vR n q dn g) 1 ((tR k g) 0 i).toNatClampNeg) sc z) = (tR k g) 1 i)) t) kk p a)))) (wR g tr) := by
  intro kk
  induction kk with
  | zero =>
    intro p a hp
    have hb6 := ht.1
    refine Ev.sn e_X9_mayBeAt 3 (i' := 7) (ls' := [_, _, _, _, _, _]) (st' := [_, _]) rfl ?_
    refine Ev.brT (i1 := 42) (i2 := 8) e_X9_mayBeAt rfl rfl (ge_t hk (by omega) (by omega)) ?_
    refine Ev.sn e_X9_mayBeAt 1 (i' := 43) (ls' := [_, _, _, _, _, _]) (st' := [_]) rfl ?_
    refine Ev.iret e_X9_mayBeAt rfl rfl bI_nar ?_ rfl
    rfl
  | succ kk ih =>
    intro p a hp
    rw [fo_s (k := kk)]
    have hb := hc.b
    have hb6 := ht.1
    obtain ⟨⟨t, ht1, ht2⟩, ht3⟩ := ht.2 p (by omega)
    have e0 : (tR k g) 0 p = g 11 p := cut_lt (by omega)
    have e1 : (tR k g) 1 p = g 12 p := cut_lt (by omega)
    have e2 : g 11 p = nI t := by rw [← e0]; exact ht2
    have e3 : (nI t).toNatClampNeg = t := nI_clamp (by omega)
    have e4 : (vR n q dn g) 1 t = g 7 (6 + t) := cut_lt (f := fun t => g 7 (6 + t)) ht1
    have e5 : ((tR k g) 0 p).toNatClampNeg = t := by rw [ht2, e3]
    rw [e1] at ht3
    refine Ev.sn e_X9_mayBeAt 3 (i' := 7) (ls' := [_, _, _, _, _, _]) (st' := [_, _]) rfl ?_
    refine Ev.brF (i1 := 42) (i2 := 8) e_X9_mayBeAt rfl rfl (ge_f hk (by omega) (by omega)) ?_
    refine Ev.sn e_X9_mayBeAt 3 (i' := 11) (ls' := [_, _, _, _, _, _]) (st' := [_, _]) rfl ?_
    refine Ev.ialdE e_X9_mayBeAt rfl rfl rfl rfl rfl (by omega) ?_
    refine Ev.sn e_X9_mayBeAt 2 (i' := 14) (ls' := [_, _, _, _, _, _]) (st' := [_]) rfl ?_
    refine Ev.brB (i1 := 38) (i2 := 15) e_X9_mayBeAt rfl rfl (fun h0 => ?_) (fun h0 => ?_)
    · refine Ev.sn e_X9_mayBeAt 4 (i' := 4) (ls' := [_, _, _, _, _, _]) (st' := []) rfl ?_
      refine Ev.weak (lle_c (lle_c (lle_c (lle_c (lle_c (lle_n lle_0)))))) (Ev.cg (ih (p + 1) ((fun (t : Nat) (b : Bool) => b && (fun i => decide (bI (fitB (vR n q dn g) ((tR k g) 0 i).toNatClampNeg ((vR n q dn g) 1 ((tR k g) 0 i).toNatClampNeg) sc z) = (tR k g) 1 i)) t) p a) (by omega)) ?_)
      simp only [e5, e1, e4, nI_1]
      rcases ht3 with h9 | h9 <;> simp_all [bI]
    · refine Ev.sn e_X9_mayBeAt 7 (i' := 22) (ls' := [_, _, _, _, _, _]) (st' := [_, _, _, _]) rfl ?_
      refine Ev.ialdE e_X9_mayBeAt rfl rfl rfl rfl (by rw [e2]; exact nI_add 6 t) (by omega) ?_
      refine Ev.sn e_X9_mayBeAt 2 (i' := 25) (ls' := [_, _, _, _, _, _]) (st' := [_, _, _, _, _]) rfl ?_
      refine Ev.clV e_X9_mayBeAt rfl rfl (as := [_, _, _, _]) rfl rfl rfl kl_X9_fits rfl rfl rfl (by rw [e2]; exact c_X9_fits _ _ _ hc ht1 _ _ _) rfl ?_
      refine Ev.sn e_X9_mayBeAt 3 (i' := 29) (ls' := [_, _, _, _, _, _]) (st' := [_, _, _]) rfl ?_
      refine Ev.ialdE e_X9_mayBeAt rfl rfl rfl rfl rfl (by omega) ?_
      refine Ev.sn e_X9_mayBeAt 1 (i' := 31) (ls' := [_, _, _, _, _, _]) (st' := [_, _, _]) rfl ?_
      refine Ev.br (i1 := 32) (i2 := 34) e_X9_mayBeAt rfl rfl (fun h1 => ?_) (fun h1 => ?_)
      · refine Ev.sn e_X9_mayBeAt 2 (i' := 35) (ls' := [_, _, _, _, _, _]) (st' := [_, _]) rfl ?_
        refine Ev.br (i1 := 36) (i2 := 38) e_X9_mayBeAt rfl rfl (fun h35 => ?_) (fun h35 => ?_)
        · refine Ev.sn e_X9_mayBeAt 5 (i' := 4) (ls' := [_, _, _, _, _, _]) (st' := []) rfl ?_
          refine Ev.weak (lle_c (lle_c (lle_c (lle_c (lle_c (lle_n lle_0)))))) (Ev.cg (ih (p + 1) ((fun (t : Nat) (b : Bool) => b && (fun i => decide (bI (fitB (vR n q dn g) ((tR k g) 0 i).toNatClampNeg ((vR n q dn g) 1 ((tR k g) 0 i).toNatClampNeg) sc z) = (tR k g) 1 i)) t) p a) (by omega)) ?_)
          simp only [e5, e1, e4, nI_1]
          rcases ht3 with h9 | h9 <;> simp_all [bI]
        · refine Ev.sn e_X9_mayBeAt 4 (i' := 4) (ls' := [_, _, _, _, _, _]) (st' := []) rfl ?_
          refine Ev.weak (lle_c (lle_c (lle_c (lle_c (lle_c (lle_n lle_0)))))) (Ev.cg (ih (p + 1) ((fun (t : Nat) (b : Bool) => b && (fun i => decide (bI (fitB (vR n q dn g) ((tR k g) 0 i).toNatClampNeg ((vR n q dn g) 1 ((tR k g) 0 i).toNatClampNeg) sc z) = (tR k g) 1 i)) t) p a) (by omega)) ?_)
          simp only [e5, e1, e4, nI_1]
          rcases ht3 with h9 | h9 <;> simp_all [bI]
      · refine Ev.sn e_X9_mayBeAt 1 (i' := 35) (ls' := [_, _, _, _, _, _]) (st' := [_, _]) rfl ?_
        refine Ev.br (i1 := 36) (i2 := 38) e_X9_mayBeAt rfl rfl (fun h35 => ?_) (fun h35 => ?_)
        · refine Ev.sn e_X9_mayBeAt 5 (i' := 4) (ls' := [_, _, _, _, _, _]) (st' := []) rfl ?_
          refine Ev.weak (lle_c (lle_c (lle_c (lle_c (lle_c (lle_n lle_0)))))) (Ev.cg (ih (p + 1) ((fun (t : Nat) (b : Bool) => b && (fun i => decide (bI (fitB (vR n q dn g) ((tR k g) 0 i).toNatClampNeg ((vR n q dn g) 1 ((tR k g) 0 i).toNatClampNeg) sc z) = (tR k g) 1 i)) t) p a) (by omega)) ?_)
          simp only [e5, e1, e4, nI_1]
          rcases ht3 with h9 | h9 <;> simp_all [bI]
        · refine Ev.sn e_X9_mayBeAt 4 (i' := 4) (ls' := [_, _, _, _, _, _]) (st' := []) rfl ?_
          refine Ev.weak (lle_c (lle_c (lle_c (lle_c (lle_c (lle_n lle_0)))))) (Ev.cg (ih (p + 1) ((fun (t : Nat) (b : Bool) => b && (fun i => decide (bI (fitB (vR n q dn g) ((tR k g) 0 i).toNatClampNeg ((vR n q dn g) 1 ((tR k g) 0 i).toNatClampNeg) sc z) = (tR k g) 1 i)) t) p a) (by omega)) ?_)
          simp only [e5, e1, e4, nI_1]
          rcases ht3 with h9 | h9 <;> simp_all [bI]
set_option maxRecDepth 20000 in
set_option maxHeartbeats 200000 in
theorem c_X9_mayBeAt (d : Nat) (g : Nat → Nat → Int32) (tr : Int64) {n q dn : Nat} (hc : RI n q dn g) {k : Nat} (hk : g 0 7 = nI k) (ht : TI n k (tR k g)) (sc z : Int32) : Ev (d + 2) 161 0 [.ref 0, .int sc, .int z, .null, .null, .null] [] (wR g tr) (some (.int (bI (ALW k (tR k g) (vR n q dn g) z sc)))) (wR g tr) := by
  have hb6 := ht.1
  refine Ev.sn e_X9_mayBeAt 4 (i' := 4) (ls' := [_, _, _, _, _, _]) (st' := []) rfl ?_
  have := lp_X9_mayBeAt d g tr hc hk ht sc z k 0 true (by omega)
  rw [show fo (fun t b => b && (fun i => decide (bI (fitB (vR n q dn g) ((tR k g) 0 i).toNatClampNeg ((vR n q dn g) 1 ((tR k g) 0 i).toNatClampNeg) sc z) = (tR k g) 1 i)) t) k 0 true = allF (fun i => decide (bI (fitB (vR n q dn g) ((tR k g) 0 i).toNatClampNeg ((vR n q dn g) 1 ((tR k g) 0 i).toNatClampNeg) sc z) = (tR k g) 1 i)) k 0 true from rfl, allF_eq, Bool.true_and] at this
  exact this
end
section
/-! the class's public questions, and the reference's -/
theorem ixB {x : Int32} {n : Nat} (hn : n < 2000) (h : (decide (0 ≤ x) && decide (x < nI n)) = true) : ∃ j, j < n ∧ x = nI j := by
  simp only [Bool.and_eq_true, decide_eq_true_eq] at h
  exact ix_of rfl hn (Int32.not_lt.mpr h.1) (Int32.not_le.mpr h.2)
theorem rngB {x : Int32} {k : Nat} (hk : k < 2000) : (decide (0 ≤ x) && decide (x ≤ nI k)) = true ↔ ∃ j, j ≤ k ∧ x = nI j := by
  simp only [Bool.and_eq_true, decide_eq_true_eq]
  constructor
  · intro h
    obtain ⟨j, h1, h2⟩ := nI_of2 (n := k) (nI_toInt (by omega)) (Int32.not_lt.mpr h.1) h.2
    exact ⟨j, h1, h2⟩
  · rintro ⟨j, h1, rfl⟩
    exact ⟨nI_pos' (by omega), nI_le h1 (by omega)⟩
/-! class Text: its length -/
set_option maxRecDepth 20000 in
set_option maxHeartbeats 200000 in
theorem c_X6_sizeX (d a b : Nat) (g : Nat → Nat → Int32) (tr : Int64) : Ev d 45 0 [.ref 1] [] (wX a b g tr) (some (.int (g 0 0))) (wX a b g tr) := by
  refine Ev.sn e_X6_size 2 (i' := 2) (ls' := [_]) (st' := [_]) rfl ?_
  refine Ev.iret e_X6_size rfl rfl rfl ?_ rfl
  rfl
set_option maxRecDepth 20000 in
set_option maxHeartbeats 200000 in
theorem c_X6_itemsRead (d a b : Nat) (g : Nat → Nat → Int32) (tr : Int64) : Ev d 50 0 [.ref 1] [] (wX a b g tr) (some (.int (g 0 6))) (wX a b g tr) := by
  refine Ev.sn e_X6_itemsRead 2 (i' := 2) (ls' := [_]) (st' := [_]) rfl ?_
  refine Ev.iret e_X6_itemsRead rfl rfl rfl ?_ rfl
  rfl
set_option maxRecDepth 20000 in
set_option maxHeartbeats 200000 in
theorem c_X6_loseAll (d a b : Nat) (g : Nat → Nat → Int32) (tr : Int64) : Ev d 48 0 [.ref 1] [] (wX a b g tr) none (wX a b (va_up g 0 (upd (g 0) 0 0)) tr) := by
  refine Ev.sn e_X6_loseAll 2 (i' := 2) (ls' := [_]) (st' := [_, _]) rfl ?_
  refine Ev.put e_X6_loseAll rfl rfl rfl rfl rfl rfl (w1 := (wX a b (va_up g 0 (upd (g 0) 0 0)) tr)) rfl ?_
  exact Ev.vret e_X6_loseAll rfl rfl rfl
theorem c_X6_size (d : Nat) (g : Nat → Nat → Int32) (tr : Int64) : Ev d 45 0 [.ref 1] [] (wC g tr) (some (.int (g 0 0))) (wC g tr) := c_X6_sizeX d 3 17 g tr
def S_use (v : VW) (u x : Int32) : Int32 := if (decide (0 ≤ u) && decide (u < 3)) = true then (if x = 0 then v 6 u.toNatClampNeg else if x = 1 then v 7 u.toNatClampNeg else -1) else -1
def S_thing (n q : Nat) (v : VW) (t x : Int32) : Int32 := if (decide (0 ≤ t) && decide (t < nI n)) = true then (if x = 0 then v 0 t.toNatClampNeg else if x = 1 then v 1 t.toNatClampNeg else if x = 2 then v 2 t.toNatClampNeg else if x = 3 then v 3 t.toNatClampNeg else if x = 4 then v 12 t.toNatClampNeg else if x = 5 then PIF q v t.toNatClampNeg else -1) else -1
def S_person (n q : Nat) (v : VW) (p x : Int32) : Int32 := if (decide (0 ≤ p) && decide (p < nI q)) = true then (if x = 0 then v 4 p.toNatClampNeg else if x = 1 then v 5 p.toNatClampNeg else if x = 2 then TOF n v p else if x = 3 then SMT q v p.toNatClampNeg else -1) else -1
def S_door (dn : Nat) (v : VW) (p x : Int32) : Int32 := if (decide (0 ≤ p) && decide (p < nI dn)) = true then (if x = 0 then v 8 p.toNatClampNeg else if x = 1 then v 9 p.toNatClampNeg else if x = 2 then v 10 p.toNatClampNeg else if x = 3 then v 11 p.toNatClampNeg else -1) else -1
def S_now (n q : Nat) (v : VW) (k x : Int32) : Int32 := if x = 0 then ULS n q v else if x = 1 then BAR n q v 0 else if x = 2 then BAR n q v 1 else if x = 3 then BAR n q v 2 else if x = 4 then OWN n v else if x = 5 then k else -1
def S_count (n q dn : Nat) (k l x : Int32) : Int32 := if x = 0 then nI n else if x = 1 then nI q else if x = 2 then nI dn else if x = 3 then k else if x = 4 then l else -1
set_option maxRecDepth 20000 in
set_option maxHeartbeats 200000 in
theorem c_X8_use (d : Nat) (g : Nat → Nat → Int32) (tr : Int64) {n q dn : Nat} (hc : CI n q dn g) (u x : Int32) : Ev (d + 1) 77 0 [.ref 0, .int u, .int x] [] (wC g tr) (some (.int (S_use (vC n q dn g) u x))) (wC g tr) := by
  have hb := hc.b
  refine Ev.sn e_X8_use 1 (i' := 1) (ls' := [_, _, _]) (st' := [_]) rfl ?_
  refine Ev.clS e_X8_use rfl rfl rfl (as := [_]) rfl rfl rfl rfl rfl (c_X8_isUse _ _ _) rfl ?_
  refine Ev.brB (i1 := 3) (i2 := 5) e_X8_use rfl rfl (fun h0 => ?_) (fun h0 => ?_)
  · refine Ev.sn e_X8_use 1 (i' := 4) (ls' := [_, _, _]) (st' := [_]) rfl ?_
    refine Ev.iret e_X8_use rfl rfl rfl ?_ rfl
    simp [S_use, h0]
  · obtain ⟨j, hj, rfl⟩ := ixB (n := 3) (by omega) h0
    have hv6 : (vC n q dn g) 6 j = g 30 j := cut_lt hj
    have hv7 : (vC n q dn g) 7 j = g 31 j := cut_lt hj
    refine Ev.sn e_X8_use 1 (i' := 6) (ls' := [_, _, _]) (st' := [_]) rfl ?_
    by_cases s1 : x = 0
    · refine Ev.swi (t := 7) (ls' := [_, _, _]) (st' := []) e_X8_use rfl rfl (by rw [s1]; rfl) ?_
      refine Ev.sn e_X8_use 5 (i' := 12) (ls' := [_, _, _]) (st' := [_, _]) rfl ?_
      refine Ev.ialdE e_X8_use rfl rfl rfl rfl rfl (by omega) ?_
      refine Ev.iret e_X8_use rfl rfl rfl ?_ rfl
      simp [S_use, nI_clamp (show j < 2 ^ 31 by omega), hv6, h0, s1]
    by_cases s2 : x = 1
    · refine Ev.swi (t := 14) (ls' := [_, _, _]) (st' := []) e_X8_use rfl rfl (by rw [s2]; rfl) ?_
      refine Ev.sn e_X8_use 5 (i' := 19) (ls' := [_, _, _]) (st' := [_, _]) rfl ?_
      refine Ev.ialdE e_X8_use rfl rfl rfl rfl rfl (by omega) ?_
      refine Ev.iret e_X8_use rfl rfl rfl ?_ rfl
      simp [S_use, nI_clamp (show j < 2 ^ 31 by omega), hv7, h0, s1, s2]
    refine Ev.swi (t := 21) (ls' := [_, _, _]) (st' := []) e_X8_use rfl rfl (by simp [swl, h0, s1, s2]) ?_
    refine Ev.sn e_X8_use 1 (i' := 22) (ls' := [_, _, _]) (st' := [_]) rfl ?_
    refine Ev.iret e_X8_use rfl rfl rfl ?_ rfl
    simp [S_use, h0, s1, s2]
set_option maxRecDepth 20000 in
set_option maxHeartbeats 200000 in
theorem c_X8_thing (d : Nat) (g : Nat → Nat → Int32) (tr : Int64) {n q dn : Nat} (hc : CI n q dn g) (t x : Int32) : Ev (d + 3) 78 0 [.ref 0, .int t, .int x] [] (wC g tr) (some (.int (S_thing n q (vC n q dn g) t x))) (wC g tr) := by
  have hb := hc.b
  refine Ev.sn e_X8_thing 3 (i' := 3) (ls' := [_, _, _]) (st' := [_, _]) rfl ?_
  refine Ev.clV e_X8_thing rfl rfl (as := [_]) rfl rfl rfl kl_X2_hasThing rfl rfl rfl (c_X2_hasThing _ _ _ hc _) rfl ?_
  refine Ev.brB (i1 := 5) (i2 := 7) e_X8_thing rfl rfl (fun h0 => ?_) (fun h0 => ?_)
  · refine Ev.sn e_X8_thing 1 (i' := 6) (ls' := [_, _, _]) (st' := [_]) rfl ?_
    refine Ev.iret e_X8_thing rfl rfl rfl ?_ rfl
    simp [S_thing, h0]
  · obtain ⟨j, hj, rfl⟩ := ixB (n := n) (by omega) h0
    have hcl : (nI j).toNatClampNeg = j := nI_clamp (by omega)
    have hv0 : (vC n q dn g) 0 j = g 32 j := cut_lt hj
    have hv1 : (vC n q dn g) 1 j = g 51 j := cut_lt hj
    have hv2 : (vC n q dn g) 2 j = g 34 j := cut_lt hj
    have hv3 : (vC n q dn g) 3 j = g 35 j := cut_lt hj
    have hv12 : (vC n q dn g) 12 j = g 50 j := cut_lt hj
    refine Ev.sn e_X8_thing 1 (i' := 8) (ls' := [_, _, _]) (st' := [_]) rfl ?_
    by_cases s1 : x = 0
    · refine Ev.swi (t := 9) (ls' := [_, _, _]) (st' := []) e_X8_thing rfl rfl (by rw [s1]; rfl) ?_
      refine Ev.sn e_X8_thing 5 (i' := 14) (ls' := [_, _, _]) (st' := [_, _]) rfl ?_
      refine Ev.ialdE e_X8_thing rfl rfl rfl rfl rfl (by omega) ?_
      refine Ev.iret e_X8_thing rfl rfl rfl ?_ rfl
      simp [S_thing, hcl, hv0, h0, s1]
    by_cases s2 : x = 1
    · refine Ev.swi (t := 16) (ls' := [_, _, _]) (st' := []) e_X8_thing rfl rfl (by rw [s2]; rfl) ?_
      refine Ev.sn e_X8_thing 5 (i' := 21) (ls' := [_, _, _]) (st' := [_, _]) rfl ?_
      refine Ev.ialdE e_X8_thing rfl rfl rfl rfl rfl (by omega) ?_
      refine Ev.iret e_X8_thing rfl rfl rfl ?_ rfl
      simp [S_thing, hcl, hv1, h0, s1, s2]
    by_cases s3 : x = 2
    · refine Ev.swi (t := 23) (ls' := [_, _, _]) (st' := []) e_X8_thing rfl rfl (by rw [s3]; rfl) ?_
      refine Ev.sn e_X8_thing 5 (i' := 28) (ls' := [_, _, _]) (st' := [_, _]) rfl ?_
      refine Ev.ialdE e_X8_thing rfl rfl rfl rfl rfl (by omega) ?_
      refine Ev.iret e_X8_thing rfl rfl rfl ?_ rfl
      simp [S_thing, hcl, hv2, h0, s1, s2, s3]
    by_cases s4 : x = 3
    · refine Ev.swi (t := 30) (ls' := [_, _, _]) (st' := []) e_X8_thing rfl rfl (by rw [s4]; rfl) ?_
      refine Ev.sn e_X8_thing 5 (i' := 35) (ls' := [_, _, _]) (st' := [_, _]) rfl ?_
      refine Ev.ialdE e_X8_thing rfl rfl rfl rfl rfl (by omega) ?_
      refine Ev.iret e_X8_thing rfl rfl rfl ?_ rfl
      simp [S_thing, hcl, hv3, h0, s1, s2, s3, s4]
    by_cases s5 : x = 4
    · refine Ev.swi (t := 37) (ls' := [_, _, _]) (st' := []) e_X8_thing rfl rfl (by rw [s5]; rfl) ?_
      refine Ev.sn e_X8_thing 5 (i' := 42) (ls' := [_, _, _]) (st' := [_, _]) rfl ?_
      refine Ev.ialdE e_X8_thing rfl rfl rfl rfl rfl (by omega) ?_
      refine Ev.iret e_X8_thing rfl rfl rfl ?_ rfl
      simp [S_thing, hcl, hv12, h0, s1, s2, s3, s4, s5]
    by_cases s6 : x = 5
    · refine Ev.swi (t := 44) (ls' := [_, _, _]) (st' := []) e_X8_thing rfl rfl (by rw [s6]; rfl) ?_
      refine Ev.sn e_X8_thing 3 (i' := 47) (ls' := [_, _, _]) (st' := [_, _]) rfl ?_
      refine Ev.clV e_X8_thing rfl rfl (as := [_]) rfl rfl rfl kl_X2_peopleItFits rfl rfl rfl (c_X2_peopleItFits _ _ _ hc hj) rfl ?_
      refine Ev.iret e_X8_thing rfl rfl rfl ?_ rfl
      simp [S_thing, hcl, h0, s1, s2, s3, s4, s5, s6]
    refine Ev.swi (t := 49) (ls' := [_, _, _]) (st' := []) e_X8_thing rfl rfl (by simp [swl, h0, s1, s2, s3, s4, s5, s6]) ?_
    refine Ev.sn e_X8_thing 1 (i' := 50) (ls' := [_, _, _]) (st' := [_]) rfl ?_
    refine Ev.iret e_X8_thing rfl rfl rfl ?_ rfl
    simp [S_thing, h0, s1, s2, s3, s4, s5, s6]
set_option maxRecDepth 20000 in
set_option maxHeartbeats 200000 in
theorem c_X8_person (d : Nat) (g : Nat → Nat → Int32) (tr : Int64) {n q dn : Nat} (hc : CI n q dn g) (t x : Int32) : Ev (d + 1) 79 0 [.ref 0, .int t, .int x] [] (wC g tr) (some (.int (S_person n q (vC n q dn g) t x))) (wC g tr) := by
  have hb := hc.b
  refine Ev.sn e_X8_person 3 (i' := 3) (ls' := [_, _, _]) (st' := [_, _]) rfl ?_
  refine Ev.clV e_X8_person rfl rfl (as := [_]) rfl rfl rfl kl_X2_hasPerson rfl rfl rfl (c_X2_hasPerson _ _ _ hc _) rfl ?_
  refine Ev.brB (i1 := 5) (i2 := 7) e_X8_person rfl rfl (fun h0 => ?_) (fun h0 => ?_)
  · refine Ev.sn e_X8_person 1 (i' := 6) (ls' := [_, _, _]) (st' := [_]) rfl ?_
    refine Ev.iret e_X8_person rfl rfl rfl ?_ rfl
    simp [S_person, h0]
  · obtain ⟨j, hj, rfl⟩ := ixB (n := q) (by omega) h0
    have hcl : (nI j).toNatClampNeg = j := nI_clamp (by omega)
    have hv4 : (vC n q dn g) 4 j = g 52 j := cut_lt hj
    have hv5 : (vC n q dn g) 5 j = g 37 j := cut_lt hj
    refine Ev.sn e_X8_person 1 (i' := 8) (ls' := [_, _, _]) (st' := [_]) rfl ?_
    by_cases s1 : x = 0
    · refine Ev.swi (t := 9) (ls' := [_, _, _]) (st' := []) e_X8_person rfl rfl (by rw [s1]; rfl) ?_
      refine Ev.sn e_X8_person 5 (i' := 14) (ls' := [_, _, _]) (st' := [_, _]) rfl ?_
      refine Ev.ialdE e_X8_person rfl rfl rfl rfl rfl (by omega) ?_
      refine Ev.iret e_X8_person rfl rfl rfl ?_ rfl
      simp [S_person, hcl, hv4, h0, s1]
    by_cases s2 : x = 1
    · refine Ev.swi (t := 16) (ls' := [_, _, _]) (st' := []) e_X8_person rfl rfl (by rw [s2]; rfl) ?_
      refine Ev.sn e_X8_person 5 (i' := 21) (ls' := [_, _, _]) (st' := [_, _]) rfl ?_
      refine Ev.ialdE e_X8_person rfl rfl rfl rfl rfl (by omega) ?_
      refine Ev.iret e_X8_person rfl rfl rfl ?_ rfl
      simp [S_person, hcl, hv5, h0, s1, s2]
    by_cases s3 : x = 2
    · refine Ev.swi (t := 23) (ls' := [_, _, _]) (st' := []) e_X8_person rfl rfl (by rw [s3]; rfl) ?_
      refine Ev.sn e_X8_person 3 (i' := 26) (ls' := [_, _, _]) (st' := [_, _]) rfl ?_
      refine Ev.clV e_X8_person rfl rfl (as := [_]) rfl rfl rfl kl_X2_thingsOf rfl rfl rfl (c_X2_thingsOf _ _ _ hc _) rfl ?_
      refine Ev.iret e_X8_person rfl rfl rfl ?_ rfl
      simp [S_person, hcl, h0, s1, s2, s3]
    by_cases s4 : x = 3
    · refine Ev.swi (t := 28) (ls' := [_, _, _]) (st' := []) e_X8_person rfl rfl (by rw [s4]; rfl) ?_
      refine Ev.sn e_X8_person 3 (i' := 31) (ls' := [_, _, _]) (st' := [_, _]) rfl ?_
      refine Ev.clV e_X8_person rfl rfl (as := [_]) rfl rfl rfl kl_X2_smallerThan rfl rfl rfl (c_X2_smallerThan _ _ _ hc hj) rfl ?_
      refine Ev.iret e_X8_person rfl rfl rfl ?_ rfl
      simp [S_person, hcl, h0, s1, s2, s3, s4]
    refine Ev.swi (t := 33) (ls' := [_, _, _]) (st' := []) e_X8_person rfl rfl (by simp [swl, h0, s1, s2, s3, s4]) ?_
    refine Ev.sn e_X8_person 1 (i' := 34) (ls' := [_, _, _]) (st' := [_]) rfl ?_
    refine Ev.iret e_X8_person rfl rfl rfl ?_ rfl
    simp [S_person, h0, s1, s2, s3, s4]
set_option maxRecDepth 20000 in
set_option maxHeartbeats 200000 in
theorem c_X8_door (d : Nat) (g : Nat → Nat → Int32) (tr : Int64) {n q dn : Nat} (hc : CI n q dn g) (t x : Int32) : Ev d 80 0 [.ref 0, .int t, .int x] [] (wC g tr) (some (.int (S_door dn (vC n q dn g) t x))) (wC g tr) := by
  have hb := hc.b
  refine Ev.sn e_X8_door 1 (i' := 1) (ls' := [_, _, _]) (st' := [_]) rfl ?_
  refine Ev.br (i1 := 8) (i2 := 2) e_X8_door rfl rfl (fun h0 => ?_) (fun h0 => ?_)
  · refine Ev.sn e_X8_door 1 (i' := 9) (ls' := [_, _, _]) (st' := [_]) rfl ?_
    refine Ev.iret e_X8_door rfl rfl rfl ?_ rfl
    simp [S_door, Int32.not_le.mpr h0]
  · refine Ev.sn e_X8_door 5 (i' := 7) (ls' := [_, _, _]) (st' := [_, _]) rfl ?_
    refine Ev.br (i1 := 10) (i2 := 8) e_X8_door rfl rfl (fun h1 => ?_) (fun h1 => ?_)
    · rw [hc.hd] at h1
      obtain ⟨j, hj, rfl⟩ := ix_of (n := dn) rfl (by omega) h0 (Int32.not_le.mpr h1)
      have hcl : (nI j).toNatClampNeg = j := nI_clamp (by omega)
      have hg : (decide (0 ≤ nI j) && decide (nI j < nI dn)) = true := by simp [Int32.not_lt.mp h0, h1]
      have hv8 : (vC n q dn g) 8 j = g 38 j := cut_lt hj
      have hv9 : (vC n q dn g) 9 j = g 39 j := cut_lt hj
      have hv10 : (vC n q dn g) 10 j = g 40 j := cut_lt hj
      have hv11 : (vC n q dn g) 11 j = g 41 j := cut_lt hj
      refine Ev.sn e_X8_door 1 (i' := 11) (ls' := [_, _, _]) (st' := [_]) rfl ?_
      by_cases s2 : x = 0
      · refine Ev.swi (t := 12) (ls' := [_, _, _]) (st' := []) e_X8_door rfl rfl (by rw [s2]; rfl) ?_
        refine Ev.sn e_X8_door 5 (i' := 17) (ls' := [_, _, _]) (st' := [_, _]) rfl ?_
        refine Ev.ialdE e_X8_door rfl rfl rfl rfl rfl (by omega) ?_
        refine Ev.iret e_X8_door rfl rfl rfl ?_ rfl
        simp only [S_door, hg, hcl, hv8, if_true]
        simp [s2]
      by_cases s3 : x = 1
      · refine Ev.swi (t := 19) (ls' := [_, _, _]) (st' := []) e_X8_door rfl rfl (by rw [s3]; rfl) ?_
        refine Ev.sn e_X8_door 5 (i' := 24) (ls' := [_, _, _]) (st' := [_, _]) rfl ?_
        refine Ev.ialdE e_X8_door rfl rfl rfl rfl rfl (by omega) ?_
        refine Ev.iret e_X8_door rfl rfl rfl ?_ rfl
        simp only [S_door, hg, hcl, hv9, if_true]
        simp [s2, s3]
      by_cases s4 : x = 2
      · refine Ev.swi (t := 26) (ls' := [_, _, _]) (st' := []) e_X8_door rfl rfl (by rw [s4]; rfl) ?_
        refine Ev.sn e_X8_door 5 (i' := 31) (ls' := [_, _, _]) (st' := [_, _]) rfl ?_
        refine Ev.ialdE e_X8_door rfl rfl rfl rfl rfl (by omega) ?_
        refine Ev.iret e_X8_door rfl rfl rfl ?_ rfl
        simp only [S_door, hg, hcl, hv10, if_true]
        simp [s2, s3, s4]
      by_cases s5 : x = 3
      · refine Ev.swi (t := 33) (ls' := [_, _, _]) (st' := []) e_X8_door rfl rfl (by rw [s5]; rfl) ?_
        refine Ev.sn e_X8_door 5 (i' := 38) (ls' := [_, _, _]) (st' := [_, _]) rfl ?_
        refine Ev.ialdE e_X8_door rfl rfl rfl rfl rfl (by omega) ?_
        refine Ev.iret e_X8_door rfl rfl rfl ?_ rfl
        simp only [S_door, hg, hcl, hv11, if_true]
        simp [s2, s3, s4, s5]
      refine Ev.swi (t := 40) (ls' := [_, _, _]) (st' := []) e_X8_door rfl rfl (by simp [swl, h0, h1, s2, s3, s4, s5]) ?_
      refine Ev.sn e_X8_door 1 (i' := 41) (ls' := [_, _, _]) (st' := [_]) rfl ?_
      refine Ev.iret e_X8_door rfl rfl rfl ?_ rfl
      simp only [S_door, hg, if_true]
      simp [s2, s3, s4, s5]
    · refine Ev.sn e_X8_door 1 (i' := 9) (ls' := [_, _, _]) (st' := [_]) rfl ?_
      refine Ev.iret e_X8_door rfl rfl rfl ?_ rfl
      rw [hc.hd] at h1
      simp [S_door, h1]
set_option maxRecDepth 20000 in
set_option maxHeartbeats 200000 in
theorem c_X8_now (d : Nat) (g : Nat → Nat → Int32) (tr : Int64) {n q dn : Nat} (hc : CI n q dn g) (x : Int32) : Ev (d + 4) 81 0 [.ref 0, .int x] [] (wC g tr) (some (.int (S_now n q (vC n q dn g) (g 90 1) x))) (wC g tr) := by
  have hb := hc.b
  refine Ev.sn e_X8_now 1 (i' := 1) (ls' := [_, _]) (st' := [_]) rfl ?_
  by_cases s0 : x = 0
  · refine Ev.swi (t := 2) (ls' := [_, _]) (st' := []) e_X8_now rfl rfl (by rw [s0]; rfl) ?_
    refine Ev.sn e_X8_now 2 (i' := 4) (ls' := [_, _]) (st' := [_]) rfl ?_
    refine Ev.clV e_X8_now rfl rfl (as := []) rfl rfl rfl kl_X2_useless rfl rfl rfl (c_X2_useless _ _ _ hc) rfl ?_
    refine Ev.iret e_X8_now rfl rfl rfl ?_ rfl
    simp [S_now, s0]
  by_cases s1 : x = 1
  · refine Ev.swi (t := 6) (ls' := [_, _]) (st' := []) e_X8_now rfl rfl (by rw [s1]; rfl) ?_
    refine Ev.sn e_X8_now 5 (i' := 11) (ls' := [_, _]) (st' := [_, _]) rfl ?_
    refine Ev.clV e_X8_now rfl rfl (as := [_]) rfl rfl rfl kl_X2_bareOf rfl rfl rfl (c_X2_bareOf _ _ _ hc _) rfl ?_
    refine Ev.iret e_X8_now rfl rfl rfl ?_ rfl
    subst s1
    rfl
  by_cases s2 : x = 2
  · refine Ev.swi (t := 6) (ls' := [_, _]) (st' := []) e_X8_now rfl rfl (by rw [s2]; rfl) ?_
    refine Ev.sn e_X8_now 5 (i' := 11) (ls' := [_, _]) (st' := [_, _]) rfl ?_
    refine Ev.clV e_X8_now rfl rfl (as := [_]) rfl rfl rfl kl_X2_bareOf rfl rfl rfl (c_X2_bareOf _ _ _ hc _) rfl ?_
    refine Ev.iret e_X8_now rfl rfl rfl ?_ rfl
    subst s2
    rfl
  by_cases s3 : x = 3
  · refine Ev.swi (t := 6) (ls' := [_, _]) (st' := []) e_X8_now rfl rfl (by rw [s3]; rfl) ?_
    refine Ev.sn e_X8_now 5 (i' := 11) (ls' := [_, _]) (st' := [_, _]) rfl ?_
    refine Ev.clV e_X8_now rfl rfl (as := [_]) rfl rfl rfl kl_X2_bareOf rfl rfl rfl (c_X2_bareOf _ _ _ hc _) rfl ?_
    refine Ev.iret e_X8_now rfl rfl rfl ?_ rfl
    subst s3
    rfl
  by_cases s4 : x = 4
  · refine Ev.swi (t := 13) (ls' := [_, _]) (st' := []) e_X8_now rfl rfl (by rw [s4]; rfl) ?_
    refine Ev.sn e_X8_now 2 (i' := 15) (ls' := [_, _]) (st' := [_]) rfl ?_
    refine Ev.clV e_X8_now rfl rfl (as := []) rfl rfl rfl kl_X2_ownedThings rfl rfl rfl (c_X2_ownedThings _ _ _ hc) rfl ?_
    refine Ev.iret e_X8_now rfl rfl rfl ?_ rfl
    simp [S_now, s0, s1, s2, s3, s4]
  by_cases s5 : x = 5
  · refine Ev.swi (t := 17) (ls' := [_, _]) (st' := []) e_X8_now rfl rfl (by rw [s5]; rfl) ?_
    refine Ev.sn e_X8_now 2 (i' := 19) (ls' := [_, _]) (st' := [_]) rfl ?_
    refine Ev.clV e_X8_now rfl rfl (as := []) rfl rfl rfl kl_X1_size rfl rfl rfl (c_X1_size _ _ _) rfl ?_
    refine Ev.iret e_X8_now rfl rfl rfl ?_ rfl
    simp [S_now, s0, s1, s2, s3, s4, s5]
  refine Ev.swi (t := 21) (ls' := [_, _]) (st' := []) e_X8_now rfl rfl (by simp [swl, s0, s1, s2, s3, s4, s5]) ?_
  refine Ev.sn e_X8_now 1 (i' := 22) (ls' := [_, _]) (st' := [_]) rfl ?_
  refine Ev.iret e_X8_now rfl rfl rfl ?_ rfl
  simp [S_now, s0, s1, s2, s3, s4, s5]
set_option maxRecDepth 20000 in
set_option maxHeartbeats 200000 in
theorem c_X8_count (d : Nat) (g : Nat → Nat → Int32) (tr : Int64) {n q dn : Nat} (hc : CI n q dn g) (x : Int32) : Ev (d + 1) 103 0 [.ref 0, .int x] [] (wC g tr) (some (.int (S_count n q dn (g 100 0) (g 0 0) x))) (wC g tr) := by
  have hb := hc.b
  refine Ev.sn e_X8_count 1 (i' := 1) (ls' := [_, _]) (st' := [_]) rfl ?_
  by_cases s0 : x = 0
  · refine Ev.swi (t := 2) (ls' := [_, _]) (st' := []) e_X8_count rfl rfl (by rw [s0]; rfl) ?_
    refine Ev.sn e_X8_count 4 (i' := 6) (ls' := [_, _]) (st' := [_]) rfl ?_
    refine Ev.iret e_X8_count rfl rfl rfl ?_ rfl
    simp [S_count, hc.hn, s0]
  by_cases s1 : x = 1
  · refine Ev.swi (t := 7) (ls' := [_, _]) (st' := []) e_X8_count rfl rfl (by rw [s1]; rfl) ?_
    refine Ev.sn e_X8_count 4 (i' := 11) (ls' := [_, _]) (st' := [_]) rfl ?_
    refine Ev.iret e_X8_count rfl rfl rfl ?_ rfl
    simp [S_count, hc.hq, s0, s1]
  by_cases s2 : x = 2
  · refine Ev.swi (t := 12) (ls' := [_, _]) (st' := []) e_X8_count rfl rfl (by rw [s2]; rfl) ?_
    refine Ev.sn e_X8_count 4 (i' := 16) (ls' := [_, _]) (st' := [_]) rfl ?_
    refine Ev.iret e_X8_count rfl rfl rfl ?_ rfl
    simp [S_count, hc.hd, s0, s1, s2]
  by_cases s3 : x = 3
  · refine Ev.swi (t := 17) (ls' := [_, _]) (st' := []) e_X8_count rfl rfl (by rw [s3]; rfl) ?_
    refine Ev.sn e_X8_count 2 (i' := 19) (ls' := [_, _]) (st' := [_]) rfl ?_
    refine Ev.clV e_X8_count rfl rfl (as := []) rfl rfl rfl kl_X7_size rfl rfl rfl (c_X7_size _ _ _) rfl ?_
    refine Ev.iret e_X8_count rfl rfl rfl ?_ rfl
    simp [S_count, s0, s1, s2, s3]
  by_cases s4 : x = 4
  · refine Ev.swi (t := 21) (ls' := [_, _]) (st' := []) e_X8_count rfl rfl (by rw [s4]; rfl) ?_
    refine Ev.sn e_X8_count 2 (i' := 23) (ls' := [_, _]) (st' := [_]) rfl ?_
    refine Ev.clV e_X8_count rfl rfl (as := []) rfl rfl rfl kl_X6_size rfl rfl rfl (c_X6_size _ _ _) rfl ?_
    refine Ev.iret e_X8_count rfl rfl rfl ?_ rfl
    simp [S_count, s0, s1, s2, s3, s4]
  refine Ev.swi (t := 25) (ls' := [_, _]) (st' := []) e_X8_count rfl rfl (by simp [swl, s0, s1, s2, s3, s4]) ?_
  refine Ev.sn e_X8_count 1 (i' := 26) (ls' := [_, _]) (st' := [_]) rfl ?_
  refine Ev.iret e_X8_count rfl rfl rfl ?_ rfl
  simp [S_count, s0, s1, s2, s3, s4]
set_option maxRecDepth 20000 in
set_option maxHeartbeats 200000 in
theorem c_X8_trace (d : Nat) (g : Nat → Nat → Int32) (tr : Int64) : Ev d 104 0 [.ref 0] [] (wC g tr) (some (.long tr)) (wC g tr) := by
  refine Ev.sn e_X8_trace 2 (i' := 2) (ls' := [_]) (st' := [_]) rfl ?_
  refine Ev.lret e_X8_trace rfl rfl ?_ rfl
  rfl
end
section
/-! the class's other public methods -/
theorem bF {b : Bool} (h : b = true) : ¬ bI b = 0 := by rw [h]; decide
theorem bT {b : Bool} (h : b = false) : bI b = 0 := by rw [h]; rfl
theorem bitI_nI : ∀ p, p < 6 → bitI p = nI (2 ^ p) := by decide
theorem nI_or (a b : Nat) : nI a ||| nI b = nI (a ||| b) := by
  apply Int32.toBitVec_inj.mp
  show (nI a).toBitVec ||| (nI b).toBitVec = (nI (a ||| b)).toBitVec
  apply BitVec.eq_of_toNat_eq
  simp only [nI, BitVec.toNat_or]
  show (BitVec.ofNat 32 a).toNat ||| (BitVec.ofNat 32 b).toNat = (BitVec.ofNat 32 (a ||| b)).toNat
  simp only [BitVec.toNat_ofNat]
  rw [Nat.or_mod_two_pow]
/-- a set of at most six bits -/
theorem orB {c : Nat → Bool} {f : Nat → Int32 → Int32} (hf : ∀ t a, f t a = if c t = true then a ||| bitI t else a) : ∀ (k p m : Nat), p + k ≤ 6 → m < 2 ^ p → ∃ m', m' < 2 ^ (p + k) ∧ fo f k p (nI m) = nI m'
  | 0, p, m, _, h => ⟨m, h, rfl⟩
  | k + 1, p, m, hp, h => by
    show ∃ m', _ ∧ fo f k (p + 1) (f p (nI m)) = nI m'
    rw [hf]
    have e : p + (k + 1) = p + 1 + k := by omega
    rw [e]
    have h2 : 2 ^ p < 2 ^ (p + 1) := by rw [Nat.pow_succ]; have := Nat.two_pow_pos p; omega
    by_cases hc : c p = true
    · rw [if_pos hc, bitI_nI p (by omega), nI_or]
      exact orB hf k (p + 1) _ (by omega) (Nat.or_lt_two_pow (by omega) h2)
    · rw [if_neg hc]
      exact orB hf k (p + 1) m (by omega) (by omega)
theorem orB6 {c : Nat → Bool} {f : Nat → Int32 → Int32} (hf : ∀ t a, f t a = if c t = true then a ||| bitI t else a) {k : Nat} (hk : k ≤ 6) : ∃ m, m < 64 ∧ fo f k 0 0 = nI m := by
  obtain ⟨m, h1, h2⟩ := orB hf k 0 0 (by omega) (by decide)
  refine ⟨m, Nat.lt_of_lt_of_le h1 ?_, h2⟩
  rw [Nat.zero_add]
  exact Nat.pow_le_pow_right (by omega) hk
theorem bc64 : ∀ m, m < 64 → bcI (nI m) = nI ((bcI (nI m)).toNatClampNeg) ∧ (bcI (nI m)).toNatClampNeg ≤ 6 := by decide +kernel
theorem PIF_m {q : Nat} (hq : q ≤ 5) (v : VW) (t : Nat) : ∃ m, m < 64 ∧ PIF q v t = nI m := orB6 (c := fun p => fpB v t p) (fun _ _ => rfl) (by omega)
theorem ULS_m {n : Nat} (hn : n ≤ 6) (q : Nat) (v : VW) : ∃ m, m < 64 ∧ ULS n q v = nI m := orB6 (c := fun t => decide (PIF q v t = 0)) (fun t a => by simp) hn
theorem TOF_m {n : Nat} (hn : n ≤ 6) (v : VW) (p : Int32) : ∃ m, m < 64 ∧ TOF n v p = nI m := orB6 (c := fun t => decide (v 12 t = p)) (fun t a => by simp) hn
theorem OWN_m {n : Nat} (hn : n ≤ 6) (v : VW) : ∃ m, m < 64 ∧ OWN n v = nI m := orB6 (c := fun t => decide (¬ v 12 t = -9)) (fun t a => by by_cases h : v 12 t = -9 <;> simp [h]) hn
set_option maxRecDepth 20000 in
set_option maxHeartbeats 200000 in
theorem c_X8_tries_b (d : Nat) (g : Nat → Nat → Int32) (tr : Int64) {n q dn : Nat} (hc : CI n q dn g) (t x : Int32) (h : ((decide (0 ≤ t) && decide (t < nI n)) && (decide (x = 0) || decide (x = 1))) = false) : Ev (d + 2) 88 0 [.ref 0, .int t, .int x] [] (wC g tr) (some (.int (-1))) (wC g tr) := by
  have hb := hc.b
  refine Ev.sn e_X8_tries 3 (i' := 3) (ls' := [_, _, _]) (st' := [_, _]) rfl ?_
  refine Ev.clV e_X8_tries rfl rfl (as := [_]) rfl rfl rfl kl_X2_hasThing rfl rfl rfl (c_X2_hasThing _ _ _ hc _) rfl ?_
  refine Ev.brB (i1 := 8) (i2 := 5) e_X8_tries rfl rfl (fun h0 => ?_) (fun h0 => ?_)
  · refine Ev.sn e_X8_tries 1 (i' := 9) (ls' := [_, _, _]) (st' := [_]) rfl ?_
    refine Ev.iret e_X8_tries rfl rfl rfl ?_ rfl
    rfl
  · refine Ev.sn e_X8_tries 1 (i' := 6) (ls' := [_, _, _]) (st' := [_]) rfl ?_
    refine Ev.clS e_X8_tries rfl rfl rfl (as := [_]) rfl rfl rfl rfl rfl (c_X8_isFirstOrSecond _ _ _) rfl ?_
    refine Ev.brB (i1 := 8) (i2 := 10) e_X8_tries rfl rfl (fun h1 => ?_) (fun h1 => ?_)
    · refine Ev.sn e_X8_tries 1 (i' := 9) (ls' := [_, _, _]) (st' := [_]) rfl ?_
      refine Ev.iret e_X8_tries rfl rfl rfl ?_ rfl
      rfl
    · exact absurd h (by rw [h0, h1]; decide)
set_option maxRecDepth 20000 in
set_option maxHeartbeats 200000 in
theorem c_X8_tries_f (d : Nat) (g : Nat → Nat → Int32) (tr : Int64) {n q dn : Nat} (hc : CI n q dn g) (t x : Int32) (h1 : (decide (0 ≤ t) && decide (t < nI n)) = true) (h2 : (decide (x = 0) || decide (x = 1)) = true) (hk : g 100 0 = nI 6) : Ev (d + 2) 88 0 [.ref 0, .int t, .int x] [] (wC g tr) (some (.int (-3))) (wC g tr) := by
  have hb := hc.b
  refine Ev.sn e_X8_tries 3 (i' := 3) (ls' := [_, _, _]) (st' := [_, _]) rfl ?_
  refine Ev.clV e_X8_tries rfl rfl (as := [_]) rfl rfl rfl kl_X2_hasThing rfl rfl rfl (c_X2_hasThing _ _ _ hc _) rfl ?_
  refine Ev.brF (i1 := 8) (i2 := 5) e_X8_tries rfl rfl (bF h1) ?_
  refine Ev.sn e_X8_tries 1 (i' := 6) (ls' := [_, _, _]) (st' := [_]) rfl ?_
  refine Ev.clS e_X8_tries rfl rfl rfl (as := [_]) rfl rfl rfl rfl rfl (c_X8_isFirstOrSecond _ _ _) rfl ?_
  refine Ev.brF (i1 := 8) (i2 := 10) e_X8_tries rfl rfl (bF h2) ?_
  refine Ev.sn e_X8_tries 2 (i' := 12) (ls' := [_, _, _]) (st' := [_]) rfl ?_
  refine Ev.clV e_X8_tries rfl rfl (as := []) rfl rfl rfl kl_X7_isFull rfl rfl rfl (c_X7_isFull _ _ _ hk (by omega)) rfl ?_
  refine Ev.brF (i1 := 16) (i2 := 14) e_X8_tries rfl rfl ((by decide)) ?_
  refine Ev.sn e_X8_tries 1 (i' := 15) (ls' := [_, _, _]) (st' := [_]) rfl ?_
  refine Ev.iret e_X8_tries rfl rfl rfl ?_ rfl
  rfl
set_option maxRecDepth 20000 in
set_option maxHeartbeats 200000 in
theorem c_X8_tries_s (d : Nat) (g : Nat → Nat → Int32) (tr : Int64) {n q dn : Nat} (hc : CI n q dn g) (t x : Int32) (h1 : (decide (0 ≤ t) && decide (t < nI n)) = true) (h2 : (decide (x = 0) || decide (x = 1)) = true) {k : Nat} (hk : g 100 0 = nI k) (hk6 : k < 6) : Ev (d + 2) 88 0 [.ref 0, .int t, .int x] [] (wC g tr) (some (.int (nI (k + 1)))) (wC (va_up (va_up (va_up g 98 (upd (g 98) k t)) 99 (upd (g 99) k x)) 100 (upd (g 100) 0 (nI (k + 1)))) tr) := by
  have hb := hc.b
  have h01 : x = 0 ∨ x = 1 := by simpa using h2
  refine Ev.sn e_X8_tries 3 (i' := 3) (ls' := [_, _, _]) (st' := [_, _]) rfl ?_
  refine Ev.clV e_X8_tries rfl rfl (as := [_]) rfl rfl rfl kl_X2_hasThing rfl rfl rfl (c_X2_hasThing _ _ _ hc _) rfl ?_
  refine Ev.brF (i1 := 8) (i2 := 5) e_X8_tries rfl rfl (bF h1) ?_
  refine Ev.sn e_X8_tries 1 (i' := 6) (ls' := [_, _, _]) (st' := [_]) rfl ?_
  refine Ev.clS e_X8_tries rfl rfl rfl (as := [_]) rfl rfl rfl rfl rfl (c_X8_isFirstOrSecond _ _ _) rfl ?_
  refine Ev.brF (i1 := 8) (i2 := 10) e_X8_tries rfl rfl (bF h2) ?_
  refine Ev.sn e_X8_tries 2 (i' := 12) (ls' := [_, _, _]) (st' := [_]) rfl ?_
  refine Ev.clV e_X8_tries rfl rfl (as := []) rfl rfl rfl kl_X7_isFull rfl rfl rfl (c_X7_isFull _ _ _ hk (by omega)) rfl ?_
  refine Ev.brT (i1 := 16) (i2 := 14) e_X8_tries rfl rfl ((by rw [bI_0]; simp; omega)) ?_
  refine Ev.sn e_X8_tries 5 (i' := 21) (ls' := [_, _, _]) (st' := [_, _, _, _]) rfl ?_
  refine Ev.br (i1 := 22) (i2 := 24) e_X8_tries rfl rfl (fun hx1 => ?_) (fun hx1 => ?_)
  · refine Ev.sn e_X8_tries 2 (i' := 25) (ls' := [_, _, _]) (st' := [_, _, _]) rfl ?_
    refine Ev.clV e_X8_tries rfl rfl (as := [_, _]) rfl rfl rfl kl_X7_add rfl rfl rfl (by rw [show (1 : Int32) = x from hx1.symm]; exact c_X7_add _ _ _ hk hk6 _ _ h01) rfl ?_
    refine Ev.sn e_X8_tries 2 (i' := 28) (ls' := [_, _, _]) (st' := [_]) rfl ?_
    refine Ev.clV e_X8_tries rfl rfl (as := []) rfl rfl rfl kl_X7_size rfl rfl rfl (c_X7_size _ _ _) rfl ?_
    refine Ev.iret e_X8_tries rfl rfl rfl ?_ rfl
    rfl
  · refine Ev.sn e_X8_tries 1 (i' := 25) (ls' := [_, _, _]) (st' := [_, _, _]) rfl ?_
    refine Ev.clV e_X8_tries rfl rfl (as := [_, _]) rfl rfl rfl kl_X7_add rfl rfl rfl (by rw [show (0 : Int32) = x from (h01.resolve_right hx1).symm]; exact c_X7_add _ _ _ hk hk6 _ _ h01) rfl ?_
    refine Ev.sn e_X8_tries 2 (i' := 28) (ls' := [_, _, _]) (st' := [_]) rfl ?_
    refine Ev.clV e_X8_tries rfl rfl (as := []) rfl rfl rfl kl_X7_size rfl rfl rfl (c_X7_size _ _ _) rfl ?_
    refine Ev.iret e_X8_tries rfl rfl rfl ?_ rfl
    rfl
set_option maxRecDepth 20000 in
set_option maxHeartbeats 200000 in
theorem c_X8_forget (d : Nat) (g : Nat → Nat → Int32) (tr : Int64) : Ev (d + 1) 89 0 [.ref 0, .null] [] (wC g tr) (some (.int (g 100 0))) (wC (va_up g 100 (upd (g 100) 0 0)) tr) := by
  refine Ev.sn e_X8_forget 2 (i' := 2) (ls' := [_, _]) (st' := [_]) rfl ?_
  refine Ev.clV e_X8_forget rfl rfl (as := []) rfl rfl rfl kl_X7_size rfl rfl rfl (c_X7_size _ _ _) rfl ?_
  refine Ev.sn e_X8_forget 3 (i' := 6) (ls' := [_, _]) (st' := [_]) rfl ?_
  refine Ev.clV e_X8_forget rfl rfl (as := []) rfl rfl rfl kl_X7_loseAll rfl rfl rfl (c_X7_loseAll _ _ _) rfl ?_
  refine Ev.sn e_X8_forget 1 (i' := 8) (ls' := [_, _]) (st' := [_]) rfl ?_
  refine Ev.iret e_X8_forget rfl rfl rfl ?_ rfl
  rfl
def gSz (z x : Int32) : Bool := (decide (1 ≤ z) && decide (z ≤ 99)) && (decide (x = 0) || decide (x = 1))
def S_mayBe (k : Nat) (u v : VW) (z x : Int32) : Int32 := if gSz z x = true then (if x = 0 then SLF k u v z else LSC k u v z) else -1
set_option maxRecDepth 20000 in
set_option maxHeartbeats 200000 in
theorem c_X8_mayBe (d : Nat) (g : Nat → Nat → Int32) (tr : Int64) {n q dn : Nat} (hc : CI n q dn g) {k : Nat} (hk : g 100 0 = nI k) (ht : TI n k (tC k g)) (z x : Int32) : Ev (d + 4) 90 0 [.ref 0, .int z, .int x] [] (wC g tr) (some (.int (S_mayBe k (tC k g) (vC n q dn g) z x))) (wC g tr) := by
  refine Ev.sn e_X8_mayBe 1 (i' := 1) (ls' := [_, _, _]) (st' := [_]) rfl ?_
  refine Ev.clS e_X8_mayBe rfl rfl rfl (as := [_]) rfl rfl rfl rfl rfl (c_X8_isSize _ _ _) rfl ?_
  refine Ev.brB (i1 := 6) (i2 := 3) e_X8_mayBe rfl rfl (fun h0 => ?_) (fun h0 => ?_)
  · refine Ev.sn e_X8_mayBe 1 (i' := 7) (ls' := [_, _, _]) (st' := [_]) rfl ?_
    refine Ev.iret e_X8_mayBe rfl rfl rfl ?_ rfl
    simp [S_mayBe, gSz, h0]
  · refine Ev.sn e_X8_mayBe 1 (i' := 4) (ls' := [_, _, _]) (st' := [_]) rfl ?_
    refine Ev.clS e_X8_mayBe rfl rfl rfl (as := [_]) rfl rfl rfl rfl rfl (c_X8_isFirstOrSecond _ _ _) rfl ?_
    refine Ev.brB (i1 := 6) (i2 := 8) e_X8_mayBe rfl rfl (fun h1 => ?_) (fun h1 => ?_)
    · refine Ev.sn e_X8_mayBe 1 (i' := 7) (ls' := [_, _, _]) (st' := [_]) rfl ?_
      refine Ev.iret e_X8_mayBe rfl rfl rfl ?_ rfl
      simp [S_mayBe, gSz, h0, h1]
    · refine Ev.sn e_X8_mayBe 1 (i' := 9) (ls' := [_, _, _]) (st' := [_]) rfl ?_
      refine Ev.br (i1 := 10) (i2 := 17) e_X8_mayBe rfl rfl (fun h2 => ?_) (fun h2 => ?_)
      · refine Ev.sn e_X8_mayBe 5 (i' := 15) (ls' := [_, _, _]) (st' := [_, _, _]) rfl ?_
        refine Ev.clV e_X8_mayBe rfl rfl (as := [_, _]) rfl rfl rfl kl_X7_scalesLeft rfl rfl rfl (c_X7_scalesLeft _ _ _ hc hk ht _) rfl ?_
        refine Ev.sn e_X8_mayBe 1 (i' := 23) (ls' := [_, _, _]) (st' := [_]) rfl ?_
        refine Ev.iret e_X8_mayBe rfl rfl rfl ?_ rfl
        simp only [S_mayBe, gSz, h0, h1, Bool.and_self, if_true]
        simp [h2]
      · refine Ev.sn e_X8_mayBe 5 (i' := 22) (ls' := [_, _, _]) (st' := [_, _, _]) rfl ?_
        refine Ev.clV e_X8_mayBe rfl rfl (as := [_, _]) rfl rfl rfl kl_X7_leastScale rfl rfl rfl (c_X7_leastScale _ _ _ hc hk ht _) rfl ?_
        refine Ev.iret e_X8_mayBe rfl rfl rfl ?_ rfl
        simp only [S_mayBe, gSz, h0, h1, Bool.and_self, if_true]
        simp [h2]
theorem BTT_ix {k : Nat} {u v : VW} {z : Int32} : ∀ (j p N : Nat) (a : Int32 × Int32), p + j = N → (a.1 = -9 ∨ ∃ t, t < p ∧ a.1 = nI t) → ((fo (stBT k u v z) j p a).1 = -9 ∨ ∃ t, t < N ∧ (fo (stBT k u v z) j p a).1 = nI t)
  | 0, p, N, a, h, ha => by
    have : p = N := by omega
    subst this
    exact ha
  | j + 1, p, N, a, h, ha => by
    refine BTT_ix j (p + 1) N (stBT k u v z p a) (by omega) ?_
    unfold stBT
    split
    · exact Or.inr ⟨p, by omega, rfl⟩
    · rcases ha with h | ⟨t, h1, h2⟩
      · exact Or.inl h
      · exact Or.inr ⟨t, by omega, h2⟩
def S_next (n k : Nat) (u v : VW) (z x : Int32) : Int32 := if gSz z x = true then (if (BTT n k u v z).1 = -9 then (BTT n k u v z).1 else if x = 0 then (BTT n k u v z).1 else LAW k u v z (BTT n k u v z).1.toNatClampNeg) else -1
set_option maxRecDepth 20000 in
set_option maxHeartbeats 200000 in
theorem c_X8_next (d : Nat) (g : Nat → Nat → Int32) (tr : Int64) {n q dn : Nat} (hc : CI n q dn g) {k : Nat} (hk : g 100 0 = nI k) (ht : TI n k (tC k g)) (z x : Int32) : Ev (d + 5) 91 0 [.ref 0, .int z, .int x, .null] [] (wC g tr) (some (.int (S_next n k (tC k g) (vC n q dn g) z x))) (wC g tr) := by
  refine Ev.sn e_X8_next 1 (i' := 1) (ls' := [_, _, _, _]) (st' := [_]) rfl ?_
  refine Ev.clS e_X8_next rfl rfl rfl (as := [_]) rfl rfl rfl rfl rfl (c_X8_isSize _ _ _) rfl ?_
  refine Ev.brB (i1 := 6) (i2 := 3) e_X8_next rfl rfl (fun h0 => ?_) (fun h0 => ?_)
  · refine Ev.sn e_X8_next 1 (i' := 7) (ls' := [_, _, _, _]) (st' := [_]) rfl ?_
    refine Ev.iret e_X8_next rfl rfl rfl ?_ rfl
    simp [S_next, gSz, h0]
  · refine Ev.sn e_X8_next 1 (i' := 4) (ls' := [_, _, _, _]) (st' := [_]) rfl ?_
    refine Ev.clS e_X8_next rfl rfl rfl (as := [_]) rfl rfl rfl rfl rfl (c_X8_isFirstOrSecond _ _ _) rfl ?_
    refine Ev.brB (i1 := 6) (i2 := 8) e_X8_next rfl rfl (fun h1 => ?_) (fun h1 => ?_)
    · refine Ev.sn e_X8_next 1 (i' := 7) (ls' := [_, _, _, _]) (st' := [_]) rfl ?_
      refine Ev.iret e_X8_next rfl rfl rfl ?_ rfl
      simp [S_next, gSz, h0, h1]
    · refine Ev.sn e_X8_next 5 (i' := 13) (ls' := [_, _, _, _]) (st' := [_, _, _]) rfl ?_
      refine Ev.clV e_X8_next rfl rfl (as := [_, _]) rfl rfl rfl kl_X7_bestToTry rfl rfl rfl (c_X7_bestToTry _ _ _ hc hk ht _) rfl ?_
      refine Ev.sn e_X8_next 3 (i' := 17) (ls' := [_, _, _, _]) (st' := [_, _]) rfl ?_
      refine Ev.br (i1 := 20) (i2 := 18) e_X8_next rfl rfl (fun h2 => ?_) (fun h2 => ?_)
      · refine Ev.sn e_X8_next 1 (i' := 21) (ls' := [_, _, _, _]) (st' := [_]) rfl ?_
        refine Ev.iret e_X8_next rfl rfl rfl ?_ rfl
        simp only [S_next, gSz, h0, h1, Bool.and_self, if_true]
        rw [if_pos h2]
      · refine Ev.sn e_X8_next 1 (i' := 19) (ls' := [_, _, _, _]) (st' := [_]) rfl ?_
        refine Ev.br (i1 := 20) (i2 := 22) e_X8_next rfl rfl (fun h3 => ?_) (fun h3 => ?_)
        · refine Ev.sn e_X8_next 1 (i' := 21) (ls' := [_, _, _, _]) (st' := [_]) rfl ?_
          refine Ev.iret e_X8_next rfl rfl rfl ?_ rfl
          simp only [S_next, gSz, h0, h1, Bool.and_self, if_true]
          rw [if_neg h2, if_pos h3]
        · have hix := BTT_ix (k := k) (u := (tC k g)) (v := (vC n q dn g)) (z := z) n 0 n (-9, 49) (by omega) (Or.inl rfl)
          obtain ⟨j, hj, ej⟩ := hix.resolve_left h2
          have ej : (BTT n k (tC k g) (vC n q dn g) z).1 = nI j := ej
          have hb := hc.b
          refine Ev.sn e_X8_next 6 (i' := 28) (ls' := [_, _, _, _]) (st' := [_, _, _, _]) rfl ?_
          refine Ev.clV e_X8_next rfl rfl (as := [_, _, _]) rfl rfl rfl kl_X7_leftAtWorst rfl rfl rfl (by rw [ej]; exact c_X7_leftAtWorst _ _ _ hc hk ht z hj) rfl ?_
          refine Ev.iret e_X8_next rfl rfl rfl ?_ rfl
          simp only [S_next, gSz, h0, h1, Bool.and_self, if_true]
          rw [if_neg h2, if_neg h3, ej, nI_clamp (by omega)]
/-- the least of those at which T is most, of 1 .. 48 -/
def stAM (T : Nat → Int32) (s b : Nat) : Nat := if T s ≤ T b then b else s
def AMX (T : Nat → Int32) : Nat := fo (stAM T) 47 2 1
theorem stAM_or (T : Nat → Int32) (s b : Nat) : stAM T s b = b ∨ stAM T s b = s := by
  unfold stAM
  by_cases h : T s ≤ T b
  · exact Or.inl (if_pos h)
  · exact Or.inr (if_neg h)
theorem AMX_in {T : Nat → Int32} (k : Nat) : ∀ (p b : Nat), p + k = 49 → 1 ≤ b → b ≤ 48 → 1 ≤ p → 1 ≤ fo (stAM T) k p b ∧ fo (stAM T) k p b ≤ 48 := by
  induction k with
  | zero => intro p b _ h1 h2 _; exact ⟨h1, h2⟩
  | succ k ih =>
    intro p b h h1 h2 h3
    rw [fo_s]
    rcases stAM_or T p b with h4 | h4
    · rw [h4]; exact ih (p + 1) b (by omega) h1 h2 (by omega)
    · rw [h4]; exact ih (p + 1) p (by omega) (by omega) (by omega) (by omega)
theorem AMX_congr {T T' : Nat → Int32} (hT : ∀ s, 1 ≤ s → s ≤ 48 → T s = T' s) (k : Nat) : ∀ (p b : Nat), p + k = 49 → 1 ≤ b → b ≤ 48 → 1 ≤ p → fo (stAM T) k p b = fo (stAM T') k p b := by
  induction k with
  | zero =>
    intro p b _ _ _ _
    show b = b
    rfl
  | succ k ih =>
    intro p b h h1 h2 h3
    rw [fo_s, fo_s]
    have hp48 : p ≤ 48 := by omega
    have e : stAM T p b = stAM T' p b := by
      unfold stAM
      rw [hT p h3 hp48, hT b h1 h2]
    rw [e]
    rcases stAM_or T' p b with h4 | h4
    · rw [h4]; exact ih (p + 1) b (by omega) h1 h2 (by omega)
    · rw [h4]; exact ih (p + 1) p (by omega) (by omega) (by omega) (by omega)
def filT (T : Nat → Int32) (k p : Nat) (f : Nat → Int32) : Nat → Int32 := fo (fun s f => upd f s (T s)) k p f
theorem filT_at {T : Nat → Int32} : ∀ (k p : Nat) (f : Nat → Int32) (s : Nat), filT T k p f s = if p ≤ s ∧ s < p + k then T s else f s
  | 0, p, f, s => by
    rw [if_neg (by omega)]
    rfl
  | k + 1, p, f, s => by
    show filT T k (p + 1) (upd f p (T p)) s = _
    rw [filT_at k (p + 1)]
    by_cases h : s = p
    · subst h
      rw [if_neg (by omega), if_pos (by omega), pk_us]
    · rw [pk_un h]
      by_cases h2 : p + 1 ≤ s ∧ s < p + 1 + k
      · rw [if_pos h2, if_pos (by omega)]
      · rw [if_neg h2, if_neg (by omega)]
set_option maxRecDepth 20000 in
set_option maxHeartbeats 200000 in
theorem lp_X8_scaleOfMost (d : Nat) (g : Nat → Nat → Int32) (tr : Int64) : ∀ (k p b : Nat), p + k = 49 → 1 ≤ b → b ≤ 48 → 1 ≤ p → Ev d 94 4 [.ref 0, .int (nI b), .int (nI p)] [] (wC g tr) (some (.int (nI (fo (stAM (g 104)) k p b)))) (wC g tr) := by
  intro k
  induction k with
  | zero =>
    intro p b hp h1 h2 h3
    refine Ev.sn e_X8_scaleOfMost 2 (i' := 6) (ls' := [_, _, _]) (st' := [_, _]) rfl ?_
    refine Ev.brT (i1 := 20) (i2 := 7) e_X8_scaleOfMost rfl rfl (nI_lt (a := 48) (by omega) (by omega)) ?_
    refine Ev.sn e_X8_scaleOfMost 1 (i' := 21) (ls' := [_, _, _]) (st' := [_]) rfl ?_
    refine Ev.iret e_X8_scaleOfMost rfl rfl rfl ?_ rfl
    rfl
  | succ k ih =>
    intro p b hp h1 h2 h3
    rw [fo_s (k := k)]
    unfold stAM
    refine Ev.sn e_X8_scaleOfMost 2 (i' := 6) (ls' := [_, _, _]) (st' := [_, _]) rfl ?_
    refine Ev.brF (i1 := 20) (i2 := 7) e_X8_scaleOfMost rfl rfl (nI_nlt (a := 48) (by omega) (by omega)) ?_
    refine Ev.sn e_X8_scaleOfMost 3 (i' := 10) (ls' := [_, _, _]) (st' := [_, _]) rfl ?_
    refine Ev.ialdE e_X8_scaleOfMost rfl rfl rfl rfl rfl (by omega) ?_
    refine Ev.sn e_X8_scaleOfMost 3 (i' := 14) (ls' := [_, _, _]) (st' := [_, _, _]) rfl ?_
    refine Ev.ialdE e_X8_scaleOfMost rfl rfl rfl rfl rfl (by omega) ?_
    refine Ev.br (i1 := 18) (i2 := 16) e_X8_scaleOfMost rfl rfl (fun h0 => ?_) (fun h0 => ?_)
    · refine Ev.sn e_X8_scaleOfMost 2 (i' := 4) (ls' := [_, _, _]) (st' := []) rfl ?_
      rw [if_pos h0, nI_1]
      exact ih (p + 1) b (by omega) h1 h2 (by omega)
    · refine Ev.sn e_X8_scaleOfMost 4 (i' := 4) (ls' := [_, _, _]) (st' := []) rfl ?_
      rw [if_neg h0, nI_1]
      exact ih (p + 1) p (by omega) (by omega) (by omega) (by omega)
set_option maxRecDepth 20000 in
set_option maxHeartbeats 200000 in
theorem c_X8_scaleOfMost (d : Nat) (g : Nat → Nat → Int32) (tr : Int64) : Ev d 94 0 [.ref 0, .null, .null] [] (wC g tr) (some (.int (nI (AMX (g 104))))) (wC g tr) := by
  refine Ev.sn e_X8_scaleOfMost 4 (i' := 4) (ls' := [_, _, _]) (st' := []) rfl ?_
  exact lp_X8_scaleOfMost _ _ _ 47 2 1 rfl (by omega) (by omega) (by omega)
def S_best (T : Nat → Int32) (x : Int32) : Int32 := if x = 0 then nI (AMX T) else T (AMX T)
set_option maxRecDepth 20000 in
set_option maxHeartbeats 200000 in
theorem lp_X8_bestScale (d : Nat) (g : Nat → Nat → Int32) (tr : Int64) {n q dn : Nat} (hc : CI n q dn g) (x : Int32) (r : Option Value) (w2 : AW) : ∀ (k p : Nat) (f : Nat → Int32), p + k = 49 → 1 ≤ p → Ev (d + 2) 92 20 [.ref 0, .int x, .null] [] (wC (va_up g 104 (filT (fun s => TWO n q (vC n q dn g) (nI s)) k p f)) tr) r w2 → Ev (d + 2) 92 7 [.ref 0, .int x, .int (nI p)] [] (wC (va_up g 104 f) tr) r w2 := by
  intro k
  induction k with
  | zero =>
    intro p f hp h1 K
    refine Ev.sn e_X8_bestScale 2 (i' := 9) (ls' := [_, _, _]) (st' := [_, _]) rfl ?_
    refine Ev.brT (i1 := 20) (i2 := 10) e_X8_bestScale rfl rfl (nI_lt (a := 48) (by omega) (by omega)) ?_
    exact Ev.weak (lle_c (lle_c (lle_n lle_0))) K
  | succ k ih =>
    intro p f hp h1 K
    have hc2 : CI n q dn (va_up g 104 f) := hc
    refine Ev.sn e_X8_bestScale 2 (i' := 9) (ls' := [_, _, _]) (st' := [_, _]) rfl ?_
    refine Ev.brF (i1 := 20) (i2 := 10) e_X8_bestScale rfl rfl (nI_nlt (a := 48) (by omega) (by omega)) ?_
    refine Ev.sn e_X8_bestScale 6 (i' := 16) (ls' := [_, _, _]) (st' := [_, _, _, _]) rfl ?_
    refine Ev.clV e_X8_bestScale rfl rfl (as := [_]) rfl rfl rfl kl_X2_twosIfAllThingsWere rfl rfl rfl (c_X2_twosIfAllThingsWere _ _ _ hc2 _) rfl ?_
    refine Ev.iastE e_X8_bestScale rfl rfl rfl rfl (by omega) (w1 := (wC (va_up g 104 (upd f p ((fun s => TWO n q (vC n q dn g) (nI s)) p))) tr)) rfl ?_
    refine Ev.sn e_X8_bestScale 2 (i' := 7) (ls' := [_, _, _]) (st' := []) rfl ?_
    rw [nI_1]
    exact ih (p + 1) _ (by omega) (by omega) K
set_option maxRecDepth 20000 in
set_option maxHeartbeats 200000 in
theorem c_X8_bestScale_s (d : Nat) (g : Nat → Nat → Int32) (tr : Int64) {n q dn : Nat} (hc : CI n q dn g) (x : Int32) (hx : (decide (x = 0) || decide (x = 1)) = true) : Ev (d + 2) 92 0 [.ref 0, .int x, .null] [] (wC g tr) (some (.int (S_best (fun s => TWO n q (vC n q dn g) (nI s)) x))) (wC (va_up g 104 (filT (fun s => TWO n q (vC n q dn g) (nI s)) 48 1 (g 104))) tr) := by
  have hb := hc.b
  refine Ev.sn e_X8_bestScale 1 (i' := 1) (ls' := [_, _, _]) (st' := [_]) rfl ?_
  refine Ev.clS e_X8_bestScale rfl rfl rfl (as := [_]) rfl rfl rfl rfl rfl (c_X8_isFirstOrSecond _ _ _) rfl ?_
  refine Ev.brF (i1 := 3) (i2 := 5) e_X8_bestScale rfl rfl (bF hx) ?_
  refine Ev.sn e_X8_bestScale 2 (i' := 7) (ls' := [_, _, _]) (st' := []) rfl ?_
  refine Ev.wd (w2 := (wC (va_up g 104 (g 104)) tr)) rfl ?_
  refine lp_X8_bestScale _ _ _ hc _ _ _ 48 1 (g 104) rfl (by omega) ?_
  have hm : AMX (filT (fun s => TWO n q (vC n q dn g) (nI s)) 48 1 (g 104)) = AMX (fun s => TWO n q (vC n q dn g) (nI s)) := AMX_congr (fun s h1 h2 => by rw [filT_at, if_pos (by omega)]) 47 2 1 rfl (by omega) (by omega) (by omega)
  have hin : 1 ≤ AMX (fun s => TWO n q (vC n q dn g) (nI s)) ∧ AMX (fun s => TWO n q (vC n q dn g) (nI s)) ≤ 48 := AMX_in 47 2 1 rfl (by omega) (by omega) (by omega)
  have hs := c_X8_scaleOfMost (d + 1) (va_up g 104 (filT (fun s => TWO n q (vC n q dn g) (nI s)) 48 1 (g 104))) tr
  rw [show (va_up g 104 (filT (fun s => TWO n q (vC n q dn g) (nI s)) 48 1 (g 104))) 104 = filT (fun s => TWO n q (vC n q dn g) (nI s)) 48 1 (g 104) from rfl, hm] at hs
  refine Ev.sn e_X8_bestScale 1 (i' := 21) (ls' := [_, _, _]) (st' := [_]) rfl ?_
  refine Ev.clV e_X8_bestScale rfl rfl (as := []) rfl rfl rfl kl_X8_scaleOfMost rfl rfl rfl (hs) rfl ?_
  refine Ev.sn e_X8_bestScale 2 (i' := 24) (ls' := [_, _, _]) (st' := [_]) rfl ?_
  refine Ev.br (i1 := 25) (i2 := 27) e_X8_bestScale rfl rfl (fun h0 => ?_) (fun h0 => ?_)
  · refine Ev.sn e_X8_bestScale 2 (i' := 31) (ls' := [_, _, _]) (st' := [_]) rfl ?_
    refine Ev.iret e_X8_bestScale rfl rfl rfl ?_ rfl
    simp [S_best, h0]
  · refine Ev.sn e_X8_bestScale 3 (i' := 30) (ls' := [_, _, _]) (st' := [_, _]) rfl ?_
    refine Ev.ialdE e_X8_bestScale rfl rfl rfl rfl (by rfl) (show AMX (fun s => TWO n q (vC n q dn g) (nI s)) < 49 from by omega) ?_
    refine Ev.iret e_X8_bestScale rfl rfl rfl ?_ rfl
    simp only [S_best, h0, if_false]
    show filT (fun s => TWO n q (vC n q dn g) (nI s)) 48 1 (g 104) (AMX (fun s => TWO n q (vC n q dn g) (nI s))) = _
    rw [filT_at, if_pos (by omega)]
set_option maxRecDepth 20000 in
set_option maxHeartbeats 200000 in
theorem c_X8_bestScale_b (d : Nat) (g : Nat → Nat → Int32) (tr : Int64) {n q dn : Nat} (hc : CI n q dn g) (x : Int32) (hx : (decide (x = 0) || decide (x = 1)) = false) : Ev (d + 2) 92 0 [.ref 0, .int x, .null] [] (wC g tr) (some (.int (-1))) (wC g tr) := by
  have hb := hc.b
  refine Ev.sn e_X8_bestScale 1 (i' := 1) (ls' := [_, _, _]) (st' := [_]) rfl ?_
  refine Ev.clS e_X8_bestScale rfl rfl rfl (as := [_]) rfl rfl rfl rfl rfl (c_X8_isFirstOrSecond _ _ _) rfl ?_
  refine Ev.brB (i1 := 3) (i2 := 5) e_X8_bestScale rfl rfl (fun h0 => ?_) (fun h0 => ?_)
  · refine Ev.sn e_X8_bestScale 1 (i' := 4) (ls' := [_, _, _]) (st' := [_]) rfl ?_
    refine Ev.iret e_X8_bestScale rfl rfl rfl ?_ rfl
    rfl
  · refine Ev.sn e_X8_bestScale 2 (i' := 7) (ls' := [_, _, _]) (st' := []) rfl ?_
    exact absurd hx (by simp only [h0]; decide)
set_option maxRecDepth 20000 in
set_option maxHeartbeats 200000 in
theorem lp_X8_oneMore (d : Nat) (g : Nat → Nat → Int32) (tr : Int64) {n q dn : Nat} (hc : CI n q dn g) (z x : Int32) (r : Option Value) (w2 : AW) : ∀ (k p : Nat) (f : Nat → Int32), p + k = 49 → 1 ≤ p → Ev (d + 3) 93 24 [.ref 0, .int z, .int x, .null] [] (wC (va_up g 104 (filT (fun s => THF n (vC n q dn g) z (nI s)) k p f)) tr) r w2 → Ev (d + 3) 93 10 [.ref 0, .int z, .int x, .int (nI p)] [] (wC (va_up g 104 f) tr) r w2 := by
  intro k
  induction k with
  | zero =>
    intro p f hp h1 K
    refine Ev.sn e_X8_oneMore 2 (i' := 12) (ls' := [_, _, _, _]) (st' := [_, _]) rfl ?_
    refine Ev.brT (i1 := 24) (i2 := 13) e_X8_oneMore rfl rfl (nI_lt (a := 48) (by omega) (by omega)) ?_
    exact Ev.weak (lle_c (lle_c (lle_c (lle_n lle_0)))) K
  | succ k ih =>
    intro p f hp h1 K
    have hc2 : CI n q dn (va_up g 104 f) := hc
    refine Ev.sn e_X8_oneMore 2 (i' := 12) (ls' := [_, _, _, _]) (st' := [_, _]) rfl ?_
    refine Ev.brF (i1 := 24) (i2 := 13) e_X8_oneMore rfl rfl (nI_nlt (a := 48) (by omega) (by omega)) ?_
    refine Ev.sn e_X8_oneMore 7 (i' := 20) (ls' := [_, _, _, _]) (st' := [_, _, _, _, _]) rfl ?_
    refine Ev.clV e_X8_oneMore rfl rfl (as := [_, _]) rfl rfl rfl kl_X2_thingsFitting rfl rfl rfl (c_X2_thingsFitting _ _ _ hc2 _ _) rfl ?_
    refine Ev.iastE e_X8_oneMore rfl rfl rfl rfl (by omega) (w1 := (wC (va_up g 104 (upd f p ((fun s => THF n (vC n q dn g) z (nI s)) p))) tr)) rfl ?_
    refine Ev.sn e_X8_oneMore 2 (i' := 10) (ls' := [_, _, _, _]) (st' := []) rfl ?_
    rw [nI_1]
    exact ih (p + 1) _ (by omega) (by omega) K
set_option maxRecDepth 20000 in
set_option maxHeartbeats 200000 in
theorem c_X8_oneMore_s (d : Nat) (g : Nat → Nat → Int32) (tr : Int64) {n q dn : Nat} (hc : CI n q dn g) (z x : Int32) (hx : gSz z x = true) : Ev (d + 3) 93 0 [.ref 0, .int z, .int x, .null] [] (wC g tr) (some (.int (S_best (fun s => THF n (vC n q dn g) z (nI s)) x))) (wC (va_up g 104 (filT (fun s => THF n (vC n q dn g) z (nI s)) 48 1 (g 104))) tr) := by
  have hb := hc.b
  refine Ev.sn e_X8_oneMore 1 (i' := 1) (ls' := [_, _, _, _]) (st' := [_]) rfl ?_
  refine Ev.clS e_X8_oneMore rfl rfl rfl (as := [_]) rfl rfl rfl rfl rfl (c_X8_isSize _ _ _) rfl ?_
  refine Ev.brF (i1 := 6) (i2 := 3) e_X8_oneMore rfl rfl (bF (by simp only [gSz, Bool.and_eq_true] at hx; simpa using hx.1)) ?_
  refine Ev.sn e_X8_oneMore 1 (i' := 4) (ls' := [_, _, _, _]) (st' := [_]) rfl ?_
  refine Ev.clS e_X8_oneMore rfl rfl rfl (as := [_]) rfl rfl rfl rfl rfl (c_X8_isFirstOrSecond _ _ _) rfl ?_
  refine Ev.brF (i1 := 6) (i2 := 8) e_X8_oneMore rfl rfl (bF (by simp only [gSz, Bool.and_eq_true] at hx; exact hx.2)) ?_
  refine Ev.sn e_X8_oneMore 2 (i' := 10) (ls' := [_, _, _, _]) (st' := []) rfl ?_
  refine Ev.wd (w2 := (wC (va_up g 104 (g 104)) tr)) rfl ?_
  refine lp_X8_oneMore _ _ _ hc _ _ _ _ 48 1 (g 104) rfl (by omega) ?_
  have hm : AMX (filT (fun s => THF n (vC n q dn g) z (nI s)) 48 1 (g 104)) = AMX (fun s => THF n (vC n q dn g) z (nI s)) := AMX_congr (fun s h1 h2 => by rw [filT_at, if_pos (by omega)]) 47 2 1 rfl (by omega) (by omega) (by omega)
  have hin : 1 ≤ AMX (fun s => THF n (vC n q dn g) z (nI s)) ∧ AMX (fun s => THF n (vC n q dn g) z (nI s)) ≤ 48 := AMX_in 47 2 1 rfl (by omega) (by omega) (by omega)
  have hs := c_X8_scaleOfMost (d + 2) (va_up g 104 (filT (fun s => THF n (vC n q dn g) z (nI s)) 48 1 (g 104))) tr
  rw [show (va_up g 104 (filT (fun s => THF n (vC n q dn g) z (nI s)) 48 1 (g 104))) 104 = filT (fun s => THF n (vC n q dn g) z (nI s)) 48 1 (g 104) from rfl, hm] at hs
  refine Ev.sn e_X8_oneMore 1 (i' := 25) (ls' := [_, _, _, _]) (st' := [_]) rfl ?_
  refine Ev.clV e_X8_oneMore rfl rfl (as := []) rfl rfl rfl kl_X8_scaleOfMost rfl rfl rfl (hs) rfl ?_
  refine Ev.sn e_X8_oneMore 2 (i' := 28) (ls' := [_, _, _, _]) (st' := [_]) rfl ?_
  refine Ev.br (i1 := 29) (i2 := 31) e_X8_oneMore rfl rfl (fun h0 => ?_) (fun h0 => ?_)
  · refine Ev.sn e_X8_oneMore 2 (i' := 35) (ls' := [_, _, _, _]) (st' := [_]) rfl ?_
    refine Ev.iret e_X8_oneMore rfl rfl rfl ?_ rfl
    simp [S_best, h0]
  · refine Ev.sn e_X8_oneMore 3 (i' := 34) (ls' := [_, _, _, _]) (st' := [_, _]) rfl ?_
    refine Ev.ialdE e_X8_oneMore rfl rfl rfl rfl (by rfl) (show AMX (fun s => THF n (vC n q dn g) z (nI s)) < 49 from by omega) ?_
    refine Ev.iret e_X8_oneMore rfl rfl rfl ?_ rfl
    simp only [S_best, h0, if_false]
    show filT (fun s => THF n (vC n q dn g) z (nI s)) 48 1 (g 104) (AMX (fun s => THF n (vC n q dn g) z (nI s))) = _
    rw [filT_at, if_pos (by omega)]
set_option maxRecDepth 20000 in
set_option maxHeartbeats 200000 in
theorem c_X8_oneMore_b (d : Nat) (g : Nat → Nat → Int32) (tr : Int64) {n q dn : Nat} (hc : CI n q dn g) (z x : Int32) (hx : gSz z x = false) : Ev (d + 3) 93 0 [.ref 0, .int z, .int x, .null] [] (wC g tr) (some (.int (-1))) (wC g tr) := by
  have hb := hc.b
  refine Ev.sn e_X8_oneMore 1 (i' := 1) (ls' := [_, _, _, _]) (st' := [_]) rfl ?_
  refine Ev.clS e_X8_oneMore rfl rfl rfl (as := [_]) rfl rfl rfl rfl rfl (c_X8_isSize _ _ _) rfl ?_
  refine Ev.brB (i1 := 6) (i2 := 3) e_X8_oneMore rfl rfl (fun h0 => ?_) (fun h0 => ?_)
  · refine Ev.sn e_X8_oneMore 1 (i' := 7) (ls' := [_, _, _, _]) (st' := [_]) rfl ?_
    refine Ev.iret e_X8_oneMore rfl rfl rfl ?_ rfl
    rfl
  · refine Ev.sn e_X8_oneMore 1 (i' := 4) (ls' := [_, _, _, _]) (st' := [_]) rfl ?_
    refine Ev.clS e_X8_oneMore rfl rfl rfl (as := [_]) rfl rfl rfl rfl rfl (c_X8_isFirstOrSecond _ _ _) rfl ?_
    refine Ev.brB (i1 := 6) (i2 := 8) e_X8_oneMore rfl rfl (fun h1 => ?_) (fun h1 => ?_)
    · refine Ev.sn e_X8_oneMore 1 (i' := 7) (ls' := [_, _, _, _]) (st' := [_]) rfl ?_
      refine Ev.iret e_X8_oneMore rfl rfl rfl ?_ rfl
      rfl
    · refine Ev.sn e_X8_oneMore 2 (i' := 10) (ls' := [_, _, _, _]) (st' := []) rfl ?_
      exact absurd hx (by simp only [gSz, h0, h1]; decide)
end
section
/-! what is done (class) -/
theorem vC_congr {n q dn : Nat} {g g1 : Nat → Nat → Int32} (h : ∀ x, x < 60 → g1 x = g x) : vC n q dn g1 = vC n q dn g := by
  funext r
  unfold vC
  rw [h 32 (by omega), h 51 (by omega), h 34 (by omega), h 35 (by omega), h 52 (by omega), h 37 (by omega), h 30 (by omega), h 31 (by omega), h 38 (by omega), h 39 (by omega), h 40 (by omega), h 41 (by omega), h 50 (by omega)]
theorem CI.keep {n q dn : Nat} {g g1 : Nat → Nat → Int32} (hc : CI n q dn g) (h : ∀ x, x < 60 → g1 x = g x) : CI n q dn g1 := by
  unfold CI
  rw [vC_congr h, h 42 (by omega)]
  exact hc
theorem RMB.low {g g' : Nat → Nat → Int32} {o k : Nat} (h : RMB g g' o k) : ∀ x, x < 60 → g' x = g x := by
  obtain ⟨o', k', r, -, -, -, -, -, -, h1, -⟩ := h
  exact fun x hx => h1 x (by omega) (by omega)
theorem vC_12 {n q dn : Nat} {g : Nat → Nat → Int32} (f : Nat → Int32) : vC n q dn (va_up g 50 f) = va_up (vC n q dn g) 12 (cut n f) := by
  funext r
  by_cases h : r = 12
  · subst h; rfl
  · rw [va_up_ne _ _ h]
    unfold vC
    split <;> first | rfl | exact absurd rfl h
theorem vC_1 {n q dn : Nat} {g : Nat → Nat → Int32} (f : Nat → Int32) : vC n q dn (va_up g 51 f) = va_up (vC n q dn g) 1 (cut n f) := by
  funext r
  by_cases h : r = 1
  · subst h; rfl
  · rw [va_up_ne _ _ h]
    unfold vC
    split <;> first | rfl | exact absurd rfl h
theorem vC_4 {n q dn : Nat} {g : Nat → Nat → Int32} (f : Nat → Int32) : vC n q dn (va_up g 52 f) = va_up (vC n q dn g) 4 (cut q f) := by
  funext r
  by_cases h : r = 4
  · subst h; rfl
  · rw [va_up_ne _ _ h]
    unfold vC
    split <;> first | rfl | exact absurd rfl h
/-- whose the THINGS are, rightly said -/
def OWF (n q : Nat) (f : Nat → Int32) : Prop := ∀ t, t < n → f t = -9 ∨ ∃ p, p < q ∧ f t = nI p
theorem WF.ow {n q dn : Nat} {v : VW} {f : Nat → Int32} (h : WF n q dn v) (hf : OWF n q f) : WF n q dn (va_up v 12 f) := by
  obtain ⟨h1, h2, h3, h4, h5, h6⟩ := h
  exact ⟨h1, h2, h3, h4, h5, hf⟩
theorem WF.ts {n q dn : Nat} {v : VW} {f : Nat → Int32} (h : WF n q dn v) (hf : ∀ t, t < n → btw 1 48 (f t)) : WF n q dn (va_up v 1 f) := by
  obtain ⟨h1, h2, h3, h4, h5, h6⟩ := h
  exact ⟨h1, fun t ht => ⟨(h2 t ht).1, hf t ht, (h2 t ht).2.2⟩, h3, h4, h5, h6⟩
theorem WF.ps {n q dn : Nat} {v : VW} {f : Nat → Int32} (h : WF n q dn v) (hf : ∀ t, t < q → btw 1 48 (f t)) : WF n q dn (va_up v 4 f) := by
  obtain ⟨h1, h2, h3, h4, h5, h6⟩ := h
  exact ⟨h1, h2, fun p hp => ⟨hf p hp, (h3 p hp).2⟩, h4, h5, h6⟩
theorem OWF.cut {n q : Nat} {f : Nat → Int32} (h : OWF n q f) : OWF n q (cut n f) := fun t ht => by rw [cut_lt ht]; exact h t ht
theorem CI.ow {n q dn : Nat} {g : Nat → Nat → Int32} {f : Nat → Int32} (hc : CI n q dn g) (hf : OWF n q f) : CI n q dn (va_up g 50 f) := ⟨hc.1, hc.2.1, hc.2.2.1, by rw [vC_12]; exact hc.w.ow hf.cut⟩
theorem CI.ts {n q dn : Nat} {g : Nat → Nat → Int32} {f : Nat → Int32} (hc : CI n q dn g) (hf : ∀ t, t < n → btw 1 48 (f t)) : CI n q dn (va_up g 51 f) := ⟨hc.1, hc.2.1, hc.2.2.1, by rw [vC_1]; exact hc.w.ts (fun t ht => by rw [cut_lt ht]; exact hf t ht)⟩
theorem CI.ps {n q dn : Nat} {g : Nat → Nat → Int32} {f : Nat → Int32} (hc : CI n q dn g) (hf : ∀ t, t < q → btw 1 48 (f t)) : CI n q dn (va_up g 52 f) := ⟨hc.1, hc.2.1, hc.2.2.1, by rw [vC_4]; exact hc.w.ps (fun t ht => by rw [cut_lt ht]; exact hf t ht)⟩
theorem CI.own {n q dn : Nat} {g : Nat → Nat → Int32} (hc : CI n q dn g) : OWF n q (g 50) := fun t ht => by
  have := hc.w.2.2.2.2.2 t ht
  rw [show vC n q dn g 12 t = g 50 t from cut_lt ht] at this
  exact this
theorem OWF.upd9 {n q : Nat} {f : Nat → Int32} (h : OWF n q f) (j : Nat) : OWF n q (upd f j (-9)) := fun t ht => by
  by_cases e : t = j
  · subst e; rw [pk_us]; exact Or.inl rfl
  · rw [pk_un e]; exact h t ht
theorem OWF.updp {n q : Nat} {f : Nat → Int32} (h : OWF n q f) (j : Nat) {p : Nat} (hp : p < q) : OWF n q (upd f j (nI p)) := fun t ht => by
  by_cases e : t = j
  · subst e; rw [pk_us]; exact Or.inr ⟨p, hp, rfl⟩
  · rw [pk_un e]; exact h t ht
def stFR (v : VW) (t : Nat) (f : Nat → Int32) : Nat → Int32 := if f t = -9 then f else if fpB v t (f t).toNatClampNeg = true then f else upd f t (-9)
def FRE (n : Nat) (v : VW) (f : Nat → Int32) : Nat → Int32 := fo (stFR v) n 0 f
theorem stFR_ok {n q : Nat} {v : VW} {t : Nat} {f : Nat → Int32} (h : OWF n q f) : OWF n q (stFR v t f) := by
  unfold stFR
  split
  · exact h
  · split
    · exact h
    · exact h.upd9 t
theorem FRE_ok {n q : Nat} {v : VW} : ∀ (k p : Nat) (f : Nat → Int32), OWF n q f → OWF n q (fo (stFR v) k p f)
  | 0, _, _, h => h
  | k + 1, p, f, h => FRE_ok k (p + 1) _ (stFR_ok h)
theorem nI_n9 {p : Nat} (hp : p < 2000) : ¬ nI p = -9 := fun h => by
  have h2 := congrArg Int32.toInt h
  rw [nI_toInt (by omega)] at h2
  have h3 : (-9 : Int32).toInt = -9 := by decide
  omega
set_option maxRecDepth 20000 in
set_option maxHeartbeats 200000 in
theorem lp_X2_freeWhatDoesNotFit (d : Nat) (g : Nat → Nat → Int32) (tr : Int64) {n q dn : Nat} (hc : CI n q dn g) : ∀ (kk p : Nat) (f : Nat → Int32), p + kk = n → OWF n q f → Ev (d + 2) 26 2 [.ref 16, .int (nI p)] [] (wC (va_up g 50 f) tr) none (wC (va_up g 50 (fo (stFR (vC n q dn g)) kk p f)) tr) := by
  intro kk
  induction kk with
  | zero =>
    intro p f hp hf
    have hb := hc.b
    refine Ev.sn e_X2_freeWhatDoesNotFit 4 (i' := 6) (ls' := [_, _]) (st' := [_, _]) rfl ?_
    refine Ev.brT (i1 := 31) (i2 := 7) e_X2_freeWhatDoesNotFit rfl rfl (ge_t hc.hn (by omega) (by omega)) ?_
    exact Ev.vret e_X2_freeWhatDoesNotFit rfl rfl rfl
  | succ kk ih =>
    intro p f hp hf
    rw [fo_s (k := kk)]
    have hb := hc.b
    have hc2 := hc.ow hf
    refine Ev.sn e_X2_freeWhatDoesNotFit 4 (i' := 6) (ls' := [_, _]) (st' := [_, _]) rfl ?_
    refine Ev.brF (i1 := 31) (i2 := 7) e_X2_freeWhatDoesNotFit rfl rfl (ge_f hc.hn (by omega) (by omega)) ?_
    refine Ev.sn e_X2_freeWhatDoesNotFit 4 (i' := 11) (ls' := [_, _]) (st' := [_, _]) rfl ?_
    refine Ev.ialdE e_X2_freeWhatDoesNotFit rfl rfl rfl rfl rfl (by omega) ?_
    refine Ev.sn e_X2_freeWhatDoesNotFit 1 (i' := 13) (ls' := [_, _]) (st' := [_, _]) rfl ?_
    refine Ev.br (i1 := 29) (i2 := 14) e_X2_freeWhatDoesNotFit rfl rfl (fun h0 => ?_) (fun h0 => ?_)
    · refine Ev.sn e_X2_freeWhatDoesNotFit 2 (i' := 2) (ls' := [_, _]) (st' := []) rfl ?_
      rw [nI_1, show stFR (vC n q dn g) p f = f from if_pos h0]
      exact ih (p + 1) f (by omega) hf
    · obtain ⟨x, hx, ex⟩ := (hf p (by omega)).resolve_left h0
      have exc : (f p).toNatClampNeg = x := by rw [ex]; exact nI_clamp (by omega)
      refine Ev.sn e_X2_freeWhatDoesNotFit 6 (i' := 20) (ls' := [_, _]) (st' := [_, _, _, _]) rfl ?_
      refine Ev.ialdE e_X2_freeWhatDoesNotFit rfl rfl rfl rfl rfl (by omega) ?_
      refine Ev.clV e_X2_freeWhatDoesNotFit rfl rfl (as := [_, _]) rfl rfl rfl kl_X2_fitsPerson rfl rfl rfl (by rw [show (va_up g 50 f) 50 p = nI x from ex]; exact c_X2_fitsPerson _ _ _ hc2 (by omega) hx) rfl ?_
      refine Ev.brB (i1 := 23) (i2 := 29) e_X2_freeWhatDoesNotFit rfl rfl (fun h1 => ?_) (fun h1 => ?_)
      · refine Ev.sn e_X2_freeWhatDoesNotFit 5 (i' := 28) (ls' := [_, _]) (st' := [_, _, _]) rfl ?_
        refine Ev.iastE e_X2_freeWhatDoesNotFit rfl rfl rfl rfl (by omega) (w1 := (wC (va_up g 50 (upd f p (-9))) tr)) rfl ?_
        refine Ev.sn e_X2_freeWhatDoesNotFit 2 (i' := 2) (ls' := [_, _]) (st' := []) rfl ?_
        rw [nI_1, show stFR (vC n q dn g) p f = upd f p (-9) by unfold stFR; rw [if_neg (show ¬ f p = -9 from h0), exc, if_neg (by rw [show fpB (vC n q dn g) p x = false from h1]; decide)]]
        exact ih (p + 1) _ (by omega) (hf.upd9 p)
      · refine Ev.sn e_X2_freeWhatDoesNotFit 2 (i' := 2) (ls' := [_, _]) (st' := []) rfl ?_
        rw [nI_1, show stFR (vC n q dn g) p f = f by unfold stFR; rw [if_neg (show ¬ f p = -9 from h0), exc, if_pos (show fpB (vC n q dn g) p x = true from h1)]]
        exact ih (p + 1) f (by omega) hf
set_option maxRecDepth 20000 in
set_option maxHeartbeats 200000 in
theorem c_X2_freeWhatDoesNotFit (d : Nat) (g : Nat → Nat → Int32) (tr : Int64) {n q dn : Nat} (hc : CI n q dn g) : Ev (d + 2) 26 0 [.ref 16, .null] [] (wC g tr) none (wC (va_up g 50 (FRE n (vC n q dn g) (g 50))) tr) := by
  have hb := hc.b
  refine Ev.sn e_X2_freeWhatDoesNotFit 2 (i' := 2) (ls' := [_, _]) (st' := []) rfl ?_
  refine Ev.wd (w2 := (wC (va_up g 50 (g 50)) tr)) rfl ?_
  exact lp_X2_freeWhatDoesNotFit _ _ _ hc n 0 (g 50) (by omega) hc.own
set_option maxRecDepth 20000 in
set_option maxHeartbeats 200000 in
theorem c_X8_lays_b (d : Nat) (g : Nat → Nat → Int32) (tr : Int64) {n q dn : Nat} (hc : CI n q dn g) (t p : Int32) (h : ((decide (0 ≤ t) && decide (t < nI n)) && (decide (0 ≤ p) && decide (p < nI q))) = false) : Ev (d + 3) 82 0 [.ref 0, .int t, .int p] [] (wC g tr) (some (.int (-1))) (wC g tr) := by
  have hb := hc.b
  refine Ev.sn e_X8_lays 3 (i' := 3) (ls' := [_, _, _]) (st' := [_, _]) rfl ?_
  refine Ev.clV e_X8_lays rfl rfl (as := [_]) rfl rfl rfl kl_X2_hasThing rfl rfl rfl (c_X2_hasThing _ _ _ hc _) rfl ?_
  refine Ev.brB (i1 := 10) (i2 := 5) e_X8_lays rfl rfl (fun h0 => ?_) (fun h0 => ?_)
  · refine Ev.sn e_X8_lays 1 (i' := 11) (ls' := [_, _, _]) (st' := [_]) rfl ?_
    refine Ev.iret e_X8_lays rfl rfl rfl ?_ rfl
    rfl
  · refine Ev.sn e_X8_lays 3 (i' := 8) (ls' := [_, _, _]) (st' := [_, _]) rfl ?_
    refine Ev.clV e_X8_lays rfl rfl (as := [_]) rfl rfl rfl kl_X2_hasPerson rfl rfl rfl (c_X2_hasPerson _ _ _ hc _) rfl ?_
    refine Ev.brB (i1 := 10) (i2 := 12) e_X8_lays rfl rfl (fun h1 => ?_) (fun h1 => ?_)
    · refine Ev.sn e_X8_lays 1 (i' := 11) (ls' := [_, _, _]) (st' := [_]) rfl ?_
      refine Ev.iret e_X8_lays rfl rfl rfl ?_ rfl
      rfl
    · exact absurd h (by rw [h0, h1]; decide)
theorem g_ok {j n : Nat} (h : j < n) (hn : n < 2000) : (decide (0 ≤ nI j) && decide (nI j < nI n)) = true := by simp [nI_pos' (show j < 2 ^ 31 by omega), nI_lt h (show n < 2 ^ 31 by omega)]
set_option maxRecDepth 20000 in
set_option maxHeartbeats 200000 in
theorem c_X8_lays_f (d : Nat) (g : Nat → Nat → Int32) (tr : Int64) {n q dn : Nat} (hc : CI n q dn g) {t p : Nat} (ht : t < n) (hp : p < q) (h : (decide ((vC n q dn g) 12 t = -9) && (fpB (vC n q dn g) t p && !HOO n (vC n q dn g) (nI p) ((vC n q dn g) 0 t))) = false) : Ev (d + 3) 82 0 [.ref 0, .int (nI t), .int (nI p)] [] (wC g tr) (some (.int (-2))) (wC g tr) := by
  have hb := hc.b
  refine Ev.sn e_X8_lays 3 (i' := 3) (ls' := [_, _, _]) (st' := [_, _]) rfl ?_
  refine Ev.clV e_X8_lays rfl rfl (as := [_]) rfl rfl rfl kl_X2_hasThing rfl rfl rfl (c_X2_hasThing _ _ _ hc _) rfl ?_
  refine Ev.brF (i1 := 10) (i2 := 5) e_X8_lays rfl rfl (bF (g_ok ht (by omega))) ?_
  refine Ev.sn e_X8_lays 3 (i' := 8) (ls' := [_, _, _]) (st' := [_, _]) rfl ?_
  refine Ev.clV e_X8_lays rfl rfl (as := [_]) rfl rfl rfl kl_X2_hasPerson rfl rfl rfl (c_X2_hasPerson _ _ _ hc _) rfl ?_
  refine Ev.brF (i1 := 10) (i2 := 12) e_X8_lays rfl rfl (bF (g_ok hp (by omega))) ?_
  refine Ev.sn e_X8_lays 4 (i' := 16) (ls' := [_, _, _]) (st' := [_, _, _]) rfl ?_
  refine Ev.clV e_X8_lays rfl rfl (as := [_, _]) rfl rfl rfl kl_X2_canLay rfl rfl rfl (c_X2_canLay _ _ _ hc ht hp) rfl ?_
  refine Ev.brT (i1 := 18) (i2 := 20) e_X8_lays rfl rfl (bT h) ?_
  refine Ev.sn e_X8_lays 1 (i' := 19) (ls' := [_, _, _]) (st' := [_]) rfl ?_
  refine Ev.iret e_X8_lays rfl rfl rfl ?_ rfl
  rfl
set_option maxRecDepth 20000 in
set_option maxHeartbeats 200000 in
theorem c_X8_lays_s (d : Nat) (g : Nat → Nat → Int32) (tr : Int64) {n q dn : Nat} (hc : CI n q dn g) {o k : Nat} (ho : g 90 0 = nI o) (hk : g 90 1 = nI k) (ho10 : o < 10) (hk10 : k ≤ 10) {t p : Nat} (ht : t < n) (hp : p < q) (h : (decide ((vC n q dn g) 12 t = -9) && (fpB (vC n q dn g) t p && !HOO n (vC n q dn g) (nI p) ((vC n q dn g) 0 t))) = true) : ∃ g1, RMB g g1 o k ∧ Ev (d + 3) 82 0 [.ref 0, .int (nI t), .int (nI p)] [] (wC g tr) (some (.int (bcI (TOF n (vC n q dn (va_up g1 50 (upd (g1 50) t (nI p)))) (nI p))))) (wC (va_up g1 50 (upd (g1 50) t (nI p))) tr) := by
  have hb := hc.b
  obtain ⟨g1, hr1, hr2⟩ := c_X1_remember (d + 0) g tr ho hk ho10 hk10
  have hlow := hr2.low
  have hc1 := hc.keep hlow
  have hc2 := hc1.ow (hc1.own.updp t hp)
  refine ⟨g1, hr2, ?_⟩
  refine Ev.sn e_X8_lays 3 (i' := 3) (ls' := [_, _, _]) (st' := [_, _]) rfl ?_
  refine Ev.clV e_X8_lays rfl rfl (as := [_]) rfl rfl rfl kl_X2_hasThing rfl rfl rfl (c_X2_hasThing _ _ _ hc _) rfl ?_
  refine Ev.brF (i1 := 10) (i2 := 5) e_X8_lays rfl rfl (bF (g_ok ht (by omega))) ?_
  refine Ev.sn e_X8_lays 3 (i' := 8) (ls' := [_, _, _]) (st' := [_, _]) rfl ?_
  refine Ev.clV e_X8_lays rfl rfl (as := [_]) rfl rfl rfl kl_X2_hasPerson rfl rfl rfl (c_X2_hasPerson _ _ _ hc _) rfl ?_
  refine Ev.brF (i1 := 10) (i2 := 12) e_X8_lays rfl rfl (bF (g_ok hp (by omega))) ?_
  refine Ev.sn e_X8_lays 4 (i' := 16) (ls' := [_, _, _]) (st' := [_, _, _]) rfl ?_
  refine Ev.clV e_X8_lays rfl rfl (as := [_, _]) rfl rfl rfl kl_X2_canLay rfl rfl rfl (c_X2_canLay _ _ _ hc ht hp) rfl ?_
  refine Ev.brF (i1 := 18) (i2 := 20) e_X8_lays rfl rfl (bF h) ?_
  refine Ev.sn e_X8_lays 5 (i' := 25) (ls' := [_, _, _]) (st' := [_, _]) rfl ?_
  refine Ev.clV e_X8_lays rfl rfl (as := [_]) rfl rfl rfl kl_X1_remember rfl rfl rfl (hr1) rfl ?_
  refine Ev.sn e_X8_lays 6 (i' := 32) (ls' := [_, _, _]) (st' := [_, _, _]) rfl ?_
  refine Ev.iastE e_X8_lays rfl rfl rfl rfl (by omega) (w1 := wC (va_up g1 50 (upd (g1 50) t (nI p))) tr) rfl ?_
  refine Ev.sn e_X8_lays 3 (i' := 36) (ls' := [_, _, _]) (st' := [_, _]) rfl ?_
  refine Ev.clV e_X8_lays rfl rfl (as := [_]) rfl rfl rfl kl_X2_thingsOf rfl rfl rfl (c_X2_thingsOf _ _ _ hc2 _) rfl ?_
  refine Ev.clS e_X8_lays rfl rfl rfl (as := [_]) rfl rfl rfl rfl rfl (c_J6_bitCount_0f7a4 _ _ _) rfl ?_
  refine Ev.iret e_X8_lays rfl rfl rfl ?_ rfl
  rfl
set_option maxRecDepth 20000 in
set_option maxHeartbeats 200000 in
theorem c_X8_takes_b (d : Nat) (g : Nat → Nat → Int32) (tr : Int64) {n q dn : Nat} (hc : CI n q dn g) (t : Int32) (h : (decide (0 ≤ t) && decide (t < nI n)) = false) : Ev (d + 3) 83 0 [.ref 0, .int t, .null] [] (wC g tr) (some (.int (-1))) (wC g tr) := by
  have hb := hc.b
  refine Ev.sn e_X8_takes 3 (i' := 3) (ls' := [_, _, _]) (st' := [_, _]) rfl ?_
  refine Ev.clV e_X8_takes rfl rfl (as := [_]) rfl rfl rfl kl_X2_hasThing rfl rfl rfl (c_X2_hasThing _ _ _ hc _) rfl ?_
  refine Ev.brT (i1 := 5) (i2 := 7) e_X8_takes rfl rfl (bT h) ?_
  refine Ev.sn e_X8_takes 1 (i' := 6) (ls' := [_, _, _]) (st' := [_]) rfl ?_
  refine Ev.iret e_X8_takes rfl rfl rfl ?_ rfl
  rfl
set_option maxRecDepth 20000 in
set_option maxHeartbeats 200000 in
theorem c_X8_takes_f (d : Nat) (g : Nat → Nat → Int32) (tr : Int64) {n q dn : Nat} (hc : CI n q dn g) {t : Nat} (ht : t < n) (h : g 50 t = -9) : Ev (d + 3) 83 0 [.ref 0, .int (nI t), .null] [] (wC g tr) (some (.int (-2))) (wC g tr) := by
  have hb := hc.b
  refine Ev.sn e_X8_takes 3 (i' := 3) (ls' := [_, _, _]) (st' := [_, _]) rfl ?_
  refine Ev.clV e_X8_takes rfl rfl (as := [_]) rfl rfl rfl kl_X2_hasThing rfl rfl rfl (c_X2_hasThing _ _ _ hc _) rfl ?_
  refine Ev.brF (i1 := 5) (i2 := 7) e_X8_takes rfl rfl (bF (g_ok ht (by omega))) ?_
  refine Ev.sn e_X8_takes 5 (i' := 12) (ls' := [_, _, _]) (st' := [_, _]) rfl ?_
  refine Ev.ialdE e_X8_takes rfl rfl rfl rfl rfl (by omega) ?_
  refine Ev.sn e_X8_takes 3 (i' := 16) (ls' := [_, _, _]) (st' := [_, _]) rfl ?_
  refine Ev.brT (i1 := 17) (i2 := 19) e_X8_takes rfl rfl (h) ?_
  refine Ev.sn e_X8_takes 1 (i' := 18) (ls' := [_, _, _]) (st' := [_]) rfl ?_
  refine Ev.iret e_X8_takes rfl rfl rfl ?_ rfl
  rfl
set_option maxRecDepth 20000 in
set_option maxHeartbeats 200000 in
theorem c_X8_takes_s (d : Nat) (g : Nat → Nat → Int32) (tr : Int64) {n q dn : Nat} (hc : CI n q dn g) {o k : Nat} (ho : g 90 0 = nI o) (hk : g 90 1 = nI k) (ho10 : o < 10) (hk10 : k ≤ 10) {t : Nat} (ht : t < n) (h : ¬ g 50 t = -9) : ∃ g1, RMB g g1 o k ∧ Ev (d + 3) 83 0 [.ref 0, .int (nI t), .null] [] (wC g tr) (some (.int (g 50 t))) (wC (va_up g1 50 (upd (g1 50) t (-9))) tr) := by
  have hb := hc.b
  obtain ⟨g1, hr1, hr2⟩ := c_X1_remember (d + 0) g tr ho hk ho10 hk10
  have hlow := hr2.low
  have hc1 := hc.keep hlow
  refine ⟨g1, hr2, ?_⟩
  refine Ev.sn e_X8_takes 3 (i' := 3) (ls' := [_, _, _]) (st' := [_, _]) rfl ?_
  refine Ev.clV e_X8_takes rfl rfl (as := [_]) rfl rfl rfl kl_X2_hasThing rfl rfl rfl (c_X2_hasThing _ _ _ hc _) rfl ?_
  refine Ev.brF (i1 := 5) (i2 := 7) e_X8_takes rfl rfl (bF (g_ok ht (by omega))) ?_
  refine Ev.sn e_X8_takes 5 (i' := 12) (ls' := [_, _, _]) (st' := [_, _]) rfl ?_
  refine Ev.ialdE e_X8_takes rfl rfl rfl rfl rfl (by omega) ?_
  refine Ev.sn e_X8_takes 3 (i' := 16) (ls' := [_, _, _]) (st' := [_, _]) rfl ?_
  refine Ev.brF (i1 := 17) (i2 := 19) e_X8_takes rfl rfl (h) ?_
  refine Ev.sn e_X8_takes 5 (i' := 24) (ls' := [_, _, _]) (st' := [_, _]) rfl ?_
  refine Ev.clV e_X8_takes rfl rfl (as := [_]) rfl rfl rfl kl_X1_remember rfl rfl rfl (hr1) rfl ?_
  refine Ev.sn e_X8_takes 6 (i' := 31) (ls' := [_, _, _]) (st' := [_, _, _]) rfl ?_
  refine Ev.iastE e_X8_takes rfl rfl rfl rfl (by omega) (w1 := wC (va_up g1 50 (upd (g1 50) t (-9))) tr) rfl ?_
  refine Ev.sn e_X8_takes 1 (i' := 33) (ls' := [_, _, _]) (st' := [_]) rfl ?_
  refine Ev.iret e_X8_takes rfl rfl rfl ?_ rfl
  rfl
set_option maxRecDepth 20000 in
set_option maxHeartbeats 200000 in
theorem c_X8_undo_f (d : Nat) (g : Nat → Nat → Int32) (tr : Int64) (h : g 90 1 = 0) : Ev (d + 3) 85 0 [.ref 0] [] (wC g tr) (some (.int (-2))) (wC g tr) := by
  refine Ev.sn e_X8_undo 2 (i' := 2) (ls' := [_]) (st' := [_]) rfl ?_
  refine Ev.clV e_X8_undo rfl rfl (as := []) rfl rfl rfl kl_X1_size rfl rfl rfl (c_X1_size _ _ _) rfl ?_
  refine Ev.brT (i1 := 4) (i2 := 6) e_X8_undo rfl rfl (h) ?_
  refine Ev.sn e_X8_undo 1 (i' := 5) (ls' := [_]) (st' := [_]) rfl ?_
  refine Ev.iret e_X8_undo rfl rfl rfl ?_ rfl
  rfl
set_option maxRecDepth 20000 in
set_option maxHeartbeats 200000 in
theorem c_X8_undo_s (d : Nat) (g : Nat → Nat → Int32) (tr : Int64) {o k r : Nat} (ho : g 90 0 = nI o) (hk : g 90 1 = nI (k + 1)) (ho10 : o < 10) (hk10 : k < 10) (hr : r = (o + k) % 10) : Ev (d + 3) 85 0 [.ref 0] [] (wC g tr) (some (.int (nI k))) (wC (resT g r k) tr) := by
  refine Ev.sn e_X8_undo 2 (i' := 2) (ls' := [_]) (st' := [_]) rfl ?_
  refine Ev.clV e_X8_undo rfl rfl (as := []) rfl rfl rfl kl_X1_size rfl rfl rfl (c_X1_size _ _ _) rfl ?_
  refine Ev.brF (i1 := 4) (i2 := 6) e_X8_undo rfl rfl ((by rw [hk]; exact nI_ne0 (by omega) (by omega))) ?_
  refine Ev.sn e_X8_undo 5 (i' := 11) (ls' := [_]) (st' := [_, _]) rfl ?_
  refine Ev.clV e_X8_undo rfl rfl (as := [_]) rfl rfl rfl kl_X1_restoreLatest rfl rfl rfl (c_X1_restoreLatest _ _ _ ho hk ho10 hk10 hr) rfl ?_
  refine Ev.sn e_X8_undo 2 (i' := 14) (ls' := [_]) (st' := [_]) rfl ?_
  refine Ev.clV e_X8_undo rfl rfl (as := []) rfl rfl rfl kl_X1_size rfl rfl rfl (c_X1_size _ _ _) rfl ?_
  refine Ev.iret e_X8_undo rfl rfl rfl ?_ rfl
  unfold resT cp3
  rw [va_up_ne _ _ (by omega), va_up_ne _ _ (by omega), va_up_ne _ _ (by omega), va_up_self, pk_us]
def gRS (n q : Nat) (a i s : Int32) : Bool := ((if a = 1 then (decide (0 ≤ i) && decide (i < nI n)) else (decide (a = 0) && (decide (0 ≤ i) && decide (i < nI q)))) && (decide (1 ≤ s) && decide (s ≤ 48)))
set_option maxRecDepth 20000 in
set_option maxHeartbeats 200000 in
theorem c_X8_rescales_b (d : Nat) (g : Nat → Nat → Int32) (tr : Int64) {n q dn : Nat} (hc : CI n q dn g) (a i s : Int32) (h : gRS n q a i s = false) : Ev (d + 3) 84 0 [.ref 0, .int a, .int i, .int s, .null, .null, .null] [] (wC g tr) (some (.int (-1))) (wC g tr) := by
  have hb := hc.b
  refine Ev.sn e_X8_rescales 2 (i' := 2) (ls' := [_, _, _, _, _, _, _]) (st' := [_, _]) rfl ?_
  refine Ev.br (i1 := 3) (i2 := 8) e_X8_rescales rfl rfl (fun h0 => ?_) (fun h0 => ?_)
  · refine Ev.sn e_X8_rescales 3 (i' := 6) (ls' := [_, _, _, _, _, _, _]) (st' := [_, _]) rfl ?_
    refine Ev.clV e_X8_rescales rfl rfl (as := [_]) rfl rfl rfl kl_X2_hasThing rfl rfl rfl (c_X2_hasThing _ _ _ hc _) rfl ?_
    refine Ev.sn e_X8_rescales 3 (i' := 20) (ls' := [_, _, _, _, _, _, _]) (st' := [_]) rfl ?_
    refine Ev.brB (i1 := 27) (i2 := 21) e_X8_rescales rfl rfl (fun h20 => ?_) (fun h20 => ?_)
    · exact Ev.sn e_X8_rescales 1 (i' := 28) (ls' := [_, _, _, _, _, _, _]) (st' := [_]) rfl (Ev.iret e_X8_rescales rfl rfl rfl rfl rfl)
    · refine Ev.sn e_X8_rescales 2 (i' := 23) (ls' := [_, _, _, _, _, _, _]) (st' := [_, _]) rfl ?_
      refine Ev.br (i1 := 27) (i2 := 24) e_X8_rescales rfl rfl (fun h2 => ?_) (fun h2 => ?_)
      · exact Ev.sn e_X8_rescales 1 (i' := 28) (ls' := [_, _, _, _, _, _, _]) (st' := [_]) rfl (Ev.iret e_X8_rescales rfl rfl rfl rfl rfl)
      · refine Ev.sn e_X8_rescales 2 (i' := 26) (ls' := [_, _, _, _, _, _, _]) (st' := [_, _]) rfl ?_
        refine Ev.br (i1 := 29) (i2 := 27) e_X8_rescales rfl rfl (fun h3 => ?_) (fun h3 => ?_)
        · exfalso
          simp_all [gRS, bI, Int32.not_lt]
        · exact Ev.sn e_X8_rescales 1 (i' := 28) (ls' := [_, _, _, _, _, _, _]) (st' := [_]) rfl (Ev.iret e_X8_rescales rfl rfl rfl rfl rfl)
  · refine Ev.sn e_X8_rescales 1 (i' := 9) (ls' := [_, _, _, _, _, _, _]) (st' := [_]) rfl ?_
    refine Ev.br (i1 := 10) (i2 := 17) e_X8_rescales rfl rfl (fun h4 => ?_) (fun h4 => ?_)
    · refine Ev.sn e_X8_rescales 3 (i' := 13) (ls' := [_, _, _, _, _, _, _]) (st' := [_, _]) rfl ?_
      refine Ev.clV e_X8_rescales rfl rfl (as := [_]) rfl rfl rfl kl_X2_hasPerson rfl rfl rfl (c_X2_hasPerson _ _ _ hc _) rfl ?_
      refine Ev.brB (i1 := 17) (i2 := 15) e_X8_rescales rfl rfl (fun h5 => ?_) (fun h5 => ?_)
      · refine Ev.sn e_X8_rescales 3 (i' := 20) (ls' := [_, _, _, _, _, _, _]) (st' := [_]) rfl ?_
        refine Ev.br (i1 := 27) (i2 := 21) e_X8_rescales rfl rfl (fun h20 => ?_) (fun h20 => ?_)
        · exact Ev.sn e_X8_rescales 1 (i' := 28) (ls' := [_, _, _, _, _, _, _]) (st' := [_]) rfl (Ev.iret e_X8_rescales rfl rfl rfl rfl rfl)
        · refine Ev.sn e_X8_rescales 2 (i' := 23) (ls' := [_, _, _, _, _, _, _]) (st' := [_, _]) rfl ?_
          refine Ev.br (i1 := 27) (i2 := 24) e_X8_rescales rfl rfl (fun h7 => ?_) (fun h7 => ?_)
          · exact Ev.sn e_X8_rescales 1 (i' := 28) (ls' := [_, _, _, _, _, _, _]) (st' := [_]) rfl (Ev.iret e_X8_rescales rfl rfl rfl rfl rfl)
          · refine Ev.sn e_X8_rescales 2 (i' := 26) (ls' := [_, _, _, _, _, _, _]) (st' := [_, _]) rfl ?_
            refine Ev.br (i1 := 29) (i2 := 27) e_X8_rescales rfl rfl (fun h8 => ?_) (fun h8 => ?_)
            · exfalso
              simp_all [gRS, bI, Int32.not_lt]
            · exact Ev.sn e_X8_rescales 1 (i' := 28) (ls' := [_, _, _, _, _, _, _]) (st' := [_]) rfl (Ev.iret e_X8_rescales rfl rfl rfl rfl rfl)
      · refine Ev.sn e_X8_rescales 4 (i' := 20) (ls' := [_, _, _, _, _, _, _]) (st' := [_]) rfl ?_
        refine Ev.br (i1 := 27) (i2 := 21) e_X8_rescales rfl rfl (fun h20 => ?_) (fun h20 => ?_)
        · exact Ev.sn e_X8_rescales 1 (i' := 28) (ls' := [_, _, _, _, _, _, _]) (st' := [_]) rfl (Ev.iret e_X8_rescales rfl rfl rfl rfl rfl)
        · refine Ev.sn e_X8_rescales 2 (i' := 23) (ls' := [_, _, _, _, _, _, _]) (st' := [_, _]) rfl ?_
          refine Ev.br (i1 := 27) (i2 := 24) e_X8_rescales rfl rfl (fun h10 => ?_) (fun h10 => ?_)
          · exact Ev.sn e_X8_rescales 1 (i' := 28) (ls' := [_, _, _, _, _, _, _]) (st' := [_]) rfl (Ev.iret e_X8_rescales rfl rfl rfl rfl rfl)
          · refine Ev.sn e_X8_rescales 2 (i' := 26) (ls' := [_, _, _, _, _, _, _]) (st' := [_, _]) rfl ?_
            refine Ev.br (i1 := 29) (i2 := 27) e_X8_rescales rfl rfl (fun h11 => ?_) (fun h11 => ?_)
            · exfalso
              simp_all [gRS, bI, Int32.not_lt]
            · exact Ev.sn e_X8_rescales 1 (i' := 28) (ls' := [_, _, _, _, _, _, _]) (st' := [_]) rfl (Ev.iret e_X8_rescales rfl rfl rfl rfl rfl)
    · refine Ev.sn e_X8_rescales 3 (i' := 20) (ls' := [_, _, _, _, _, _, _]) (st' := [_]) rfl ?_
      refine Ev.br (i1 := 27) (i2 := 21) e_X8_rescales rfl rfl (fun h20 => ?_) (fun h20 => ?_)
      · exact Ev.sn e_X8_rescales 1 (i' := 28) (ls' := [_, _, _, _, _, _, _]) (st' := [_]) rfl (Ev.iret e_X8_rescales rfl rfl rfl rfl rfl)
      · refine Ev.sn e_X8_rescales 2 (i' := 23) (ls' := [_, _, _, _, _, _, _]) (st' := [_, _]) rfl ?_
        refine Ev.br (i1 := 27) (i2 := 24) e_X8_rescales rfl rfl (fun h13 => ?_) (fun h13 => ?_)
        · exact Ev.sn e_X8_rescales 1 (i' := 28) (ls' := [_, _, _, _, _, _, _]) (st' := [_]) rfl (Ev.iret e_X8_rescales rfl rfl rfl rfl rfl)
        · refine Ev.sn e_X8_rescales 2 (i' := 26) (ls' := [_, _, _, _, _, _, _]) (st' := [_, _]) rfl ?_
          refine Ev.br (i1 := 29) (i2 := 27) e_X8_rescales rfl rfl (fun h14 => ?_) (fun h14 => ?_)
          · exfalso
            simp_all [gRS, bI, Int32.not_lt]
          · exact Ev.sn e_X8_rescales 1 (i' := 28) (ls' := [_, _, _, _, _, _, _]) (st' := [_]) rfl (Ev.iret e_X8_rescales rfl rfl rfl rfl rfl)
set_option maxRecDepth 20000 in
set_option maxHeartbeats 200000 in
theorem c_X8_rescales_t (d : Nat) (g : Nat → Nat → Int32) (tr : Int64) {n q dn : Nat} (hc : CI n q dn g) {o k : Nat} (ho : g 90 0 = nI o) (hk : g 90 1 = nI k) (ho10 : o < 10) (hk10 : k ≤ 10) {i s : Nat} (hi : i < n) (hs : 1 ≤ s ∧ s ≤ 48) : ∃ g1, RMB g g1 o k ∧ Ev (d + 3) 84 0 [.ref 0, .int 1, .int (nI i), .int (nI s), .null, .null, .null] [] (wC g tr) (some (.int (g 51 i))) (wC (va_up (va_up g1 51 (upd (g1 51) i (nI s))) 50 (FRE n (vC n q dn (va_up g1 51 (upd (g1 51) i (nI s)))) ((va_up g1 51 (upd (g1 51) i (nI s))) 50))) tr) := by
  have hb := hc.b
  obtain ⟨g1, hr1, hr2⟩ := c_X1_remember (d + 0) g tr ho hk ho10 hk10
  have hlow := hr2.low
  have hc1 := hc.keep hlow
  have hb48 : ∀ t, t < n → btw 1 48 (upd (g1 51) i (nI s) t) := fun t ht => by
    by_cases e : t = i
    · subst e; rw [pk_us]; exact ⟨s, hs.1, hs.2, rfl⟩
    · rw [pk_un e, hlow 51 (by omega)]
      have := (hc.w.2.1 t ht).2.1
      rw [show vC n q dn g 1 t = g 51 t from cut_lt ht] at this
      exact this
  have hc2 := hc1.ts hb48
  refine ⟨g1, hr2, ?_⟩
  refine Ev.sn e_X8_rescales 2 (i' := 2) (ls' := [_, _, _, _, _, _, _]) (st' := [_, _]) rfl ?_
  refine Ev.brT (i1 := 3) (i2 := 8) e_X8_rescales rfl rfl (rfl) ?_
  refine Ev.sn e_X8_rescales 3 (i' := 6) (ls' := [_, _, _, _, _, _, _]) (st' := [_, _]) rfl ?_
  refine Ev.clV e_X8_rescales rfl rfl (as := [_]) rfl rfl rfl kl_X2_hasThing rfl rfl rfl (c_X2_hasThing _ _ _ hc _) rfl ?_
  refine Ev.sn e_X8_rescales 3 (i' := 20) (ls' := [_, _, _, _, _, _, _]) (st' := [_]) rfl ?_
  refine Ev.brF (i1 := 27) (i2 := 21) e_X8_rescales rfl rfl (bF (g_ok hi (by omega))) ?_
  refine Ev.sn e_X8_rescales 2 (i' := 23) (ls' := [_, _, _, _, _, _, _]) (st' := [_, _]) rfl ?_
  refine Ev.brF (i1 := 27) (i2 := 24) e_X8_rescales rfl rfl (nI_nlt (b := 1) (by omega) (by omega)) ?_
  refine Ev.sn e_X8_rescales 2 (i' := 26) (ls' := [_, _, _, _, _, _, _]) (st' := [_, _]) rfl ?_
  refine Ev.brT (i1 := 29) (i2 := 27) e_X8_rescales rfl rfl (nI_le (b := 48) (by omega) (by omega)) ?_
  refine Ev.sn e_X8_rescales 5 (i' := 34) (ls' := [_, _, _, _, _, _, _]) (st' := [_, _]) rfl ?_
  refine Ev.clV e_X8_rescales rfl rfl (as := [_]) rfl rfl rfl kl_X1_remember rfl rfl rfl (hr1) rfl ?_
  refine Ev.sn e_X8_rescales 2 (i' := 37) (ls' := [_, _, _, _, _, _, _]) (st' := [_, _]) rfl ?_
  refine Ev.brT (i1 := 38) (i2 := 43) e_X8_rescales rfl rfl (rfl) ?_
  refine Ev.sn e_X8_rescales 8 (i' := 50) (ls' := [_, _, _, _, _, _, _]) (st' := [_, _]) rfl ?_
  refine Ev.ialdE e_X8_rescales rfl rfl rfl rfl rfl (by omega) ?_
  refine Ev.sn e_X8_rescales 4 (i' := 55) (ls' := [_, _, _, _, _, _, _]) (st' := [_, _, _]) rfl ?_
  refine Ev.iastE e_X8_rescales rfl rfl rfl rfl (by omega) (w1 := wC (va_up g1 51 (upd (g1 51) i (nI s))) tr) rfl ?_
  refine Ev.sn e_X8_rescales 2 (i' := 58) (ls' := [_, _, _, _, _, _, _]) (st' := [_]) rfl ?_
  refine Ev.clV e_X8_rescales rfl rfl (as := []) rfl rfl rfl kl_X2_freeWhatDoesNotFit rfl rfl rfl (c_X2_freeWhatDoesNotFit _ _ _ hc2) rfl ?_
  refine Ev.sn e_X8_rescales 1 (i' := 60) (ls' := [_, _, _, _, _, _, _]) (st' := [_]) rfl ?_
  refine Ev.iret e_X8_rescales rfl rfl rfl ?_ rfl
  exact congrFun (hlow 51 (by omega)) i
set_option maxRecDepth 20000 in
set_option maxHeartbeats 200000 in
theorem c_X8_rescales_p (d : Nat) (g : Nat → Nat → Int32) (tr : Int64) {n q dn : Nat} (hc : CI n q dn g) {o k : Nat} (ho : g 90 0 = nI o) (hk : g 90 1 = nI k) (ho10 : o < 10) (hk10 : k ≤ 10) {i s : Nat} (hi : i < q) (hs : 1 ≤ s ∧ s ≤ 48) : ∃ g1, RMB g g1 o k ∧ Ev (d + 3) 84 0 [.ref 0, .int 0, .int (nI i), .int (nI s), .null, .null, .null] [] (wC g tr) (some (.int (g 52 i))) (wC (va_up (va_up g1 52 (upd (g1 52) i (nI s))) 50 (FRE n (vC n q dn (va_up g1 52 (upd (g1 52) i (nI s)))) ((va_up g1 52 (upd (g1 52) i (nI s))) 50))) tr) := by
  have hb := hc.b
  obtain ⟨g1, hr1, hr2⟩ := c_X1_remember (d + 0) g tr ho hk ho10 hk10
  have hlow := hr2.low
  have hc1 := hc.keep hlow
  have hb48 : ∀ t, t < q → btw 1 48 (upd (g1 52) i (nI s) t) := fun t ht => by
    by_cases e : t = i
    · subst e; rw [pk_us]; exact ⟨s, hs.1, hs.2, rfl⟩
    · rw [pk_un e, hlow 52 (by omega)]
      have := (hc.w.2.2.1 t ht).1
      rw [show vC n q dn g 4 t = g 52 t from cut_lt ht] at this
      exact this
  have hc2 := hc1.ps hb48
  refine ⟨g1, hr2, ?_⟩
  refine Ev.sn e_X8_rescales 2 (i' := 2) (ls' := [_, _, _, _, _, _, _]) (st' := [_, _]) rfl ?_
  refine Ev.brF (i1 := 3) (i2 := 8) e_X8_rescales rfl rfl ((by decide)) ?_
  refine Ev.sn e_X8_rescales 1 (i' := 9) (ls' := [_, _, _, _, _, _, _]) (st' := [_]) rfl ?_
  refine Ev.brT (i1 := 10) (i2 := 17) e_X8_rescales rfl rfl (rfl) ?_
  refine Ev.sn e_X8_rescales 3 (i' := 13) (ls' := [_, _, _, _, _, _, _]) (st' := [_, _]) rfl ?_
  refine Ev.clV e_X8_rescales rfl rfl (as := [_]) rfl rfl rfl kl_X2_hasPerson rfl rfl rfl (c_X2_hasPerson _ _ _ hc _) rfl ?_
  refine Ev.brF (i1 := 17) (i2 := 15) e_X8_rescales rfl rfl (bF (g_ok hi (by omega))) ?_
  refine Ev.sn e_X8_rescales 4 (i' := 20) (ls' := [_, _, _, _, _, _, _]) (st' := [_]) rfl ?_
  refine Ev.brF (i1 := 27) (i2 := 21) e_X8_rescales rfl rfl ((by decide)) ?_
  refine Ev.sn e_X8_rescales 2 (i' := 23) (ls' := [_, _, _, _, _, _, _]) (st' := [_, _]) rfl ?_
  refine Ev.brF (i1 := 27) (i2 := 24) e_X8_rescales rfl rfl (nI_nlt (b := 1) (by omega) (by omega)) ?_
  refine Ev.sn e_X8_rescales 2 (i' := 26) (ls' := [_, _, _, _, _, _, _]) (st' := [_, _]) rfl ?_
  refine Ev.brT (i1 := 29) (i2 := 27) e_X8_rescales rfl rfl (nI_le (b := 48) (by omega) (by omega)) ?_
  refine Ev.sn e_X8_rescales 5 (i' := 34) (ls' := [_, _, _, _, _, _, _]) (st' := [_, _]) rfl ?_
  refine Ev.clV e_X8_rescales rfl rfl (as := [_]) rfl rfl rfl kl_X1_remember rfl rfl rfl (hr1) rfl ?_
  refine Ev.sn e_X8_rescales 2 (i' := 37) (ls' := [_, _, _, _, _, _, _]) (st' := [_, _]) rfl ?_
  refine Ev.brF (i1 := 38) (i2 := 43) e_X8_rescales rfl rfl ((by decide)) ?_
  refine Ev.sn e_X8_rescales 7 (i' := 50) (ls' := [_, _, _, _, _, _, _]) (st' := [_, _]) rfl ?_
  refine Ev.ialdE e_X8_rescales rfl rfl rfl rfl rfl (by omega) ?_
  refine Ev.sn e_X8_rescales 4 (i' := 55) (ls' := [_, _, _, _, _, _, _]) (st' := [_, _, _]) rfl ?_
  refine Ev.iastE e_X8_rescales rfl rfl rfl rfl (by omega) (w1 := wC (va_up g1 52 (upd (g1 52) i (nI s))) tr) rfl ?_
  refine Ev.sn e_X8_rescales 2 (i' := 58) (ls' := [_, _, _, _, _, _, _]) (st' := [_]) rfl ?_
  refine Ev.clV e_X8_rescales rfl rfl (as := []) rfl rfl rfl kl_X2_freeWhatDoesNotFit rfl rfl rfl (c_X2_freeWhatDoesNotFit _ _ _ hc2) rfl ?_
  refine Ev.sn e_X8_rescales 1 (i' := 60) (ls' := [_, _, _, _, _, _, _]) (st' := [_]) rfl ?_
  refine Ev.iret e_X8_rescales rfl rfl rfl ?_ rfl
  exact congrFun (hlow 52 (by omega)) i
end
section
/-! the rest of the class, but for house, housed, laying, carried -/
set_option maxRecDepth 20000 in
set_option maxHeartbeats 200000 in
theorem c_X6_isFull (d : Nat) (g : Nat → Nat → Int32) (tr : Int64) {k : Nat} (hk : g 0 0 = nI k) (hk2 : k ≤ 200) : Ev d 46 0 [.ref 1] [] (wC g tr) (some (.int (bI (decide (k = 200))))) (wC g tr) := by
  refine Ev.sn e_X6_isFull 3 (i' := 3) (ls' := [_]) (st' := [_, _]) rfl ?_
  refine Ev.br (i1 := 6) (i2 := 4) e_X6_isFull rfl rfl (fun h0 => ?_) (fun h0 => ?_)
  · refine Ev.sn e_X6_isFull 1 (i' := 7) (ls' := [_]) (st' := [_]) rfl ?_
    refine Ev.iret e_X6_isFull rfl rfl rfl ?_ rfl
    have : ¬ k = 200 := fun e => absurd h0 (by rw [hk, e]; decide)
    simp [bI, this]
  · refine Ev.sn e_X6_isFull 2 (i' := 7) (ls' := [_]) (st' := [_]) rfl ?_
    refine Ev.iret e_X6_isFull rfl rfl rfl ?_ rfl
    have : k = 200 := by
      by_cases e : k < 200
      · exact absurd (by rw [hk]; exact nI_lt (b := 200) e (by omega)) h0
      · omega
    simp [bI, this]
set_option maxRecDepth 20000 in
set_option maxHeartbeats 200000 in
theorem c_X6_add (d : Nat) (g : Nat → Nat → Int32) (tr : Int64) {k : Nat} (hk : g 0 0 = nI k) (hk2 : k < 200) (x : Int32) (hx : vp_nar .char x = x) : Ev (d + 1) 47 0 [.ref 1, .int x] [] (wC g tr) none (wC (va_up (va_up g 1 (upd (g 1) k x)) 0 (upd (g 0) 0 (nI (k + 1)))) tr) := by
  refine Ev.sn e_X6_add 1 (i' := 1) (ls' := [_, _]) (st' := [_]) rfl ?_
  refine Ev.clV e_X6_add rfl rfl (as := []) rfl rfl rfl kl_X6_isFull rfl rfl rfl (c_X6_isFull _ _ _ hk (by omega)) rfl ?_
  refine Ev.brT (i1 := 3) (i2 := 15) e_X6_add rfl rfl ((by rw [bI_0]; simp; omega)) ?_
  refine Ev.sn e_X6_add 5 (i' := 8) (ls' := [_, _]) (st' := [_, _, _]) rfl ?_
  refine Ev.castE e_X6_add rfl rfl rfl hk hk2 hx (w1 := wC (va_up g 1 (upd (g 1) k x)) tr) rfl ?_
  refine Ev.sn e_X6_add 5 (i' := 14) (ls' := [_, _]) (st' := [_, _]) rfl ?_
  refine Ev.put e_X6_add rfl rfl rfl rfl rfl rfl (w1 := wC (va_up (va_up g 1 (upd (g 1) k x)) 0 (upd (g 0) 0 (g 0 0 + 1))) tr) rfl ?_
  exact Ev.vret e_X6_add rfl rfl (by rw [hk, nI_1])
theorem ch_ok : ∀ m, m < 256 → ((nI m).toUInt32 % 65536).toInt32 = nI m ∧ vp_nar .char (nI m) = nI m := by decide +kernel
set_option maxRecDepth 20000 in
set_option maxHeartbeats 200000 in
theorem c_X8_type_b (d : Nat) (g : Nat → Nat → Int32) (tr : Int64) (x : Int32) (h : (decide (0 ≤ x) && decide (x ≤ 255)) = false) : Ev (d + 2) 74 0 [.ref 0, .int x] [] (wC g tr) (some (.int (-1))) (wC g tr) := by
  refine Ev.sn e_X8_type 1 (i' := 1) (ls' := [_, _]) (st' := [_]) rfl ?_
  refine Ev.br (i1 := 5) (i2 := 2) e_X8_type rfl rfl (fun h0 => ?_) (fun h0 => ?_)
  · refine Ev.sn e_X8_type 1 (i' := 6) (ls' := [_, _]) (st' := [_]) rfl ?_
    refine Ev.iret e_X8_type rfl rfl rfl ?_ rfl
    rfl
  · refine Ev.sn e_X8_type 2 (i' := 4) (ls' := [_, _]) (st' := [_, _]) rfl ?_
    refine Ev.br (i1 := 7) (i2 := 5) e_X8_type rfl rfl (fun h1 => ?_) (fun h1 => ?_)
    · exfalso
      simp [Int32.not_lt.mp h0, h1] at h
    · refine Ev.sn e_X8_type 1 (i' := 6) (ls' := [_, _]) (st' := [_]) rfl ?_
      refine Ev.iret e_X8_type rfl rfl rfl ?_ rfl
      rfl
set_option maxRecDepth 20000 in
set_option maxHeartbeats 200000 in
theorem c_X8_type_f (d : Nat) (g : Nat → Nat → Int32) (tr : Int64) {x : Nat} (hx : x ≤ 255) (hk : g 0 0 = nI 200) : Ev (d + 2) 74 0 [.ref 0, .int (nI x)] [] (wC g tr) (some (.int (-3))) (wC g tr) := by
  refine Ev.sn e_X8_type 1 (i' := 1) (ls' := [_, _]) (st' := [_]) rfl ?_
  refine Ev.brF (i1 := 5) (i2 := 2) e_X8_type rfl rfl (nI_nlt (b := 0) (by omega) (by omega)) ?_
  refine Ev.sn e_X8_type 2 (i' := 4) (ls' := [_, _]) (st' := [_, _]) rfl ?_
  refine Ev.brT (i1 := 7) (i2 := 5) e_X8_type rfl rfl (nI_le (b := 255) (by omega) (by omega)) ?_
  refine Ev.sn e_X8_type 2 (i' := 9) (ls' := [_, _]) (st' := [_]) rfl ?_
  refine Ev.clV e_X8_type rfl rfl (as := []) rfl rfl rfl kl_X6_isFull rfl rfl rfl (c_X6_isFull _ _ _ hk (by omega)) rfl ?_
  refine Ev.brF (i1 := 13) (i2 := 11) e_X8_type rfl rfl ((by decide)) ?_
  refine Ev.sn e_X8_type 1 (i' := 12) (ls' := [_, _]) (st' := [_]) rfl ?_
  refine Ev.iret e_X8_type rfl rfl rfl ?_ rfl
  rfl
set_option maxRecDepth 20000 in
set_option maxHeartbeats 200000 in
theorem c_X8_type_s (d : Nat) (g : Nat → Nat → Int32) (tr : Int64) {x k : Nat} (hx : x ≤ 255) (hk : g 0 0 = nI k) (hk2 : k < 200) : Ev (d + 2) 74 0 [.ref 0, .int (nI x)] [] (wC g tr) (some (.int (nI (k + 1)))) (wC (va_up (va_up g 1 (upd (g 1) k (nI x))) 0 (upd (g 0) 0 (nI (k + 1)))) tr) := by
  refine Ev.sn e_X8_type 1 (i' := 1) (ls' := [_, _]) (st' := [_]) rfl ?_
  refine Ev.brF (i1 := 5) (i2 := 2) e_X8_type rfl rfl (nI_nlt (b := 0) (by omega) (by omega)) ?_
  refine Ev.sn e_X8_type 2 (i' := 4) (ls' := [_, _]) (st' := [_, _]) rfl ?_
  refine Ev.brT (i1 := 7) (i2 := 5) e_X8_type rfl rfl (nI_le (b := 255) (by omega) (by omega)) ?_
  refine Ev.sn e_X8_type 2 (i' := 9) (ls' := [_, _]) (st' := [_]) rfl ?_
  refine Ev.clV e_X8_type rfl rfl (as := []) rfl rfl rfl kl_X6_isFull rfl rfl rfl (c_X6_isFull _ _ _ hk (by omega)) rfl ?_
  refine Ev.brT (i1 := 13) (i2 := 11) e_X8_type rfl rfl ((by rw [bI_0]; simp; omega)) ?_
  refine Ev.sn e_X8_type 4 (i' := 17) (ls' := [_, _]) (st' := [_, _]) rfl ?_
  refine Ev.clV e_X8_type rfl rfl (as := [_]) rfl rfl rfl kl_X6_add rfl rfl rfl (by rw [(ch_ok x (by omega)).1]; exact c_X6_add _ _ _ hk hk2 _ (ch_ok x (by omega)).2) rfl ?_
  refine Ev.sn e_X8_type 2 (i' := 20) (ls' := [_, _]) (st' := [_]) rfl ?_
  refine Ev.clV e_X8_type rfl rfl (as := []) rfl rfl rfl kl_X6_size rfl rfl rfl (c_X6_size _ _ _) rfl ?_
  refine Ev.iret e_X8_type rfl rfl rfl ?_ rfl
  rfl
set_option maxRecDepth 20000 in
set_option maxHeartbeats 200000 in
theorem c_X8_clear (d : Nat) (g : Nat → Nat → Int32) (tr : Int64) : Ev (d + 1) 75 0 [.ref 0, .null] [] (wC g tr) (some (.int (g 0 0))) (wC (va_up g 0 (upd (g 0) 0 0)) tr) := by
  refine Ev.sn e_X8_clear 2 (i' := 2) (ls' := [_, _]) (st' := [_]) rfl ?_
  refine Ev.clV e_X8_clear rfl rfl (as := []) rfl rfl rfl kl_X6_size rfl rfl rfl (c_X6_size _ _ _) rfl ?_
  refine Ev.sn e_X8_clear 3 (i' := 6) (ls' := [_, _]) (st' := [_]) rfl ?_
  refine Ev.clV e_X8_clear rfl rfl (as := []) rfl rfl rfl kl_X6_loseAll rfl rfl rfl (c_X6_loseAll _ _ _ _ _) rfl ?_
  refine Ev.sn e_X8_clear 1 (i' := 8) (ls' := [_, _]) (st' := [_]) rfl ?_
  refine Ev.iret e_X8_clear rfl rfl rfl ?_ rfl
  rfl
set_option maxRecDepth 20000 in
set_option maxHeartbeats 200000 in
theorem c_X8_rateOfThing (d : Nat) (g : Nat → Nat → Int32) (tr : Int64) {n q dn : Nat} (hc : CI n q dn g) {t : Nat} (ht : t < n) : Ev d 105 0 [.ref 0, .int (nI t)] [] (wC g tr) (some (.int ((vC n q dn g) 2 t))) (wC g (tr + 1)) := by
  have hb := hc.b
  have hv2 : (vC n q dn g) 2 t = g 34 t := cut_lt ht
  have hv1 : (vC n q dn g) 1 t = g 51 t := cut_lt ht
  have hv3 : (vC n q dn g) 3 t = g 35 t := cut_lt ht
  refine Ev.sn e_X8_rateOfThing 5 (i' := 5) (ls' := [_, _]) (st' := [_, _]) rfl ?_
  refine Ev.put e_X8_rateOfThing rfl rfl rfl rfl rfl rfl (w1 := wC g (tr + 1)) rfl ?_
  refine Ev.sn e_X8_rateOfThing 5 (i' := 11) (ls' := [_, _]) (st' := [_, _]) rfl ?_
  refine Ev.ialdE e_X8_rateOfThing rfl rfl rfl rfl rfl (by omega) ?_
  refine Ev.iret e_X8_rateOfThing rfl rfl rfl ?_ rfl
  exact hv2.symm
set_option maxRecDepth 20000 in
set_option maxHeartbeats 200000 in
theorem c_X8_rateOfTurned (d : Nat) (g : Nat → Nat → Int32) (tr : Int64) {n q dn : Nat} (hc : CI n q dn g) {t : Nat} (ht : t < n) : Ev (d + 1) 106 0 [.ref 0, .int (nI t)] [] (wC g tr) (some (.int ((vC n q dn g) 2 t + (vC n q dn g) 1 t))) (wC g (tr + 10 + 1)) := by
  have hb := hc.b
  have hv2 : (vC n q dn g) 2 t = g 34 t := cut_lt ht
  have hv1 : (vC n q dn g) 1 t = g 51 t := cut_lt ht
  have hv3 : (vC n q dn g) 3 t = g 35 t := cut_lt ht
  refine Ev.sn e_X8_rateOfTurned 5 (i' := 5) (ls' := [_, _]) (st' := [_, _]) rfl ?_
  refine Ev.put e_X8_rateOfTurned rfl rfl rfl rfl rfl rfl (w1 := wC g (tr + 10)) rfl ?_
  refine Ev.sn e_X8_rateOfTurned 2 (i' := 8) (ls' := [_, _]) (st' := [_, _]) rfl ?_
  refine Ev.clV e_X8_rateOfTurned rfl rfl (as := [_]) rfl rfl rfl kl_X8_rateOfThing rfl rfl rfl (c_X8_rateOfThing _ _ _ hc ht) rfl ?_
  refine Ev.sn e_X8_rateOfTurned 5 (i' := 14) (ls' := [_, _]) (st' := [_, _, _]) rfl ?_
  refine Ev.ialdE e_X8_rateOfTurned rfl rfl rfl rfl rfl (by omega) ?_
  refine Ev.sn e_X8_rateOfTurned 1 (i' := 16) (ls' := [_, _]) (st' := [_]) rfl ?_
  refine Ev.iret e_X8_rateOfTurned rfl rfl rfl ?_ rfl
  rw [hv1]
set_option maxRecDepth 20000 in
set_option maxHeartbeats 200000 in
theorem c_X8_rateOfGlued (d : Nat) (g : Nat → Nat → Int32) (tr : Int64) {n q dn : Nat} (hc : CI n q dn g) {t : Nat} (ht : t < n) : Ev (d + 1) 107 0 [.ref 0, .int (nI t)] [] (wC g tr) (some (.int ((vC n q dn g) 2 t - (vC n q dn g) 3 t))) (wC g (tr + 100 + 1)) := by
  have hb := hc.b
  have hv2 : (vC n q dn g) 2 t = g 34 t := cut_lt ht
  have hv1 : (vC n q dn g) 1 t = g 51 t := cut_lt ht
  have hv3 : (vC n q dn g) 3 t = g 35 t := cut_lt ht
  refine Ev.sn e_X8_rateOfGlued 5 (i' := 5) (ls' := [_, _]) (st' := [_, _]) rfl ?_
  refine Ev.put e_X8_rateOfGlued rfl rfl rfl rfl rfl rfl (w1 := wC g (tr + 100)) rfl ?_
  refine Ev.sn e_X8_rateOfGlued 2 (i' := 8) (ls' := [_, _]) (st' := [_, _]) rfl ?_
  refine Ev.clV e_X8_rateOfGlued rfl rfl (as := [_]) rfl rfl rfl kl_X8_rateOfThing rfl rfl rfl (c_X8_rateOfThing _ _ _ hc ht) rfl ?_
  refine Ev.sn e_X8_rateOfGlued 5 (i' := 14) (ls' := [_, _]) (st' := [_, _, _]) rfl ?_
  refine Ev.ialdE e_X8_rateOfGlued rfl rfl rfl rfl rfl (by omega) ?_
  refine Ev.sn e_X8_rateOfGlued 1 (i' := 16) (ls' := [_, _]) (st' := [_]) rfl ?_
  refine Ev.iret e_X8_rateOfGlued rfl rfl rfl ?_ rfl
  rw [hv3]
set_option maxRecDepth 20000 in
set_option maxHeartbeats 200000 in
theorem c_X8_rateOfCarved (d : Nat) (g : Nat → Nat → Int32) (tr : Int64) {n q dn : Nat} (hc : CI n q dn g) {t : Nat} (ht : t < n) : Ev (d + 2) 108 0 [.ref 0, .int (nI t)] [] (wC g tr) (some (.int (2 * ((vC n q dn g) 2 t + (vC n q dn g) 1 t)))) (wC g (tr + 1000 + 10 + 1)) := by
  have hb := hc.b
  have hv2 : (vC n q dn g) 2 t = g 34 t := cut_lt ht
  have hv1 : (vC n q dn g) 1 t = g 51 t := cut_lt ht
  have hv3 : (vC n q dn g) 3 t = g 35 t := cut_lt ht
  refine Ev.sn e_X8_rateOfCarved 5 (i' := 5) (ls' := [_, _]) (st' := [_, _]) rfl ?_
  refine Ev.put e_X8_rateOfCarved rfl rfl rfl rfl rfl rfl (w1 := wC g (tr + 1000)) rfl ?_
  refine Ev.sn e_X8_rateOfCarved 3 (i' := 9) (ls' := [_, _]) (st' := [_, _, _]) rfl ?_
  refine Ev.clV e_X8_rateOfCarved rfl rfl (as := [_]) rfl rfl rfl kl_X8_rateOfTurned rfl rfl rfl (c_X8_rateOfTurned _ _ _ hc ht) rfl ?_
  refine Ev.sn e_X8_rateOfCarved 1 (i' := 11) (ls' := [_, _]) (st' := [_]) rfl ?_
  refine Ev.iret e_X8_rateOfCarved rfl rfl rfl ?_ rfl
  rfl
set_option maxRecDepth 20000 in
set_option maxHeartbeats 200000 in
theorem c_X8_rateOfSoup (d : Nat) (g : Nat → Nat → Int32) (tr : Int64) {n q dn : Nat} (hc : CI n q dn g) {t : Nat} (ht : t < n) : Ev (d + 2) 109 0 [.ref 0, .int (nI t)] [] (wC g tr) (some (.int ((vC n q dn g) 2 t - (vC n q dn g) 3 t + nI t))) (wC g (tr + 10000 + 100 + 1)) := by
  have hb := hc.b
  have hv2 : (vC n q dn g) 2 t = g 34 t := cut_lt ht
  have hv1 : (vC n q dn g) 1 t = g 51 t := cut_lt ht
  have hv3 : (vC n q dn g) 3 t = g 35 t := cut_lt ht
  refine Ev.sn e_X8_rateOfSoup 5 (i' := 5) (ls' := [_, _]) (st' := [_, _]) rfl ?_
  refine Ev.put e_X8_rateOfSoup rfl rfl rfl rfl rfl rfl (w1 := wC g (tr + 10000)) rfl ?_
  refine Ev.sn e_X8_rateOfSoup 2 (i' := 8) (ls' := [_, _]) (st' := [_, _]) rfl ?_
  refine Ev.clV e_X8_rateOfSoup rfl rfl (as := [_]) rfl rfl rfl kl_X8_rateOfGlued rfl rfl rfl (c_X8_rateOfGlued _ _ _ hc ht) rfl ?_
  refine Ev.sn e_X8_rateOfSoup 2 (i' := 11) (ls' := [_, _]) (st' := [_]) rfl ?_
  refine Ev.iret e_X8_rateOfSoup rfl rfl rfl ?_ rfl
  rfl
set_option maxRecDepth 20000 in
set_option maxHeartbeats 200000 in
theorem c_X8_rateOfReal (d : Nat) (g : Nat → Nat → Int32) (tr : Int64) {n q dn : Nat} (hc : CI n q dn g) {t : Nat} (ht : t < n) : Ev (d + 3) 110 0 [.ref 0, .int (nI t)] [] (wC g tr) (some (.int ((vC n q dn g) 2 t + bcI (PIF q (vC n q dn g) t)))) (wC g (tr + 100000 + 1)) := by
  have hb := hc.b
  have hv2 : (vC n q dn g) 2 t = g 34 t := cut_lt ht
  have hv1 : (vC n q dn g) 1 t = g 51 t := cut_lt ht
  have hv3 : (vC n q dn g) 3 t = g 35 t := cut_lt ht
  refine Ev.sn e_X8_rateOfReal 5 (i' := 5) (ls' := [_, _]) (st' := [_, _]) rfl ?_
  refine Ev.put e_X8_rateOfReal rfl rfl rfl rfl rfl rfl (w1 := wC g (tr + 100000)) rfl ?_
  refine Ev.sn e_X8_rateOfReal 2 (i' := 8) (ls' := [_, _]) (st' := [_, _]) rfl ?_
  refine Ev.clV e_X8_rateOfReal rfl rfl (as := [_]) rfl rfl rfl kl_X8_rateOfThing rfl rfl rfl (c_X8_rateOfThing _ _ _ hc ht) rfl ?_
  refine Ev.sn e_X8_rateOfReal 3 (i' := 12) (ls' := [_, _]) (st' := [_, _, _]) rfl ?_
  refine Ev.clV e_X8_rateOfReal rfl rfl (as := [_]) rfl rfl rfl kl_X2_peopleItFits rfl rfl rfl (c_X2_peopleItFits _ _ _ hc ht) rfl ?_
  refine Ev.clS e_X8_rateOfReal rfl rfl rfl (as := [_]) rfl rfl rfl rfl rfl (c_J6_bitCount_0f7a4 _ _ _) rfl ?_
  refine Ev.sn e_X8_rateOfReal 1 (i' := 15) (ls' := [_, _]) (st' := [_]) rfl ?_
  refine Ev.iret e_X8_rateOfReal rfl rfl rfl ?_ rfl
  rfl
def S_rate (n q : Nat) (v : VW) (c t : Int32) : Int32 := if (decide (0 ≤ t) && decide (t < nI n)) = true then (if c = 0 then v 2 t.toNatClampNeg else if c = 1 then v 2 t.toNatClampNeg + v 1 t.toNatClampNeg else if c = 2 then v 2 t.toNatClampNeg - v 3 t.toNatClampNeg else if c = 3 then 2 * (v 2 t.toNatClampNeg + v 1 t.toNatClampNeg) else if c = 4 then v 2 t.toNatClampNeg - v 3 t.toNatClampNeg + t else if c = 5 then v 2 t.toNatClampNeg + bcI (PIF q v t.toNatClampNeg) else -1000000) else -1000000
def S_trc (n : Nat) (tr : Int64) (c t : Int32) : Int64 := if (decide (0 ≤ t) && decide (t < nI n)) = true then (if c = 0 then tr + 1 else if c = 1 then tr + 11 else if c = 2 then tr + 101 else if c = 3 then tr + 1011 else if c = 4 then tr + 10101 else if c = 5 then tr + 100001 else tr) else tr
set_option maxRecDepth 20000 in
set_option maxHeartbeats 200000 in
theorem c_X8_rate (d : Nat) (g : Nat → Nat → Int32) (tr : Int64) {n q dn : Nat} (hc : CI n q dn g) (c t : Int32) : Ev (d + 4) 100 0 [.ref 0, .int c, .int t] [] (wC g tr) (some (.int (S_rate n q (vC n q dn g) c t))) (wC g (S_trc n tr c t)) := by
  have hb := hc.b
  refine Ev.sn e_X8_rate 3 (i' := 3) (ls' := [_, _, _]) (st' := [_, _]) rfl ?_
  refine Ev.clV e_X8_rate rfl rfl (as := [_]) rfl rfl rfl kl_X2_hasThing rfl rfl rfl (c_X2_hasThing _ _ _ hc _) rfl ?_
  refine Ev.brB (i1 := 5) (i2 := 7) e_X8_rate rfl rfl (fun h0 => ?_) (fun h0 => ?_)
  · refine Ev.sn e_X8_rate 1 (i' := 6) (ls' := [_, _, _]) (st' := [_]) rfl ?_
    exact Ev.iret e_X8_rate rfl rfl rfl (by simp [S_rate, h0]) (by simp [S_trc, h0])
  · obtain ⟨j, hj, rfl⟩ := ixB (n := n) (by omega) h0
    have hcl : (nI j).toNatClampNeg = j := nI_clamp (by omega)
    refine Ev.sn e_X8_rate 1 (i' := 8) (ls' := [_, _, _]) (st' := [_]) rfl ?_
    by_cases s1 : c = 0
    · refine Ev.swi (t := 9) (ls' := [_, _, _]) (st' := []) e_X8_rate rfl rfl (by rw [s1]; rfl) ?_
      refine Ev.sn e_X8_rate 2 (i' := 11) (ls' := [_, _, _]) (st' := [_, _]) rfl ?_
      refine Ev.clV e_X8_rate rfl rfl (as := [_]) rfl rfl rfl kl_X8_rateOfThing rfl rfl rfl (c_X8_rateOfThing _ _ _ hc hj) rfl ?_
      exact Ev.iret e_X8_rate rfl rfl rfl (by simp [S_rate, h0, hcl, s1]) (by simp [S_trc, h0, s1])
    by_cases s2 : c = 1
    · refine Ev.swi (t := 13) (ls' := [_, _, _]) (st' := []) e_X8_rate rfl rfl (by rw [s2]; rfl) ?_
      refine Ev.sn e_X8_rate 2 (i' := 15) (ls' := [_, _, _]) (st' := [_, _]) rfl ?_
      refine Ev.clV e_X8_rate rfl rfl (as := [_]) rfl rfl rfl kl_X8_rateOfTurned rfl rfl rfl (c_X8_rateOfTurned _ _ _ hc hj) rfl ?_
      exact Ev.iret e_X8_rate rfl rfl rfl (by simp [S_rate, h0, hcl, s1, s2]) (by simp [S_trc, h0, s1, s2, Int64.add_assoc])
    by_cases s3 : c = 2
    · refine Ev.swi (t := 17) (ls' := [_, _, _]) (st' := []) e_X8_rate rfl rfl (by rw [s3]; rfl) ?_
      refine Ev.sn e_X8_rate 2 (i' := 19) (ls' := [_, _, _]) (st' := [_, _]) rfl ?_
      refine Ev.clV e_X8_rate rfl rfl (as := [_]) rfl rfl rfl kl_X8_rateOfGlued rfl rfl rfl (c_X8_rateOfGlued _ _ _ hc hj) rfl ?_
      exact Ev.iret e_X8_rate rfl rfl rfl (by simp [S_rate, h0, hcl, s1, s2, s3]) (by simp [S_trc, h0, s1, s2, s3, Int64.add_assoc])
    by_cases s4 : c = 3
    · refine Ev.swi (t := 21) (ls' := [_, _, _]) (st' := []) e_X8_rate rfl rfl (by rw [s4]; rfl) ?_
      refine Ev.sn e_X8_rate 2 (i' := 23) (ls' := [_, _, _]) (st' := [_, _]) rfl ?_
      refine Ev.clV e_X8_rate rfl rfl (as := [_]) rfl rfl rfl kl_X8_rateOfCarved rfl rfl rfl (c_X8_rateOfCarved _ _ _ hc hj) rfl ?_
      exact Ev.iret e_X8_rate rfl rfl rfl (by simp [S_rate, h0, hcl, s1, s2, s3, s4]) (by simp [S_trc, h0, s1, s2, s3, s4, Int64.add_assoc])
    by_cases s5 : c = 4
    · refine Ev.swi (t := 25) (ls' := [_, _, _]) (st' := []) e_X8_rate rfl rfl (by rw [s5]; rfl) ?_
      refine Ev.sn e_X8_rate 2 (i' := 27) (ls' := [_, _, _]) (st' := [_, _]) rfl ?_
      refine Ev.clV e_X8_rate rfl rfl (as := [_]) rfl rfl rfl kl_X8_rateOfSoup rfl rfl rfl (c_X8_rateOfSoup _ _ _ hc hj) rfl ?_
      exact Ev.iret e_X8_rate rfl rfl rfl (by simp [S_rate, h0, hcl, s1, s2, s3, s4, s5]) (by simp [S_trc, h0, s1, s2, s3, s4, s5, Int64.add_assoc])
    by_cases s6 : c = 5
    · refine Ev.swi (t := 29) (ls' := [_, _, _]) (st' := []) e_X8_rate rfl rfl (by rw [s6]; rfl) ?_
      refine Ev.sn e_X8_rate 2 (i' := 31) (ls' := [_, _, _]) (st' := [_, _]) rfl ?_
      refine Ev.clV e_X8_rate rfl rfl (as := [_]) rfl rfl rfl kl_X8_rateOfReal rfl rfl rfl (c_X8_rateOfReal _ _ _ hc hj) rfl ?_
      exact Ev.iret e_X8_rate rfl rfl rfl (by simp [S_rate, h0, hcl, s1, s2, s3, s4, s5, s6]) (by simp [S_trc, h0, s1, s2, s3, s4, s5, s6, Int64.add_assoc])
    refine Ev.swi (t := 33) (ls' := [_, _, _]) (st' := []) e_X8_rate rfl rfl (by simp [swl, h0, s1, s2, s3, s4, s5, s6]) ?_
    refine Ev.sn e_X8_rate 1 (i' := 34) (ls' := [_, _, _]) (st' := [_]) rfl ?_
    exact Ev.iret e_X8_rate rfl rfl rfl (by simp [S_rate, h0, s1, s2, s3, s4, s5, s6]) (by simp [S_trc, h0, s1, s2, s3, s4, s5, s6])
set_option maxRecDepth 20000 in
set_option maxHeartbeats 200000 in
theorem c_X8_keep_b (d : Nat) (g : Nat → Nat → Int32) (tr : Int64) (x : Int32) (h : (decide (x = 0) || decide (x = 1)) = false) : Ev (d + 2) 101 0 [.ref 0, .int x] [] (wC g tr) (some (.int (-1))) (wC g tr) := by
  refine Ev.sn e_X8_keep 1 (i' := 1) (ls' := [_, _]) (st' := [_]) rfl ?_
  refine Ev.clS e_X8_keep rfl rfl rfl (as := [_]) rfl rfl rfl rfl rfl (c_X8_isFirstOrSecond _ _ _) rfl ?_
  refine Ev.brT (i1 := 3) (i2 := 5) e_X8_keep rfl rfl (bT h) ?_
  refine Ev.sn e_X8_keep 1 (i' := 4) (ls' := [_, _]) (st' := [_]) rfl ?_
  refine Ev.iret e_X8_keep rfl rfl rfl ?_ rfl
  rfl
def kepT (g : Nat → Nat → Int32) (i : Nat) : Nat → Nat → Int32 := va_up (cp3 g (91 + 3 * i) 50) 97 (upd (g 97) i 1)
set_option maxRecDepth 20000 in
set_option maxHeartbeats 200000 in
theorem c_X8_keep_0 (d : Nat) (g : Nat → Nat → Int32) (tr : Int64) {n q dn : Nat} (hc : CI n q dn g) : Ev (d + 2) 101 0 [.ref 0, .int 0] [] (wC g tr) (some (.int (bcI (OWN n (vC n q dn g))))) (wC (kepT g 0) tr) := by
  have hb := hc.b
  have hc2 : CI n q dn (va_up (cp3 g 91 50) 97 (upd (g 97) 0 1)) := hc
  refine Ev.sn e_X8_keep 1 (i' := 1) (ls' := [_, _]) (st' := [_]) rfl ?_
  refine Ev.clS e_X8_keep rfl rfl rfl (as := [_]) rfl rfl rfl rfl rfl (c_X8_isFirstOrSecond _ _ _) rfl ?_
  refine Ev.brF (i1 := 3) (i2 := 5) e_X8_keep rfl rfl ((by decide)) ?_
  refine Ev.sn e_X8_keep 3 (i' := 8) (ls' := [_, _]) (st' := [_, _]) rfl ?_
  refine Ev.aaldE e_X8_keep rfl rfl rfl (m := 0) rfl (by decide) rfl ?_
  refine Ev.sn e_X8_keep 3 (i' := 12) (ls' := [_, _]) (st' := [_, _]) rfl ?_
  refine Ev.clV e_X8_keep rfl rfl (as := [_]) rfl rfl rfl kl_X4_copyFrom rfl rfl rfl (c_cp_87_30 _ _ _ _ _) rfl ?_
  refine Ev.sn e_X8_keep 4 (i' := 17) (ls' := [_, _]) (st' := [_, _, _]) rfl ?_
  refine Ev.bastE e_X8_keep rfl rfl rfl (m := 0) rfl (by decide) (Or.inr rfl) (w1 := wC (va_up (cp3 g 91 50) 97 (upd (g 97) 0 1)) tr) rfl ?_
  refine Ev.sn e_X8_keep 2 (i' := 20) (ls' := [_, _]) (st' := [_]) rfl ?_
  refine Ev.clV e_X8_keep rfl rfl (as := []) rfl rfl rfl kl_X2_ownedThings rfl rfl rfl (c_X2_ownedThings _ _ _ hc2) rfl ?_
  refine Ev.clS e_X8_keep rfl rfl rfl (as := [_]) rfl rfl rfl rfl rfl (c_J6_bitCount_0f7a4 _ _ _) rfl ?_
  refine Ev.iret e_X8_keep rfl rfl rfl ?_ rfl
  rw [show vC n q dn (va_up (cp3 g 91 50) 97 (upd (g 97) 0 1)) = (vC n q dn g) from rfl]
set_option maxRecDepth 20000 in
set_option maxHeartbeats 200000 in
theorem c_X8_keep_1 (d : Nat) (g : Nat → Nat → Int32) (tr : Int64) {n q dn : Nat} (hc : CI n q dn g) : Ev (d + 2) 101 0 [.ref 0, .int 1] [] (wC g tr) (some (.int (bcI (OWN n (vC n q dn g))))) (wC (kepT g 1) tr) := by
  have hb := hc.b
  have hc2 : CI n q dn (va_up (cp3 g 94 50) 97 (upd (g 97) 1 1)) := hc
  refine Ev.sn e_X8_keep 1 (i' := 1) (ls' := [_, _]) (st' := [_]) rfl ?_
  refine Ev.clS e_X8_keep rfl rfl rfl (as := [_]) rfl rfl rfl rfl rfl (c_X8_isFirstOrSecond _ _ _) rfl ?_
  refine Ev.brF (i1 := 3) (i2 := 5) e_X8_keep rfl rfl ((by decide)) ?_
  refine Ev.sn e_X8_keep 3 (i' := 8) (ls' := [_, _]) (st' := [_, _]) rfl ?_
  refine Ev.aaldE e_X8_keep rfl rfl rfl (m := 1) rfl (by decide) rfl ?_
  refine Ev.sn e_X8_keep 3 (i' := 12) (ls' := [_, _]) (st' := [_, _]) rfl ?_
  refine Ev.clV e_X8_keep rfl rfl (as := [_]) rfl rfl rfl kl_X4_copyFrom rfl rfl rfl (c_cp_91_30 _ _ _ _ _) rfl ?_
  refine Ev.sn e_X8_keep 4 (i' := 17) (ls' := [_, _]) (st' := [_, _, _]) rfl ?_
  refine Ev.bastE e_X8_keep rfl rfl rfl (m := 1) rfl (by decide) (Or.inr rfl) (w1 := wC (va_up (cp3 g 94 50) 97 (upd (g 97) 1 1)) tr) rfl ?_
  refine Ev.sn e_X8_keep 2 (i' := 20) (ls' := [_, _]) (st' := [_]) rfl ?_
  refine Ev.clV e_X8_keep rfl rfl (as := []) rfl rfl rfl kl_X2_ownedThings rfl rfl rfl (c_X2_ownedThings _ _ _ hc2) rfl ?_
  refine Ev.clS e_X8_keep rfl rfl rfl (as := [_]) rfl rfl rfl rfl rfl (c_J6_bitCount_0f7a4 _ _ _) rfl ?_
  refine Ev.iret e_X8_keep rfl rfl rfl ?_ rfl
  rw [show vC n q dn (va_up (cp3 g 94 50) 97 (upd (g 97) 1 1)) = (vC n q dn g) from rfl]
set_option maxRecDepth 20000 in
set_option maxHeartbeats 200000 in
theorem c_X8_back_b (d : Nat) (g : Nat → Nat → Int32) (tr : Int64) (x : Int32) (h : (decide (x = 0) || decide (x = 1)) = false) : Ev (d + 2) 102 0 [.ref 0, .int x] [] (wC g tr) (some (.int (-1))) (wC g tr) := by
  refine Ev.sn e_X8_back 1 (i' := 1) (ls' := [_, _]) (st' := [_]) rfl ?_
  refine Ev.clS e_X8_back rfl rfl rfl (as := [_]) rfl rfl rfl rfl rfl (c_X8_isFirstOrSecond _ _ _) rfl ?_
  refine Ev.brT (i1 := 3) (i2 := 5) e_X8_back rfl rfl (bT h) ?_
  refine Ev.sn e_X8_back 1 (i' := 4) (ls' := [_, _]) (st' := [_]) rfl ?_
  refine Ev.iret e_X8_back rfl rfl rfl ?_ rfl
  rfl
def bakT (g : Nat → Nat → Int32) (i : Nat) : Nat → Nat → Int32 := va_up (cp3 g 50 (91 + 3 * i)) 90 (upd (g 90) 1 0)
set_option maxRecDepth 20000 in
set_option maxHeartbeats 200000 in
theorem c_X8_back_f0 (d : Nat) (g : Nat → Nat → Int32) (tr : Int64) (h : g 97 0 = 0) : Ev (d + 2) 102 0 [.ref 0, .int 0] [] (wC g tr) (some (.int (-2))) (wC g tr) := by
  refine Ev.sn e_X8_back 1 (i' := 1) (ls' := [_, _]) (st' := [_]) rfl ?_
  refine Ev.clS e_X8_back rfl rfl rfl (as := [_]) rfl rfl rfl rfl rfl (c_X8_isFirstOrSecond _ _ _) rfl ?_
  refine Ev.brF (i1 := 3) (i2 := 5) e_X8_back rfl rfl ((by decide)) ?_
  refine Ev.sn e_X8_back 3 (i' := 8) (ls' := [_, _]) (st' := [_, _]) rfl ?_
  refine Ev.baldE e_X8_back rfl rfl rfl (m := 0) rfl (by decide) ?_
  refine Ev.brT (i1 := 10) (i2 := 12) e_X8_back rfl rfl (h) ?_
  refine Ev.sn e_X8_back 1 (i' := 11) (ls' := [_, _]) (st' := [_]) rfl ?_
  refine Ev.iret e_X8_back rfl rfl rfl ?_ rfl
  rfl
set_option maxRecDepth 20000 in
set_option maxHeartbeats 200000 in
theorem c_X8_back_s0 (d : Nat) (g : Nat → Nat → Int32) (tr : Int64) {n q dn : Nat} (hc2 : CI n q dn (bakT g 0)) (h : ¬ g 97 0 = 0) : Ev (d + 2) 102 0 [.ref 0, .int 0] [] (wC g tr) (some (.int (bcI (OWN n (vC n q dn (bakT g 0)))))) (wC (bakT g 0) tr) := by
  refine Ev.sn e_X8_back 1 (i' := 1) (ls' := [_, _]) (st' := [_]) rfl ?_
  refine Ev.clS e_X8_back rfl rfl rfl (as := [_]) rfl rfl rfl rfl rfl (c_X8_isFirstOrSecond _ _ _) rfl ?_
  refine Ev.brF (i1 := 3) (i2 := 5) e_X8_back rfl rfl ((by decide)) ?_
  refine Ev.sn e_X8_back 3 (i' := 8) (ls' := [_, _]) (st' := [_, _]) rfl ?_
  refine Ev.baldE e_X8_back rfl rfl rfl (m := 0) rfl (by decide) ?_
  refine Ev.brF (i1 := 10) (i2 := 12) e_X8_back rfl rfl (h) ?_
  refine Ev.sn e_X8_back 6 (i' := 18) (ls' := [_, _]) (st' := [_, _, _]) rfl ?_
  refine Ev.aaldE e_X8_back rfl rfl rfl (m := 0) rfl (by decide) rfl ?_
  refine Ev.clV e_X8_back rfl rfl (as := [_]) rfl rfl rfl kl_X4_copyFrom rfl rfl rfl (c_cp_30_87 _ _ _ _ _) rfl ?_
  refine Ev.sn e_X8_back 2 (i' := 22) (ls' := [_, _]) (st' := [_]) rfl ?_
  refine Ev.clV e_X8_back rfl rfl (as := []) rfl rfl rfl kl_X1_loseAll rfl rfl rfl (c_X1_loseAll _ 3 17 _ _) rfl ?_
  refine Ev.wd (w2 := wC (bakT g 0) tr) rfl ?_
  refine Ev.sn e_X8_back 2 (i' := 25) (ls' := [_, _]) (st' := [_]) rfl ?_
  refine Ev.clV e_X8_back rfl rfl (as := []) rfl rfl rfl kl_X2_ownedThings rfl rfl rfl (c_X2_ownedThings _ _ _ hc2) rfl ?_
  refine Ev.clS e_X8_back rfl rfl rfl (as := [_]) rfl rfl rfl rfl rfl (c_J6_bitCount_0f7a4 _ _ _) rfl ?_
  refine Ev.iret e_X8_back rfl rfl rfl ?_ rfl
  rfl
set_option maxRecDepth 20000 in
set_option maxHeartbeats 200000 in
theorem c_X8_back_f1 (d : Nat) (g : Nat → Nat → Int32) (tr : Int64) (h : g 97 1 = 0) : Ev (d + 2) 102 0 [.ref 0, .int 1] [] (wC g tr) (some (.int (-2))) (wC g tr) := by
  refine Ev.sn e_X8_back 1 (i' := 1) (ls' := [_, _]) (st' := [_]) rfl ?_
  refine Ev.clS e_X8_back rfl rfl rfl (as := [_]) rfl rfl rfl rfl rfl (c_X8_isFirstOrSecond _ _ _) rfl ?_
  refine Ev.brF (i1 := 3) (i2 := 5) e_X8_back rfl rfl ((by decide)) ?_
  refine Ev.sn e_X8_back 3 (i' := 8) (ls' := [_, _]) (st' := [_, _]) rfl ?_
  refine Ev.baldE e_X8_back rfl rfl rfl (m := 1) rfl (by decide) ?_
  refine Ev.brT (i1 := 10) (i2 := 12) e_X8_back rfl rfl (h) ?_
  refine Ev.sn e_X8_back 1 (i' := 11) (ls' := [_, _]) (st' := [_]) rfl ?_
  refine Ev.iret e_X8_back rfl rfl rfl ?_ rfl
  rfl
set_option maxRecDepth 20000 in
set_option maxHeartbeats 200000 in
theorem c_X8_back_s1 (d : Nat) (g : Nat → Nat → Int32) (tr : Int64) {n q dn : Nat} (hc2 : CI n q dn (bakT g 1)) (h : ¬ g 97 1 = 0) : Ev (d + 2) 102 0 [.ref 0, .int 1] [] (wC g tr) (some (.int (bcI (OWN n (vC n q dn (bakT g 1)))))) (wC (bakT g 1) tr) := by
  refine Ev.sn e_X8_back 1 (i' := 1) (ls' := [_, _]) (st' := [_]) rfl ?_
  refine Ev.clS e_X8_back rfl rfl rfl (as := [_]) rfl rfl rfl rfl rfl (c_X8_isFirstOrSecond _ _ _) rfl ?_
  refine Ev.brF (i1 := 3) (i2 := 5) e_X8_back rfl rfl ((by decide)) ?_
  refine Ev.sn e_X8_back 3 (i' := 8) (ls' := [_, _]) (st' := [_, _]) rfl ?_
  refine Ev.baldE e_X8_back rfl rfl rfl (m := 1) rfl (by decide) ?_
  refine Ev.brF (i1 := 10) (i2 := 12) e_X8_back rfl rfl (h) ?_
  refine Ev.sn e_X8_back 6 (i' := 18) (ls' := [_, _]) (st' := [_, _, _]) rfl ?_
  refine Ev.aaldE e_X8_back rfl rfl rfl (m := 1) rfl (by decide) rfl ?_
  refine Ev.clV e_X8_back rfl rfl (as := [_]) rfl rfl rfl kl_X4_copyFrom rfl rfl rfl (c_cp_30_91 _ _ _ _ _) rfl ?_
  refine Ev.sn e_X8_back 2 (i' := 22) (ls' := [_, _]) (st' := [_]) rfl ?_
  refine Ev.clV e_X8_back rfl rfl (as := []) rfl rfl rfl kl_X1_loseAll rfl rfl rfl (c_X1_loseAll _ 3 17 _ _) rfl ?_
  refine Ev.wd (w2 := wC (bakT g 1) tr) rfl ?_
  refine Ev.sn e_X8_back 2 (i' := 25) (ls' := [_, _]) (st' := [_]) rfl ?_
  refine Ev.clV e_X8_back rfl rfl (as := []) rfl rfl rfl kl_X2_ownedThings rfl rfl rfl (c_X2_ownedThings _ _ _ hc2) rfl ?_
  refine Ev.clS e_X8_back rfl rfl rfl (as := [_]) rfl rfl rfl rfl rfl (c_J6_bitCount_0f7a4 _ _ _) rfl ?_
  refine Ev.iret e_X8_back rfl rfl rfl ?_ rfl
  rfl
set_option maxRecDepth 20000 in
set_option maxHeartbeats 200000 in
theorem c_X8_mean_b (d : Nat) (g : Nat → Nat → Int32) (tr : Int64) {n q dn : Nat} (hc : CI n q dn g) (x : Int32) (h : (decide (x = 0) || decide (x = 1)) = false) : Ev (d + 2) 96 0 [.ref 0, .int x, .null, .null, .null] [] (wC g tr) (some (.long (-1))) (wC g tr) := by
  have hb := hc.b
  refine Ev.sn e_X8_mean 1 (i' := 1) (ls' := [_, _, _, _, _]) (st' := [_]) rfl ?_
  refine Ev.clS e_X8_mean rfl rfl rfl (as := [_]) rfl rfl rfl rfl rfl (c_X8_isFirstOrSecond _ _ _) rfl ?_
  refine Ev.brT (i1 := 3) (i2 := 5) e_X8_mean rfl rfl (bT h) ?_
  refine Ev.sn e_X8_mean 1 (i' := 4) (ls' := [_, _, _, _, _]) (st' := [_]) rfl ?_
  refine Ev.lret e_X8_mean rfl rfl ?_ rfl
  rfl
set_option maxRecDepth 20000 in
set_option maxHeartbeats 200000 in
theorem c_X8_mean_s (d : Nat) (g : Nat → Nat → Int32) (tr : Int64) {n q dn : Nat} (hc : CI n q dn g) (x : Int32) (h : (decide (x = 0) || decide (x = 1)) = true) : Ev (d + 2) 96 0 [.ref 0, .int x, .null, .null, .null] [] (wC g tr) (some (.long (ilt (HGA q (vC n q dn g) (COM q (vC n q dn g))) (COM q (vC n q dn g) * (if nI q < 1 then 1 else nI q).toInt64) x))) (wC g tr) := by
  have hb := hc.b
  refine Ev.sn e_X8_mean 1 (i' := 1) (ls' := [_, _, _, _, _]) (st' := [_]) rfl ?_
  refine Ev.clS e_X8_mean rfl rfl rfl (as := [_]) rfl rfl rfl rfl rfl (c_X8_isFirstOrSecond _ _ _) rfl ?_
  refine Ev.brF (i1 := 3) (i2 := 5) e_X8_mean rfl rfl (bF h) ?_
  refine Ev.sn e_X8_mean 2 (i' := 7) (ls' := [_, _, _, _, _]) (st' := [_]) rfl ?_
  refine Ev.clV e_X8_mean rfl rfl (as := []) rfl rfl rfl kl_X2_commonScale rfl rfl rfl (c_X2_commonScale _ _ _ hc) rfl ?_
  refine Ev.sn e_X8_mean 6 (i' := 14) (ls' := [_, _, _, _, _]) (st' := [_, _]) rfl ?_
  refine Ev.clS e_X8_mean rfl rfl rfl (as := [_, _]) rfl rfl rfl rfl rfl (by rw [hc.hq]; exact c_J9_max_7cf53 _ _ _ _) rfl ?_
  refine Ev.sn e_X8_mean 4 (i' := 19) (ls' := [_, _, _, _, _]) (st' := [_, _]) rfl ?_
  refine Ev.clV e_X8_mean rfl rfl (as := [_]) rfl rfl rfl kl_X2_heightOfAll rfl rfl rfl (c_X2_heightOfAll _ _ _ hc _) rfl ?_
  refine Ev.sn e_X8_mean 5 (i' := 25) (ls' := [_, _, _, _, _]) (st' := [_, _, _]) rfl ?_
  refine Ev.clS e_X8_mean rfl rfl rfl (as := [_, _, _]) rfl rfl rfl rfl rfl (c_X8_inLowestTerms _ _ _ _ _) rfl ?_
  refine Ev.lret e_X8_mean rfl rfl ?_ rfl
  rfl
set_option maxRecDepth 20000 in
set_option maxHeartbeats 200000 in
theorem c_X8_turnsOfAll (d : Nat) (g : Nat → Nat → Int32) (tr : Int64) {n q dn : Nat} (hc : CI n q dn g) : Ev (d + 2) 97 0 [.ref 0, .null, .null] [] (wC g tr) (some (.int (if (if nI q < CHR n (vC n q dn g) then nI q else CHR n (vC n q dn g)) = 0 then -9 else (ilt (nI q).toInt64 (if nI q < CHR n (vC n q dn g) then nI q else CHR n (vC n q dn g)).toInt64 0).toInt32))) (wC g tr) := by
  have hb := hc.b
  refine Ev.sn e_X8_turnsOfAll 7 (i' := 7) (ls' := [_, _, _]) (st' := [_]) rfl ?_
  refine Ev.clV e_X8_turnsOfAll rfl rfl (as := []) rfl rfl rfl kl_X2_chairs rfl rfl rfl (c_X2_chairs _ _ _ hc) rfl ?_
  refine Ev.sn e_X8_turnsOfAll 1 (i' := 9) (ls' := [_, _, _]) (st' := [_, _]) rfl ?_
  refine Ev.clS e_X8_turnsOfAll rfl rfl rfl (as := [_, _]) rfl rfl rfl rfl rfl (by rw [hc.hq]; exact c_J9_min_7cf53 _ _ _ _) rfl ?_
  refine Ev.sn e_X8_turnsOfAll 2 (i' := 12) (ls' := [_, _, _]) (st' := [_]) rfl ?_
  refine Ev.br (i1 := 13) (i2 := 15) e_X8_turnsOfAll rfl rfl (fun h0 => ?_) (fun h0 => ?_)
  · refine Ev.sn e_X8_turnsOfAll 1 (i' := 14) (ls' := [_, _, _]) (st' := [_]) rfl ?_
    refine Ev.iret e_X8_turnsOfAll rfl rfl rfl ?_ rfl
    rw [if_pos h0]
  · refine Ev.sn e_X8_turnsOfAll 5 (i' := 20) (ls' := [_, _, _]) (st' := [_, _, _]) rfl ?_
    refine Ev.clS e_X8_turnsOfAll rfl rfl rfl (as := [_, _, _]) rfl rfl rfl rfl rfl (by rw [hc.hq]; exact c_X8_inLowestTerms _ _ _ _ _) rfl ?_
    refine Ev.sn e_X8_turnsOfAll 1 (i' := 22) (ls' := [_, _, _]) (st' := [_]) rfl ?_
    refine Ev.iret e_X8_turnsOfAll rfl rfl rfl ?_ rfl
    rw [if_neg h0]
set_option maxRecDepth 20000 in
set_option maxHeartbeats 200000 in
theorem c_X8_share_b (d : Nat) (g : Nat → Nat → Int32) (tr : Int64) {n q dn : Nat} (hc : CI n q dn g) (p x : Int32) (h : ((decide (0 ≤ p) && decide (p < nI q)) && (decide (1 ≤ x) && decide (x ≤ 999))) = false) : Ev (d + 2) 98 0 [.ref 0, .int p, .int x, .null, .null, .null, .null] [] (wC g tr) (some (.int (-1))) (wC g tr) := by
  have hb := hc.b
  refine Ev.sn e_X8_share 3 (i' := 3) (ls' := [_, _, _, _, _, _, _]) (st' := [_, _]) rfl ?_
  refine Ev.clV e_X8_share rfl rfl (as := [_]) rfl rfl rfl kl_X2_hasPerson rfl rfl rfl (c_X2_hasPerson _ _ _ hc _) rfl ?_
  refine Ev.brB (i1 := 11) (i2 := 5) e_X8_share rfl rfl (fun h0 => ?_) (fun h0 => ?_)
  · refine Ev.sn e_X8_share 1 (i' := 12) (ls' := [_, _, _, _, _, _, _]) (st' := [_]) rfl ?_
    refine Ev.iret e_X8_share rfl rfl rfl ?_ rfl
    rfl
  · refine Ev.sn e_X8_share 2 (i' := 7) (ls' := [_, _, _, _, _, _, _]) (st' := [_, _]) rfl ?_
    refine Ev.br (i1 := 11) (i2 := 8) e_X8_share rfl rfl (fun h1 => ?_) (fun h1 => ?_)
    · refine Ev.sn e_X8_share 1 (i' := 12) (ls' := [_, _, _, _, _, _, _]) (st' := [_]) rfl ?_
      refine Ev.iret e_X8_share rfl rfl rfl ?_ rfl
      rfl
    · refine Ev.sn e_X8_share 2 (i' := 10) (ls' := [_, _, _, _, _, _, _]) (st' := [_, _]) rfl ?_
      refine Ev.br (i1 := 13) (i2 := 11) e_X8_share rfl rfl (fun h2 => ?_) (fun h2 => ?_)
      · exfalso
        rw [h0] at h
        simp [Int32.not_lt.mp h1, h2] at h
      · refine Ev.sn e_X8_share 1 (i' := 12) (ls' := [_, _, _, _, _, _, _]) (st' := [_]) rfl ?_
        refine Ev.iret e_X8_share rfl rfl rfl ?_ rfl
        rfl
set_option maxRecDepth 20000 in
set_option maxHeartbeats 200000 in
theorem c_X8_share_s (d : Nat) (g : Nat → Nat → Int32) (tr : Int64) {n q dn : Nat} (hc : CI n q dn g) {p : Nat} (hp : p < q) (x : Int32) (h : (decide (1 ≤ x) && decide (x ≤ 999)) = true) : Ev (d + 2) 98 0 [.ref 0, .int (nI p), .int x, .null, .null, .null, .null] [] (wC g tr) (some (.int (if HGA q (vC n q dn g) (COM q (vC n q dn g)) = 0 then 0 else (x.toInt64 * HGT (vC n q dn g) p (COM q (vC n q dn g)) / HGA q (vC n q dn g) (COM q (vC n q dn g))).toInt32))) (wC g tr) := by
  have hb := hc.b
  have hx : 1 ≤ x ∧ x ≤ 999 := by simpa using h
  refine Ev.sn e_X8_share 3 (i' := 3) (ls' := [_, _, _, _, _, _, _]) (st' := [_, _]) rfl ?_
  refine Ev.clV e_X8_share rfl rfl (as := [_]) rfl rfl rfl kl_X2_hasPerson rfl rfl rfl (c_X2_hasPerson _ _ _ hc _) rfl ?_
  refine Ev.brF (i1 := 11) (i2 := 5) e_X8_share rfl rfl (bF (g_ok hp (by omega))) ?_
  refine Ev.sn e_X8_share 2 (i' := 7) (ls' := [_, _, _, _, _, _, _]) (st' := [_, _]) rfl ?_
  refine Ev.brF (i1 := 11) (i2 := 8) e_X8_share rfl rfl (Int32.not_lt.mpr hx.1) ?_
  refine Ev.sn e_X8_share 2 (i' := 10) (ls' := [_, _, _, _, _, _, _]) (st' := [_, _]) rfl ?_
  refine Ev.brT (i1 := 13) (i2 := 11) e_X8_share rfl rfl (hx.2) ?_
  refine Ev.sn e_X8_share 2 (i' := 15) (ls' := [_, _, _, _, _, _, _]) (st' := [_]) rfl ?_
  refine Ev.clV e_X8_share rfl rfl (as := []) rfl rfl rfl kl_X2_commonScale rfl rfl rfl (c_X2_commonScale _ _ _ hc) rfl ?_
  refine Ev.sn e_X8_share 4 (i' := 20) (ls' := [_, _, _, _, _, _, _]) (st' := [_, _]) rfl ?_
  refine Ev.clV e_X8_share rfl rfl (as := [_]) rfl rfl rfl kl_X2_heightOfAll rfl rfl rfl (c_X2_heightOfAll _ _ _ hc _) rfl ?_
  refine Ev.sn e_X8_share 4 (i' := 25) (ls' := [_, _, _, _, _, _, _]) (st' := [_]) rfl ?_
  refine Ev.br (i1 := 26) (i2 := 28) e_X8_share rfl rfl (fun h0 => ?_) (fun h0 => ?_)
  · refine Ev.sn e_X8_share 1 (i' := 27) (ls' := [_, _, _, _, _, _, _]) (st' := [_]) rfl ?_
    refine Ev.iret e_X8_share rfl rfl rfl ?_ rfl
    rw [if_pos (lg_cmp_0.mp h0)]
  · refine Ev.sn e_X8_share 6 (i' := 34) (ls' := [_, _, _, _, _, _, _]) (st' := [_, _, _, _]) rfl ?_
    refine Ev.clV e_X8_share rfl rfl (as := [_, _]) rfl rfl rfl kl_X2_heightOf rfl rfl rfl (c_X2_heightOf _ _ _ hc hp _) rfl ?_
    refine Ev.sn e_X8_share 2 (i' := 37) (ls' := [_, _, _, _, _, _, _]) (st' := [_, _]) rfl ?_
    refine Ev.ldiv e_X8_share rfl rfl (fun e => h0 (lg_cmp_0.mpr e)) ?_
    refine Ev.sn e_X8_share 1 (i' := 39) (ls' := [_, _, _, _, _, _, _]) (st' := [_]) rfl ?_
    refine Ev.iret e_X8_share rfl rfl rfl ?_ rfl
    rw [if_neg (fun e => h0 (lg_cmp_0.mpr e))]
set_option maxRecDepth 20000 in
set_option maxHeartbeats 200000 in
theorem c_X8_odds_b (d : Nat) (g : Nat → Nat → Int32) (tr : Int64) {n q dn : Nat} (hc : CI n q dn g) (p k x : Int32) (h : ((decide (0 ≤ p) && decide (p ≤ 10)) && ((decide (0 ≤ k) && decide (k ≤ 6)) && (decide (x = 0) || decide (x = 1)))) = false) : Ev (d + 4) 99 0 [.ref 0, .int p, .int k, .int x, .null, .null, .null, .null] [] (wC g tr) (some (.int (-1))) (wC g tr) := by
  have hb := hc.b
  refine Ev.sn e_X8_odds 1 (i' := 1) (ls' := [_, _, _, _, _, _, _, _]) (st' := [_]) rfl ?_
  refine Ev.br (i1 := 13) (i2 := 2) e_X8_odds rfl rfl (fun h0 => ?_) (fun h0 => ?_)
  · refine Ev.sn e_X8_odds 1 (i' := 14) (ls' := [_, _, _, _, _, _, _, _]) (st' := [_]) rfl ?_
    refine Ev.iret e_X8_odds rfl rfl rfl ?_ rfl
    rfl
  · refine Ev.sn e_X8_odds 2 (i' := 4) (ls' := [_, _, _, _, _, _, _, _]) (st' := [_, _]) rfl ?_
    refine Ev.br (i1 := 13) (i2 := 5) e_X8_odds rfl rfl (fun h1 => ?_) (fun h1 => ?_)
    · refine Ev.sn e_X8_odds 1 (i' := 14) (ls' := [_, _, _, _, _, _, _, _]) (st' := [_]) rfl ?_
      refine Ev.iret e_X8_odds rfl rfl rfl ?_ rfl
      rfl
    · refine Ev.sn e_X8_odds 1 (i' := 6) (ls' := [_, _, _, _, _, _, _, _]) (st' := [_]) rfl ?_
      refine Ev.br (i1 := 13) (i2 := 7) e_X8_odds rfl rfl (fun h2 => ?_) (fun h2 => ?_)
      · refine Ev.sn e_X8_odds 1 (i' := 14) (ls' := [_, _, _, _, _, _, _, _]) (st' := [_]) rfl ?_
        refine Ev.iret e_X8_odds rfl rfl rfl ?_ rfl
        rfl
      · refine Ev.sn e_X8_odds 2 (i' := 9) (ls' := [_, _, _, _, _, _, _, _]) (st' := [_, _]) rfl ?_
        refine Ev.br (i1 := 13) (i2 := 10) e_X8_odds rfl rfl (fun h3 => ?_) (fun h3 => ?_)
        · refine Ev.sn e_X8_odds 1 (i' := 14) (ls' := [_, _, _, _, _, _, _, _]) (st' := [_]) rfl ?_
          refine Ev.iret e_X8_odds rfl rfl rfl ?_ rfl
          rfl
        · refine Ev.sn e_X8_odds 1 (i' := 11) (ls' := [_, _, _, _, _, _, _, _]) (st' := [_]) rfl ?_
          refine Ev.clS e_X8_odds rfl rfl rfl (as := [_]) rfl rfl rfl rfl rfl (c_X8_isFirstOrSecond _ _ _) rfl ?_
          refine Ev.brB (i1 := 13) (i2 := 15) e_X8_odds rfl rfl (fun h4 => ?_) (fun h4 => ?_)
          · refine Ev.sn e_X8_odds 1 (i' := 14) (ls' := [_, _, _, _, _, _, _, _]) (st' := [_]) rfl ?_
            refine Ev.iret e_X8_odds rfl rfl rfl ?_ rfl
            rfl
          · exfalso
            rw [h4] at h
            simp [Int32.not_lt.mp h0, Int32.not_lt.mp h1, Int32.not_lt.mp h2, Int32.not_lt.mp h3] at h
def stOD (p : Int32) (hN : Nat) (s : Nat) (a : Int64) : Int64 := a + wyI (nI hN) s * pwI p s * pwI (10 - p) (hN - s)
def ODU (p : Int32) (hN kN : Nat) : Int64 := fo (stOD p hN) (min hN kN + 1) 0 0
def S_odds (p : Int32) (hN kN : Nat) (x : Int32) : Int32 := (ilt (ODU p hN kN) (pwI 10 hN) x).toInt32
set_option maxRecDepth 20000 in
set_option maxHeartbeats 200000 in
theorem lp_X8_odds (d : Nat) (g : Nat → Nat → Int32) (tr : Int64) (p x : Int32) {hN kN : Nat} (hh : hN ≤ 6) (hk : kN ≤ 6) : ∀ (j s : Nat) (a : Int64), s + j = min hN kN + 1 → Ev (d + 4) 99 24 [.ref 0, .int p, .int (nI kN), .int x, .int (nI hN), .long a, .null, .int (nI s)] [] (wC g tr) (some (.int ((ilt (fo (stOD p hN) j s a) (pwI 10 hN) x).toInt32))) (wC g tr) := by
  intro j
  induction j with
  | zero =>
    intro s a hs
    refine Ev.sn e_X8_odds 2 (i' := 26) (ls' := [_, _, _, _, _, _, _, _]) (st' := [_, _]) rfl ?_
    refine Ev.br (i1 := 50) (i2 := 27) e_X8_odds rfl rfl (fun hy => ?_) (fun hy => ?_)
    · refine Ev.sn e_X8_odds 3 (i' := 53) (ls' := [_, _, _, _, _, _, _, _]) (st' := [_, _, _]) rfl ?_
      refine Ev.clS e_X8_odds rfl rfl rfl (as := [_, _]) rfl rfl rfl rfl rfl (c_X8_power _ _ 10 hN (by omega)) rfl ?_
      refine Ev.sn e_X8_odds 1 (i' := 55) (ls' := [_, _, _, _, _, _, _, _]) (st' := [_, _, _]) rfl ?_
      refine Ev.clS e_X8_odds rfl rfl rfl (as := [_, _, _]) rfl rfl rfl rfl rfl (c_X8_inLowestTerms _ _ _ _ _) rfl ?_
      refine Ev.sn e_X8_odds 1 (i' := 57) (ls' := [_, _, _, _, _, _, _, _]) (st' := [_]) rfl ?_
      refine Ev.iret e_X8_odds rfl rfl rfl ?_ rfl
      rfl
    · refine Ev.sn e_X8_odds 2 (i' := 29) (ls' := [_, _, _, _, _, _, _, _]) (st' := [_, _]) rfl ?_
      refine Ev.brT (i1 := 50) (i2 := 30) e_X8_odds rfl rfl ((by
          have := nI_ltI (a := hN) (b := s) (by omega) (by omega)
          exact nI_lt (by have h9 := mt this.mpr hy; omega) (by omega))) ?_
      refine Ev.sn e_X8_odds 3 (i' := 53) (ls' := [_, _, _, _, _, _, _, _]) (st' := [_, _, _]) rfl ?_
      refine Ev.clS e_X8_odds rfl rfl rfl (as := [_, _]) rfl rfl rfl rfl rfl (c_X8_power _ _ 10 hN (by omega)) rfl ?_
      refine Ev.sn e_X8_odds 1 (i' := 55) (ls' := [_, _, _, _, _, _, _, _]) (st' := [_, _, _]) rfl ?_
      refine Ev.clS e_X8_odds rfl rfl rfl (as := [_, _, _]) rfl rfl rfl rfl rfl (c_X8_inLowestTerms _ _ _ _ _) rfl ?_
      refine Ev.sn e_X8_odds 1 (i' := 57) (ls' := [_, _, _, _, _, _, _, _]) (st' := [_]) rfl ?_
      refine Ev.iret e_X8_odds rfl rfl rfl ?_ rfl
      rfl
  | succ j ih =>
    intro s a hs
    rw [fo_s (k := j)]
    refine Ev.sn e_X8_odds 2 (i' := 26) (ls' := [_, _, _, _, _, _, _, _]) (st' := [_, _]) rfl ?_
    refine Ev.brF (i1 := 50) (i2 := 27) e_X8_odds rfl rfl (nI_nlt (by omega) (by omega)) ?_
    refine Ev.sn e_X8_odds 2 (i' := 29) (ls' := [_, _, _, _, _, _, _, _]) (st' := [_, _]) rfl ?_
    refine Ev.brF (i1 := 50) (i2 := 30) e_X8_odds rfl rfl (nI_nlt (by omega) (by omega)) ?_
    refine Ev.sn e_X8_odds 3 (i' := 33) (ls' := [_, _, _, _, _, _, _, _]) (st' := [_, _, _]) rfl ?_
    refine Ev.clS e_X8_odds rfl rfl rfl (as := [_, _]) rfl rfl rfl rfl rfl (c_X8_waysToChoose _ _ _ s (by omega)) rfl ?_
    refine Ev.sn e_X8_odds 2 (i' := 36) (ls' := [_, _, _, _, _, _, _, _]) (st' := [_, _, _, _]) rfl ?_
    refine Ev.clS e_X8_odds rfl rfl rfl (as := [_, _]) rfl rfl rfl rfl rfl (c_X8_power _ _ _ s (by omega)) rfl ?_
    refine Ev.sn e_X8_odds 7 (i' := 44) (ls' := [_, _, _, _, _, _, _, _]) (st' := [_, _, _, _]) rfl ?_
    refine Ev.clS e_X8_odds rfl rfl rfl (as := [_, _]) rfl rfl rfl rfl rfl (by rw [pk_sub (show s ≤ hN by omega)]; exact c_X8_power _ _ _ (hN - s) (by omega)) rfl ?_
    refine Ev.sn e_X8_odds 5 (i' := 24) (ls' := [_, _, _, _, _, _, _, _]) (st' := []) rfl ?_
    rw [nI_1]
    exact ih (s + 1) _ (by omega)
set_option maxRecDepth 20000 in
set_option maxHeartbeats 200000 in
theorem c_X8_odds_s (d : Nat) (g : Nat → Nat → Int32) (tr : Int64) {n q dn : Nat} (hc : CI n q dn g) {p : Int32} {kN hN : Nat} (x : Int32) (hp : 0 ≤ p ∧ p ≤ 10) (hk : kN ≤ 6) (hh : hN ≤ 6) (hx : (decide (x = 0) || decide (x = 1)) = true) (hu : bcI (ULS n q (vC n q dn g)) = nI hN) : Ev (d + 4) 99 0 [.ref 0, .int p, .int (nI kN), .int x, .null, .null, .null, .null] [] (wC g tr) (some (.int (S_odds p hN kN x))) (wC g tr) := by
  have hb := hc.b
  refine Ev.sn e_X8_odds 1 (i' := 1) (ls' := [_, _, _, _, _, _, _, _]) (st' := [_]) rfl ?_
  refine Ev.brF (i1 := 13) (i2 := 2) e_X8_odds rfl rfl (Int32.not_lt.mpr hp.1) ?_
  refine Ev.sn e_X8_odds 2 (i' := 4) (ls' := [_, _, _, _, _, _, _, _]) (st' := [_, _]) rfl ?_
  refine Ev.brF (i1 := 13) (i2 := 5) e_X8_odds rfl rfl (Int32.not_lt.mpr hp.2) ?_
  refine Ev.sn e_X8_odds 1 (i' := 6) (ls' := [_, _, _, _, _, _, _, _]) (st' := [_]) rfl ?_
  refine Ev.brF (i1 := 13) (i2 := 7) e_X8_odds rfl rfl (nI_nlt (b := 0) (by omega) (by omega)) ?_
  refine Ev.sn e_X8_odds 2 (i' := 9) (ls' := [_, _, _, _, _, _, _, _]) (st' := [_, _]) rfl ?_
  refine Ev.brF (i1 := 13) (i2 := 10) e_X8_odds rfl rfl (nI_nlt (a := 6) (by omega) (by omega)) ?_
  refine Ev.sn e_X8_odds 1 (i' := 11) (ls' := [_, _, _, _, _, _, _, _]) (st' := [_]) rfl ?_
  refine Ev.clS e_X8_odds rfl rfl rfl (as := [_]) rfl rfl rfl rfl rfl (c_X8_isFirstOrSecond _ _ _) rfl ?_
  refine Ev.brF (i1 := 13) (i2 := 15) e_X8_odds rfl rfl (bF hx) ?_
  refine Ev.sn e_X8_odds 2 (i' := 17) (ls' := [_, _, _, _, _, _, _, _]) (st' := [_]) rfl ?_
  refine Ev.clV e_X8_odds rfl rfl (as := []) rfl rfl rfl kl_X2_useless rfl rfl rfl (c_X2_useless _ _ _ hc) rfl ?_
  refine Ev.clS e_X8_odds rfl rfl rfl (as := [_]) rfl rfl rfl rfl rfl (c_J6_bitCount_0f7a4 _ _ _) rfl ?_
  refine Ev.sn e_X8_odds 5 (i' := 24) (ls' := [_, _, _, _, _, _, _, _]) (st' := []) rfl ?_
  rw [hu]
  exact lp_X8_odds _ _ _ _ _ hh hk (min hN kN + 1) 0 0 (by omega)
end
section
/-! the reference: its public questions -/
theorem rngF {x : Int32} {k : Nat} (hk : k < 2000) (h : ∀ j, j ≤ k → ¬ x = nI j) : (decide (0 ≤ x) && decide (x ≤ nI k)) = false := by
  cases hb : (decide (0 ≤ x) && decide (x ≤ nI k)) with
  | false => rfl
  | true =>
    obtain ⟨j, h1, h2⟩ := (rngB hk).mp hb
    exact absurd h2 (h j h1)
theorem r01 (x : Int32) : (decide (0 ≤ x) && decide (x ≤ 1)) = (decide (x = 0) || decide (x = 1)) := by
  by_cases h0 : x = 0
  · subst h0; decide
  · by_cases h1 : x = 1
    · subst h1; decide
    · rw [decide_eq_false h0, decide_eq_false h1]
      exact rngF (k := 1) (by omega) (fun j hj => by
        match j, hj with
        | 0, _ => exact h0
        | 1, _ => exact h1)
theorem r02 (x : Int32) : (decide (0 ≤ x) && decide (x ≤ 2)) = (decide (0 ≤ x) && decide (x < 3)) := by
  have e : nI 3 - 1 = (2 : Int32) := by decide
  have h := le_pred (x := x) (n := 3) (by omega)
  rw [e] at h
  rw [decide_eq_decide.mpr h]
  rfl
set_option maxRecDepth 20000 in
set_option maxHeartbeats 200000 in
theorem c_X9_use_0 (d : Nat) (g : Nat → Nat → Int32) (tr : Int64) {n q dn : Nat} (hc : RI n q dn g) {j : Nat} (hj : j < 3) : Ev (d + 1) 139 0 [.ref 0, .int (nI j), .int 0] [] (wR g tr) (some (.int ((vR n q dn g) 6 j))) (wR g tr) := by
  have hb := hc.b
  refine Ev.sn e_X9_use 2 (i' := 2) (ls' := [_, _, _]) (st' := [_, _]) rfl ?_
  refine Ev.put e_X9_use rfl rfl rfl rfl rfl rfl (w1 := wR g tr) rfl ?_
  refine Ev.sn e_X9_use 3 (i' := 6) (ls' := [_, _, _]) (st' := [_, _, _]) rfl ?_
  refine Ev.clS e_X9_use rfl rfl rfl (as := [_, _, _]) rfl rfl rfl rfl rfl (c_X9_in _ _ _ _ _) rfl ?_
  refine Ev.brF (i1 := 22) (i2 := 8) e_X9_use rfl rfl ((by rw [r02]; exact bF (g_ok hj (n := 3) (by omega)))) ?_
  refine Ev.sn e_X9_use 3 (i' := 11) (ls' := [_, _, _]) (st' := [_, _, _]) rfl ?_
  refine Ev.clS e_X9_use rfl rfl rfl (as := [_, _, _]) rfl rfl rfl rfl rfl (c_X9_in _ _ _ _ _) rfl ?_
  refine Ev.brF (i1 := 22) (i2 := 13) e_X9_use rfl rfl ((by decide)) ?_
  refine Ev.sn e_X9_use 7 (i' := 20) (ls' := [_, _, _]) (st' := [_, _]) rfl ?_
  refine Ev.ialdE e_X9_use rfl rfl rfl rfl (ixm 2 0 j) (by omega) ?_
  refine Ev.sn e_X9_use 1 (i' := 23) (ls' := [_, _, _]) (st' := [_]) rfl ?_
  refine Ev.iret e_X9_use rfl rfl rfl ?_ rfl
  exact (cut_lt (f := fun t => g 6 (2 * t + 0)) hj).symm
set_option maxRecDepth 20000 in
set_option maxHeartbeats 200000 in
theorem c_X9_use_1 (d : Nat) (g : Nat → Nat → Int32) (tr : Int64) {n q dn : Nat} (hc : RI n q dn g) {j : Nat} (hj : j < 3) : Ev (d + 1) 139 0 [.ref 0, .int (nI j), .int 1] [] (wR g tr) (some (.int ((vR n q dn g) 7 j))) (wR g tr) := by
  have hb := hc.b
  refine Ev.sn e_X9_use 2 (i' := 2) (ls' := [_, _, _]) (st' := [_, _]) rfl ?_
  refine Ev.put e_X9_use rfl rfl rfl rfl rfl rfl (w1 := wR g tr) rfl ?_
  refine Ev.sn e_X9_use 3 (i' := 6) (ls' := [_, _, _]) (st' := [_, _, _]) rfl ?_
  refine Ev.clS e_X9_use rfl rfl rfl (as := [_, _, _]) rfl rfl rfl rfl rfl (c_X9_in _ _ _ _ _) rfl ?_
  refine Ev.brF (i1 := 22) (i2 := 8) e_X9_use rfl rfl ((by rw [r02]; exact bF (g_ok hj (n := 3) (by omega)))) ?_
  refine Ev.sn e_X9_use 3 (i' := 11) (ls' := [_, _, _]) (st' := [_, _, _]) rfl ?_
  refine Ev.clS e_X9_use rfl rfl rfl (as := [_, _, _]) rfl rfl rfl rfl rfl (c_X9_in _ _ _ _ _) rfl ?_
  refine Ev.brF (i1 := 22) (i2 := 13) e_X9_use rfl rfl ((by decide)) ?_
  refine Ev.sn e_X9_use 7 (i' := 20) (ls' := [_, _, _]) (st' := [_, _]) rfl ?_
  refine Ev.ialdE e_X9_use rfl rfl rfl rfl (ixm 2 1 j) (by omega) ?_
  refine Ev.sn e_X9_use 1 (i' := 23) (ls' := [_, _, _]) (st' := [_]) rfl ?_
  refine Ev.iret e_X9_use rfl rfl rfl ?_ rfl
  exact (cut_lt (f := fun t => g 6 (2 * t + 1)) hj).symm
set_option maxRecDepth 20000 in
set_option maxHeartbeats 200000 in
theorem c_X9_use (d : Nat) (g : Nat → Nat → Int32) (tr : Int64) {n q dn : Nat} (hc : RI n q dn g) (u x : Int32) : Ev (d + 1) 139 0 [.ref 0, .int u, .int x] [] (wR g tr) (some (.int (S_use (vR n q dn g) u x))) (wR g tr) := by
  have hb := hc.b
  by_cases hg : (decide (0 ≤ u) && decide (u < 3)) = true
  · obtain ⟨j, hj, rfl⟩ := ixB (n := 3) (by omega) hg
    have hcl : (nI j).toNatClampNeg = j := nI_clamp (by omega)
    by_cases x0 : x = 0
    · subst x0
      rw [show S_use (vR n q dn g) (nI j) 0 = (vR n q dn g) 6 j by simp [S_use, hg, hcl]]
      exact c_X9_use_0 _ _ _ hc hj
    · by_cases x1 : x = 1
      · subst x1
        rw [show S_use (vR n q dn g) (nI j) 1 = (vR n q dn g) 7 j by simp [S_use, hg, hcl]]
        exact c_X9_use_1 _ _ _ hc hj
      · rw [show S_use (vR n q dn g) (nI j) x = -1 by simp [S_use, hg, x0, x1]]
        have hx : (decide (0 ≤ x) && decide (x ≤ 1)) = false := by rw [r01]; simp [x0, x1]
        refine Ev.sn e_X9_use 2 (i' := 2) (ls' := [_, _, _]) (st' := [_, _]) rfl ?_
        refine Ev.put e_X9_use rfl rfl rfl rfl rfl rfl (w1 := wR g tr) rfl ?_
        refine Ev.sn e_X9_use 3 (i' := 6) (ls' := [_, _, _]) (st' := [_, _, _]) rfl ?_
        refine Ev.clS e_X9_use rfl rfl rfl (as := [_, _, _]) rfl rfl rfl rfl rfl (c_X9_in _ _ _ _ _) rfl ?_
        refine Ev.brF (i1 := 22) (i2 := 8) e_X9_use rfl rfl ((by rw [r02]; exact bF (g_ok hj (n := 3) (by omega)))) ?_
        refine Ev.sn e_X9_use 3 (i' := 11) (ls' := [_, _, _]) (st' := [_, _, _]) rfl ?_
        refine Ev.clS e_X9_use rfl rfl rfl (as := [_, _, _]) rfl rfl rfl rfl rfl (c_X9_in _ _ _ _ _) rfl ?_
        refine Ev.brT (i1 := 22) (i2 := 13) e_X9_use rfl rfl (bT hx) ?_
        refine Ev.sn e_X9_use 1 (i' := 23) (ls' := [_, _, _]) (st' := [_]) rfl ?_
        refine Ev.iret e_X9_use rfl rfl rfl ?_ rfl
        rfl
  · rw [show S_use (vR n q dn g) u x = -1 by simp [S_use, hg]]
    have hg2 : (decide (0 ≤ u) && decide (u ≤ 2)) = false := by rw [r02]; simpa using hg
    refine Ev.sn e_X9_use 2 (i' := 2) (ls' := [_, _, _]) (st' := [_, _]) rfl ?_
    refine Ev.put e_X9_use rfl rfl rfl rfl rfl rfl (w1 := wR g tr) rfl ?_
    refine Ev.sn e_X9_use 3 (i' := 6) (ls' := [_, _, _]) (st' := [_, _, _]) rfl ?_
    refine Ev.clS e_X9_use rfl rfl rfl (as := [_, _, _]) rfl rfl rfl rfl rfl (c_X9_in _ _ _ _ _) rfl ?_
    refine Ev.brT (i1 := 22) (i2 := 8) e_X9_use rfl rfl (bT hg2) ?_
    refine Ev.sn e_X9_use 1 (i' := 23) (ls' := [_, _, _]) (st' := [_]) rfl ?_
    refine Ev.iret e_X9_use rfl rfl rfl ?_ rfl
    rfl
set_option maxRecDepth 20000 in
set_option maxHeartbeats 200000 in
theorem c_X9_thing_0 (d : Nat) (g : Nat → Nat → Int32) (tr : Int64) {n q dn : Nat} (hc : RI n q dn g) {j : Nat} (hj : j < n) : Ev (d + 4) 140 0 [.ref 0, .int (nI j), .int 0] [] (wR g tr) (some (.int ((vR n q dn g) 0 j))) (wR g tr) := by
  have hb := hc.b
  refine Ev.sn e_X9_thing 2 (i' := 2) (ls' := [_, _, _]) (st' := [_, _]) rfl ?_
  refine Ev.put e_X9_thing rfl rfl rfl rfl rfl rfl (w1 := wR g tr) rfl ?_
  refine Ev.sn e_X9_thing 2 (i' := 5) (ls' := [_, _, _]) (st' := [_, _]) rfl ?_
  refine Ev.clV e_X9_thing rfl rfl (as := [_]) rfl rfl rfl kl_X9_isThingThere rfl rfl rfl (c_X9_isThingThere _ _ _ hc _) rfl ?_
  refine Ev.brF (i1 := 12) (i2 := 7) e_X9_thing rfl rfl (bF (g_ok hj (by omega))) ?_
  refine Ev.sn e_X9_thing 3 (i' := 10) (ls' := [_, _, _]) (st' := [_, _, _]) rfl ?_
  refine Ev.clS e_X9_thing rfl rfl rfl (as := [_, _, _]) rfl rfl rfl rfl rfl (c_X9_in _ _ _ _ _) rfl ?_
  refine Ev.brF (i1 := 12) (i2 := 14) e_X9_thing rfl rfl ((by decide)) ?_
  refine Ev.sn e_X9_thing 2 (i' := 16) (ls' := [_, _, _]) (st' := [_, _]) rfl ?_
  refine Ev.brF (i1 := 36) (i2 := 17) e_X9_thing rfl rfl ((by decide)) ?_
  refine Ev.sn e_X9_thing 2 (i' := 19) (ls' := [_, _, _]) (st' := [_, _]) rfl ?_
  refine Ev.brF (i1 := 20) (i2 := 27) e_X9_thing rfl rfl ((by decide)) ?_
  refine Ev.sn e_X9_thing 7 (i' := 34) (ls' := [_, _, _]) (st' := [_, _]) rfl ?_
  refine Ev.ialdE e_X9_thing rfl rfl rfl rfl (ixm 4 0 j) (by omega) ?_
  refine Ev.iret e_X9_thing rfl rfl rfl ?_ rfl
  exact (cut_lt (f := fun t => g 3 (4 * t)) hj).symm
set_option maxRecDepth 20000 in
set_option maxHeartbeats 200000 in
theorem c_X9_thing_1 (d : Nat) (g : Nat → Nat → Int32) (tr : Int64) {n q dn : Nat} (hc : RI n q dn g) {j : Nat} (hj : j < n) : Ev (d + 4) 140 0 [.ref 0, .int (nI j), .int 1] [] (wR g tr) (some (.int ((vR n q dn g) 1 j))) (wR g tr) := by
  have hb := hc.b
  refine Ev.sn e_X9_thing 2 (i' := 2) (ls' := [_, _, _]) (st' := [_, _]) rfl ?_
  refine Ev.put e_X9_thing rfl rfl rfl rfl rfl rfl (w1 := wR g tr) rfl ?_
  refine Ev.sn e_X9_thing 2 (i' := 5) (ls' := [_, _, _]) (st' := [_, _]) rfl ?_
  refine Ev.clV e_X9_thing rfl rfl (as := [_]) rfl rfl rfl kl_X9_isThingThere rfl rfl rfl (c_X9_isThingThere _ _ _ hc _) rfl ?_
  refine Ev.brF (i1 := 12) (i2 := 7) e_X9_thing rfl rfl (bF (g_ok hj (by omega))) ?_
  refine Ev.sn e_X9_thing 3 (i' := 10) (ls' := [_, _, _]) (st' := [_, _, _]) rfl ?_
  refine Ev.clS e_X9_thing rfl rfl rfl (as := [_, _, _]) rfl rfl rfl rfl rfl (c_X9_in _ _ _ _ _) rfl ?_
  refine Ev.brF (i1 := 12) (i2 := 14) e_X9_thing rfl rfl ((by decide)) ?_
  refine Ev.sn e_X9_thing 2 (i' := 16) (ls' := [_, _, _]) (st' := [_, _]) rfl ?_
  refine Ev.brF (i1 := 36) (i2 := 17) e_X9_thing rfl rfl ((by decide)) ?_
  refine Ev.sn e_X9_thing 2 (i' := 19) (ls' := [_, _, _]) (st' := [_, _]) rfl ?_
  refine Ev.brT (i1 := 20) (i2 := 27) e_X9_thing rfl rfl ((by decide)) ?_
  refine Ev.sn e_X9_thing 5 (i' := 25) (ls' := [_, _, _]) (st' := [_, _]) rfl ?_
  refine Ev.ialdE e_X9_thing rfl rfl rfl rfl (nI_add 6 j) (by omega) ?_
  refine Ev.sn e_X9_thing 1 (i' := 35) (ls' := [_, _, _]) (st' := [_]) rfl ?_
  refine Ev.iret e_X9_thing rfl rfl rfl ?_ rfl
  exact (cut_lt (f := fun t => g 7 (6 + t)) hj).symm
set_option maxRecDepth 20000 in
set_option maxHeartbeats 200000 in
theorem c_X9_thing_2 (d : Nat) (g : Nat → Nat → Int32) (tr : Int64) {n q dn : Nat} (hc : RI n q dn g) {j : Nat} (hj : j < n) : Ev (d + 4) 140 0 [.ref 0, .int (nI j), .int 2] [] (wR g tr) (some (.int ((vR n q dn g) 2 j))) (wR g tr) := by
  have hb := hc.b
  refine Ev.sn e_X9_thing 2 (i' := 2) (ls' := [_, _, _]) (st' := [_, _]) rfl ?_
  refine Ev.put e_X9_thing rfl rfl rfl rfl rfl rfl (w1 := wR g tr) rfl ?_
  refine Ev.sn e_X9_thing 2 (i' := 5) (ls' := [_, _, _]) (st' := [_, _]) rfl ?_
  refine Ev.clV e_X9_thing rfl rfl (as := [_]) rfl rfl rfl kl_X9_isThingThere rfl rfl rfl (c_X9_isThingThere _ _ _ hc _) rfl ?_
  refine Ev.brF (i1 := 12) (i2 := 7) e_X9_thing rfl rfl (bF (g_ok hj (by omega))) ?_
  refine Ev.sn e_X9_thing 3 (i' := 10) (ls' := [_, _, _]) (st' := [_, _, _]) rfl ?_
  refine Ev.clS e_X9_thing rfl rfl rfl (as := [_, _, _]) rfl rfl rfl rfl rfl (c_X9_in _ _ _ _ _) rfl ?_
  refine Ev.brF (i1 := 12) (i2 := 14) e_X9_thing rfl rfl ((by decide)) ?_
  refine Ev.sn e_X9_thing 2 (i' := 16) (ls' := [_, _, _]) (st' := [_, _]) rfl ?_
  refine Ev.brF (i1 := 36) (i2 := 17) e_X9_thing rfl rfl ((by decide)) ?_
  refine Ev.sn e_X9_thing 2 (i' := 19) (ls' := [_, _, _]) (st' := [_, _]) rfl ?_
  refine Ev.brF (i1 := 20) (i2 := 27) e_X9_thing rfl rfl ((by decide)) ?_
  refine Ev.sn e_X9_thing 7 (i' := 34) (ls' := [_, _, _]) (st' := [_, _]) rfl ?_
  refine Ev.ialdE e_X9_thing rfl rfl rfl rfl (ixm 4 2 j) (by omega) ?_
  refine Ev.iret e_X9_thing rfl rfl rfl ?_ rfl
  exact (cut_lt (f := fun t => g 3 (4 * t + 2)) hj).symm
set_option maxRecDepth 20000 in
set_option maxHeartbeats 200000 in
theorem c_X9_thing_3 (d : Nat) (g : Nat → Nat → Int32) (tr : Int64) {n q dn : Nat} (hc : RI n q dn g) {j : Nat} (hj : j < n) : Ev (d + 4) 140 0 [.ref 0, .int (nI j), .int 3] [] (wR g tr) (some (.int ((vR n q dn g) 3 j))) (wR g tr) := by
  have hb := hc.b
  refine Ev.sn e_X9_thing 2 (i' := 2) (ls' := [_, _, _]) (st' := [_, _]) rfl ?_
  refine Ev.put e_X9_thing rfl rfl rfl rfl rfl rfl (w1 := wR g tr) rfl ?_
  refine Ev.sn e_X9_thing 2 (i' := 5) (ls' := [_, _, _]) (st' := [_, _]) rfl ?_
  refine Ev.clV e_X9_thing rfl rfl (as := [_]) rfl rfl rfl kl_X9_isThingThere rfl rfl rfl (c_X9_isThingThere _ _ _ hc _) rfl ?_
  refine Ev.brF (i1 := 12) (i2 := 7) e_X9_thing rfl rfl (bF (g_ok hj (by omega))) ?_
  refine Ev.sn e_X9_thing 3 (i' := 10) (ls' := [_, _, _]) (st' := [_, _, _]) rfl ?_
  refine Ev.clS e_X9_thing rfl rfl rfl (as := [_, _, _]) rfl rfl rfl rfl rfl (c_X9_in _ _ _ _ _) rfl ?_
  refine Ev.brF (i1 := 12) (i2 := 14) e_X9_thing rfl rfl ((by decide)) ?_
  refine Ev.sn e_X9_thing 2 (i' := 16) (ls' := [_, _, _]) (st' := [_, _]) rfl ?_
  refine Ev.brF (i1 := 36) (i2 := 17) e_X9_thing rfl rfl ((by decide)) ?_
  refine Ev.sn e_X9_thing 2 (i' := 19) (ls' := [_, _, _]) (st' := [_, _]) rfl ?_
  refine Ev.brF (i1 := 20) (i2 := 27) e_X9_thing rfl rfl ((by decide)) ?_
  refine Ev.sn e_X9_thing 7 (i' := 34) (ls' := [_, _, _]) (st' := [_, _]) rfl ?_
  refine Ev.ialdE e_X9_thing rfl rfl rfl rfl (ixm 4 3 j) (by omega) ?_
  refine Ev.iret e_X9_thing rfl rfl rfl ?_ rfl
  exact (cut_lt (f := fun t => g 3 (4 * t + 3)) hj).symm
set_option maxRecDepth 20000 in
set_option maxHeartbeats 200000 in
theorem c_X9_thing_4 (d : Nat) (g : Nat → Nat → Int32) (tr : Int64) {n q dn : Nat} (hc : RI n q dn g) {j : Nat} (hj : j < n) : Ev (d + 4) 140 0 [.ref 0, .int (nI j), .int 4] [] (wR g tr) (some (.int ((vR n q dn g) 12 j))) (wR g tr) := by
  have hb := hc.b
  refine Ev.sn e_X9_thing 2 (i' := 2) (ls' := [_, _, _]) (st' := [_, _]) rfl ?_
  refine Ev.put e_X9_thing rfl rfl rfl rfl rfl rfl (w1 := wR g tr) rfl ?_
  refine Ev.sn e_X9_thing 2 (i' := 5) (ls' := [_, _, _]) (st' := [_, _]) rfl ?_
  refine Ev.clV e_X9_thing rfl rfl (as := [_]) rfl rfl rfl kl_X9_isThingThere rfl rfl rfl (c_X9_isThingThere _ _ _ hc _) rfl ?_
  refine Ev.brF (i1 := 12) (i2 := 7) e_X9_thing rfl rfl (bF (g_ok hj (by omega))) ?_
  refine Ev.sn e_X9_thing 3 (i' := 10) (ls' := [_, _, _]) (st' := [_, _, _]) rfl ?_
  refine Ev.clS e_X9_thing rfl rfl rfl (as := [_, _, _]) rfl rfl rfl rfl rfl (c_X9_in _ _ _ _ _) rfl ?_
  refine Ev.brF (i1 := 12) (i2 := 14) e_X9_thing rfl rfl ((by decide)) ?_
  refine Ev.sn e_X9_thing 2 (i' := 16) (ls' := [_, _, _]) (st' := [_, _]) rfl ?_
  refine Ev.brT (i1 := 36) (i2 := 17) e_X9_thing rfl rfl ((by decide)) ?_
  refine Ev.sn e_X9_thing 2 (i' := 38) (ls' := [_, _, _]) (st' := [_, _]) rfl ?_
  refine Ev.brF (i1 := 39) (i2 := 43) e_X9_thing rfl rfl ((by decide)) ?_
  refine Ev.sn e_X9_thing 5 (i' := 48) (ls' := [_, _, _]) (st' := [_, _]) rfl ?_
  refine Ev.ialdE e_X9_thing rfl rfl rfl rfl (z_add _) (by omega) ?_
  refine Ev.br (i1 := 50) (i2 := 52) e_X9_thing rfl rfl (fun h0 => ?_) (fun h0 => ?_)
  · refine Ev.sn e_X9_thing 2 (i' := 60) (ls' := [_, _, _]) (st' := [_]) rfl ?_
    refine Ev.iret e_X9_thing rfl rfl rfl ?_ rfl
    rw [show (vR n q dn g) 12 j = if g 7 j = 0 then -9 else g 7 j - 1 from cut_lt (f := fun t => if g 7 t = 0 then -9 else g 7 t - 1) hj, if_pos h0]
  · refine Ev.sn e_X9_thing 5 (i' := 57) (ls' := [_, _, _]) (st' := [_, _]) rfl ?_
    refine Ev.ialdE e_X9_thing rfl rfl rfl rfl (z_add _) (by omega) ?_
    refine Ev.sn e_X9_thing 2 (i' := 60) (ls' := [_, _, _]) (st' := [_]) rfl ?_
    refine Ev.iret e_X9_thing rfl rfl rfl ?_ rfl
    rw [show (vR n q dn g) 12 j = if g 7 j = 0 then -9 else g 7 j - 1 from cut_lt (f := fun t => if g 7 t = 0 then -9 else g 7 t - 1) hj, if_neg h0]
set_option maxRecDepth 20000 in
set_option maxHeartbeats 200000 in
theorem c_X9_thing_5 (d : Nat) (g : Nat → Nat → Int32) (tr : Int64) {n q dn : Nat} (hc : RI n q dn g) {j : Nat} (hj : j < n) : Ev (d + 4) 140 0 [.ref 0, .int (nI j), .int 5] [] (wR g tr) (some (.int (PIF q (vR n q dn g) j))) (wR g tr) := by
  have hb := hc.b
  refine Ev.sn e_X9_thing 2 (i' := 2) (ls' := [_, _, _]) (st' := [_, _]) rfl ?_
  refine Ev.put e_X9_thing rfl rfl rfl rfl rfl rfl (w1 := wR g tr) rfl ?_
  refine Ev.sn e_X9_thing 2 (i' := 5) (ls' := [_, _, _]) (st' := [_, _]) rfl ?_
  refine Ev.clV e_X9_thing rfl rfl (as := [_]) rfl rfl rfl kl_X9_isThingThere rfl rfl rfl (c_X9_isThingThere _ _ _ hc _) rfl ?_
  refine Ev.brF (i1 := 12) (i2 := 7) e_X9_thing rfl rfl (bF (g_ok hj (by omega))) ?_
  refine Ev.sn e_X9_thing 3 (i' := 10) (ls' := [_, _, _]) (st' := [_, _, _]) rfl ?_
  refine Ev.clS e_X9_thing rfl rfl rfl (as := [_, _, _]) rfl rfl rfl rfl rfl (c_X9_in _ _ _ _ _) rfl ?_
  refine Ev.brF (i1 := 12) (i2 := 14) e_X9_thing rfl rfl ((by decide)) ?_
  refine Ev.sn e_X9_thing 2 (i' := 16) (ls' := [_, _, _]) (st' := [_, _]) rfl ?_
  refine Ev.brT (i1 := 36) (i2 := 17) e_X9_thing rfl rfl ((by decide)) ?_
  refine Ev.sn e_X9_thing 2 (i' := 38) (ls' := [_, _, _]) (st' := [_, _]) rfl ?_
  refine Ev.brT (i1 := 39) (i2 := 43) e_X9_thing rfl rfl ((by decide)) ?_
  refine Ev.sn e_X9_thing 2 (i' := 41) (ls' := [_, _, _]) (st' := [_, _]) rfl ?_
  refine Ev.clV e_X9_thing rfl rfl (as := [_]) rfl rfl rfl kl_X9_fitsOf rfl rfl rfl (c_X9_fitsOf _ _ _ hc hj) rfl ?_
  refine Ev.sn e_X9_thing 1 (i' := 60) (ls' := [_, _, _]) (st' := [_]) rfl ?_
  refine Ev.iret e_X9_thing rfl rfl rfl ?_ rfl
  rfl
set_option maxRecDepth 20000 in
set_option maxHeartbeats 200000 in
theorem c_X9_thing (d : Nat) (g : Nat → Nat → Int32) (tr : Int64) {n q dn : Nat} (hc : RI n q dn g) (t x : Int32) : Ev (d + 4) 140 0 [.ref 0, .int t, .int x] [] (wR g tr) (some (.int (S_thing n q (vR n q dn g) t x))) (wR g tr) := by
  have hb := hc.b
  by_cases hg : (decide (0 ≤ t) && decide (t < nI n)) = true
  · obtain ⟨j, hj, rfl⟩ := ixB (n := n) (by omega) hg
    have hcl : (nI j).toNatClampNeg = j := nI_clamp (by omega)
    by_cases x0 : x = 0
    · subst x0
      rw [show S_thing n q (vR n q dn g) (nI j) 0 = (vR n q dn g) 0 j by simp [S_thing, hg, hcl]]
      exact c_X9_thing_0 _ _ _ hc hj
    by_cases x1 : x = 1
    · subst x1
      rw [show S_thing n q (vR n q dn g) (nI j) 1 = (vR n q dn g) 1 j by simp [S_thing, hg, hcl]]
      exact c_X9_thing_1 _ _ _ hc hj
    by_cases x2 : x = 2
    · subst x2
      rw [show S_thing n q (vR n q dn g) (nI j) 2 = (vR n q dn g) 2 j by simp [S_thing, hg, hcl]]
      exact c_X9_thing_2 _ _ _ hc hj
    by_cases x3 : x = 3
    · subst x3
      rw [show S_thing n q (vR n q dn g) (nI j) 3 = (vR n q dn g) 3 j by simp [S_thing, hg, hcl]]
      exact c_X9_thing_3 _ _ _ hc hj
    by_cases x4 : x = 4
    · subst x4
      rw [show S_thing n q (vR n q dn g) (nI j) 4 = (vR n q dn g) 12 j by simp [S_thing, hg, hcl]]
      exact c_X9_thing_4 _ _ _ hc hj
    by_cases x5 : x = 5
    · subst x5
      rw [show S_thing n q (vR n q dn g) (nI j) 5 = PIF q (vR n q dn g) j by simp [S_thing, hg, hcl]]
      exact c_X9_thing_5 _ _ _ hc hj
    rw [show S_thing n q (vR n q dn g) (nI j) x = -1 by simp [S_thing, hg, x0, x1, x2, x3, x4, x5]]
    have hx : (decide (0 ≤ x) && decide (x ≤ nI 5)) = false := rngF (by omega) (fun j hj => by
      match j, hj with
      | 0, _ => exact x0
      | 1, _ => exact x1
      | 2, _ => exact x2
      | 3, _ => exact x3
      | 4, _ => exact x4
      | 5, _ => exact x5)
    refine Ev.sn e_X9_thing 2 (i' := 2) (ls' := [_, _, _]) (st' := [_, _]) rfl ?_
    refine Ev.put e_X9_thing rfl rfl rfl rfl rfl rfl (w1 := wR g tr) rfl ?_
    refine Ev.sn e_X9_thing 2 (i' := 5) (ls' := [_, _, _]) (st' := [_, _]) rfl ?_
    refine Ev.clV e_X9_thing rfl rfl (as := [_]) rfl rfl rfl kl_X9_isThingThere rfl rfl rfl (c_X9_isThingThere _ _ _ hc _) rfl ?_
    refine Ev.brF (i1 := 12) (i2 := 7) e_X9_thing rfl rfl (bF (g_ok hj (by omega))) ?_
    refine Ev.sn e_X9_thing 3 (i' := 10) (ls' := [_, _, _]) (st' := [_, _, _]) rfl ?_
    refine Ev.clS e_X9_thing rfl rfl rfl (as := [_, _, _]) rfl rfl rfl rfl rfl (c_X9_in _ _ _ _ _) rfl ?_
    refine Ev.brT (i1 := 12) (i2 := 14) e_X9_thing rfl rfl (bT hx) ?_
    refine Ev.sn e_X9_thing 1 (i' := 13) (ls' := [_, _, _]) (st' := [_]) rfl ?_
    refine Ev.iret e_X9_thing rfl rfl rfl ?_ rfl
    rfl
  · rw [show S_thing n q (vR n q dn g) t x = -1 by simp [S_thing, hg]]
    have hg2 : (decide (0 ≤ t) && decide (t < nI n)) = false := by simpa using hg
    refine Ev.sn e_X9_thing 2 (i' := 2) (ls' := [_, _, _]) (st' := [_, _]) rfl ?_
    refine Ev.put e_X9_thing rfl rfl rfl rfl rfl rfl (w1 := wR g tr) rfl ?_
    refine Ev.sn e_X9_thing 2 (i' := 5) (ls' := [_, _, _]) (st' := [_, _]) rfl ?_
    refine Ev.clV e_X9_thing rfl rfl (as := [_]) rfl rfl rfl kl_X9_isThingThere rfl rfl rfl (c_X9_isThingThere _ _ _ hc _) rfl ?_
    refine Ev.brT (i1 := 12) (i2 := 7) e_X9_thing rfl rfl (bT hg2) ?_
    refine Ev.sn e_X9_thing 1 (i' := 13) (ls' := [_, _, _]) (st' := [_]) rfl ?_
    refine Ev.iret e_X9_thing rfl rfl rfl ?_ rfl
    rfl
set_option maxRecDepth 20000 in
set_option maxHeartbeats 200000 in
theorem c_X9_person_0 (d : Nat) (g : Nat → Nat → Int32) (tr : Int64) {n q dn : Nat} (hc : RI n q dn g) {j : Nat} (hj : j < q) : Ev (d + 2) 143 0 [.ref 0, .int (nI j), .int 0] [] (wR g tr) (some (.int ((vR n q dn g) 4 j))) (wR g tr) := by
  have hb := hc.b
  refine Ev.sn e_X9_person 2 (i' := 2) (ls' := [_, _, _]) (st' := [_, _]) rfl ?_
  refine Ev.put e_X9_person rfl rfl rfl rfl rfl rfl (w1 := wR g tr) rfl ?_
  refine Ev.sn e_X9_person 2 (i' := 5) (ls' := [_, _, _]) (st' := [_, _]) rfl ?_
  refine Ev.clV e_X9_person rfl rfl (as := [_]) rfl rfl rfl kl_X9_isPerson rfl rfl rfl (c_X9_isPerson _ _ _ hc _) rfl ?_
  refine Ev.brF (i1 := 12) (i2 := 7) e_X9_person rfl rfl (bF (g_ok hj (by omega))) ?_
  refine Ev.sn e_X9_person 3 (i' := 10) (ls' := [_, _, _]) (st' := [_, _, _]) rfl ?_
  refine Ev.clS e_X9_person rfl rfl rfl (as := [_, _, _]) rfl rfl rfl rfl rfl (c_X9_in _ _ _ _ _) rfl ?_
  refine Ev.brF (i1 := 12) (i2 := 14) e_X9_person rfl rfl ((by decide)) ?_
  refine Ev.sn e_X9_person 1 (i' := 15) (ls' := [_, _, _]) (st' := [_]) rfl ?_
  refine Ev.brT (i1 := 16) (i2 := 23) e_X9_person rfl rfl ((by decide)) ?_
  refine Ev.sn e_X9_person 5 (i' := 21) (ls' := [_, _, _]) (st' := [_, _]) rfl ?_
  refine Ev.ialdE e_X9_person rfl rfl rfl rfl (nI_add 12 j) (by omega) ?_
  refine Ev.sn e_X9_person 1 (i' := 45) (ls' := [_, _, _]) (st' := [_]) rfl ?_
  refine Ev.iret e_X9_person rfl rfl rfl ?_ rfl
  exact (cut_lt (f := fun t => g 7 (12 + t)) hj).symm
set_option maxRecDepth 20000 in
set_option maxHeartbeats 200000 in
theorem c_X9_person_1 (d : Nat) (g : Nat → Nat → Int32) (tr : Int64) {n q dn : Nat} (hc : RI n q dn g) {j : Nat} (hj : j < q) : Ev (d + 2) 143 0 [.ref 0, .int (nI j), .int 1] [] (wR g tr) (some (.int ((vR n q dn g) 5 j))) (wR g tr) := by
  have hb := hc.b
  refine Ev.sn e_X9_person 2 (i' := 2) (ls' := [_, _, _]) (st' := [_, _]) rfl ?_
  refine Ev.put e_X9_person rfl rfl rfl rfl rfl rfl (w1 := wR g tr) rfl ?_
  refine Ev.sn e_X9_person 2 (i' := 5) (ls' := [_, _, _]) (st' := [_, _]) rfl ?_
  refine Ev.clV e_X9_person rfl rfl (as := [_]) rfl rfl rfl kl_X9_isPerson rfl rfl rfl (c_X9_isPerson _ _ _ hc _) rfl ?_
  refine Ev.brF (i1 := 12) (i2 := 7) e_X9_person rfl rfl (bF (g_ok hj (by omega))) ?_
  refine Ev.sn e_X9_person 3 (i' := 10) (ls' := [_, _, _]) (st' := [_, _, _]) rfl ?_
  refine Ev.clS e_X9_person rfl rfl rfl (as := [_, _, _]) rfl rfl rfl rfl rfl (c_X9_in _ _ _ _ _) rfl ?_
  refine Ev.brF (i1 := 12) (i2 := 14) e_X9_person rfl rfl ((by decide)) ?_
  refine Ev.sn e_X9_person 1 (i' := 15) (ls' := [_, _, _]) (st' := [_]) rfl ?_
  refine Ev.brF (i1 := 16) (i2 := 23) e_X9_person rfl rfl ((by decide)) ?_
  refine Ev.sn e_X9_person 2 (i' := 25) (ls' := [_, _, _]) (st' := [_, _]) rfl ?_
  refine Ev.brT (i1 := 26) (i2 := 35) e_X9_person rfl rfl ((by decide)) ?_
  refine Ev.sn e_X9_person 7 (i' := 33) (ls' := [_, _, _]) (st' := [_, _]) rfl ?_
  refine Ev.ialdE e_X9_person rfl rfl rfl rfl (ixm 2 1 j) (by omega) ?_
  refine Ev.sn e_X9_person 1 (i' := 45) (ls' := [_, _, _]) (st' := [_]) rfl ?_
  refine Ev.iret e_X9_person rfl rfl rfl ?_ rfl
  exact (cut_lt (f := fun t => g 4 (2 * t + 1)) hj).symm
set_option maxRecDepth 20000 in
set_option maxHeartbeats 200000 in
theorem c_X9_person_2 (d : Nat) (g : Nat → Nat → Int32) (tr : Int64) {n q dn : Nat} (hc : RI n q dn g) {j : Nat} (hj : j < q) : Ev (d + 2) 143 0 [.ref 0, .int (nI j), .int 2] [] (wR g tr) (some (.int (TOF n (vR n q dn g) (nI j)))) (wR g tr) := by
  have hb := hc.b
  refine Ev.sn e_X9_person 2 (i' := 2) (ls' := [_, _, _]) (st' := [_, _]) rfl ?_
  refine Ev.put e_X9_person rfl rfl rfl rfl rfl rfl (w1 := wR g tr) rfl ?_
  refine Ev.sn e_X9_person 2 (i' := 5) (ls' := [_, _, _]) (st' := [_, _]) rfl ?_
  refine Ev.clV e_X9_person rfl rfl (as := [_]) rfl rfl rfl kl_X9_isPerson rfl rfl rfl (c_X9_isPerson _ _ _ hc _) rfl ?_
  refine Ev.brF (i1 := 12) (i2 := 7) e_X9_person rfl rfl (bF (g_ok hj (by omega))) ?_
  refine Ev.sn e_X9_person 3 (i' := 10) (ls' := [_, _, _]) (st' := [_, _, _]) rfl ?_
  refine Ev.clS e_X9_person rfl rfl rfl (as := [_, _, _]) rfl rfl rfl rfl rfl (c_X9_in _ _ _ _ _) rfl ?_
  refine Ev.brF (i1 := 12) (i2 := 14) e_X9_person rfl rfl ((by decide)) ?_
  refine Ev.sn e_X9_person 1 (i' := 15) (ls' := [_, _, _]) (st' := [_]) rfl ?_
  refine Ev.brF (i1 := 16) (i2 := 23) e_X9_person rfl rfl ((by decide)) ?_
  refine Ev.sn e_X9_person 2 (i' := 25) (ls' := [_, _, _]) (st' := [_, _]) rfl ?_
  refine Ev.brF (i1 := 26) (i2 := 35) e_X9_person rfl rfl ((by decide)) ?_
  refine Ev.sn e_X9_person 2 (i' := 37) (ls' := [_, _, _]) (st' := [_, _]) rfl ?_
  refine Ev.brT (i1 := 38) (i2 := 42) e_X9_person rfl rfl ((by decide)) ?_
  refine Ev.sn e_X9_person 2 (i' := 40) (ls' := [_, _, _]) (st' := [_, _]) rfl ?_
  refine Ev.clV e_X9_person rfl rfl (as := [_]) rfl rfl rfl kl_X9_thingsOf rfl rfl rfl (c_X9_thingsOf _ _ _ hc (by omega)) rfl ?_
  refine Ev.sn e_X9_person 1 (i' := 45) (ls' := [_, _, _]) (st' := [_]) rfl ?_
  refine Ev.iret e_X9_person rfl rfl rfl ?_ rfl
  rfl
set_option maxRecDepth 20000 in
set_option maxHeartbeats 200000 in
theorem c_X9_person_3 (d : Nat) (g : Nat → Nat → Int32) (tr : Int64) {n q dn : Nat} (hc : RI n q dn g) {j : Nat} (hj : j < q) : Ev (d + 2) 143 0 [.ref 0, .int (nI j), .int 3] [] (wR g tr) (some (.int (SMT q (vR n q dn g) j))) (wR g tr) := by
  have hb := hc.b
  refine Ev.sn e_X9_person 2 (i' := 2) (ls' := [_, _, _]) (st' := [_, _]) rfl ?_
  refine Ev.put e_X9_person rfl rfl rfl rfl rfl rfl (w1 := wR g tr) rfl ?_
  refine Ev.sn e_X9_person 2 (i' := 5) (ls' := [_, _, _]) (st' := [_, _]) rfl ?_
  refine Ev.clV e_X9_person rfl rfl (as := [_]) rfl rfl rfl kl_X9_isPerson rfl rfl rfl (c_X9_isPerson _ _ _ hc _) rfl ?_
  refine Ev.brF (i1 := 12) (i2 := 7) e_X9_person rfl rfl (bF (g_ok hj (by omega))) ?_
  refine Ev.sn e_X9_person 3 (i' := 10) (ls' := [_, _, _]) (st' := [_, _, _]) rfl ?_
  refine Ev.clS e_X9_person rfl rfl rfl (as := [_, _, _]) rfl rfl rfl rfl rfl (c_X9_in _ _ _ _ _) rfl ?_
  refine Ev.brF (i1 := 12) (i2 := 14) e_X9_person rfl rfl ((by decide)) ?_
  refine Ev.sn e_X9_person 1 (i' := 15) (ls' := [_, _, _]) (st' := [_]) rfl ?_
  refine Ev.brF (i1 := 16) (i2 := 23) e_X9_person rfl rfl ((by decide)) ?_
  refine Ev.sn e_X9_person 2 (i' := 25) (ls' := [_, _, _]) (st' := [_, _]) rfl ?_
  refine Ev.brF (i1 := 26) (i2 := 35) e_X9_person rfl rfl ((by decide)) ?_
  refine Ev.sn e_X9_person 2 (i' := 37) (ls' := [_, _, _]) (st' := [_, _]) rfl ?_
  refine Ev.brF (i1 := 38) (i2 := 42) e_X9_person rfl rfl ((by decide)) ?_
  refine Ev.sn e_X9_person 2 (i' := 44) (ls' := [_, _, _]) (st' := [_, _]) rfl ?_
  refine Ev.clV e_X9_person rfl rfl (as := [_]) rfl rfl rfl kl_X9_taller rfl rfl rfl (c_X9_taller _ _ _ hc hj) rfl ?_
  refine Ev.iret e_X9_person rfl rfl rfl ?_ rfl
  rfl
set_option maxRecDepth 20000 in
set_option maxHeartbeats 200000 in
theorem c_X9_person (d : Nat) (g : Nat → Nat → Int32) (tr : Int64) {n q dn : Nat} (hc : RI n q dn g) (t x : Int32) : Ev (d + 2) 143 0 [.ref 0, .int t, .int x] [] (wR g tr) (some (.int (S_person n q (vR n q dn g) t x))) (wR g tr) := by
  have hb := hc.b
  by_cases hg : (decide (0 ≤ t) && decide (t < nI q)) = true
  · obtain ⟨j, hj, rfl⟩ := ixB (n := q) (by omega) hg
    have hcl : (nI j).toNatClampNeg = j := nI_clamp (by omega)
    by_cases x0 : x = 0
    · subst x0
      rw [show S_person n q (vR n q dn g) (nI j) 0 = (vR n q dn g) 4 j by simp [S_person, hg, hcl]]
      exact c_X9_person_0 _ _ _ hc hj
    by_cases x1 : x = 1
    · subst x1
      rw [show S_person n q (vR n q dn g) (nI j) 1 = (vR n q dn g) 5 j by simp [S_person, hg, hcl]]
      exact c_X9_person_1 _ _ _ hc hj
    by_cases x2 : x = 2
    · subst x2
      rw [show S_person n q (vR n q dn g) (nI j) 2 = TOF n (vR n q dn g) (nI j) by simp [S_person, hg, hcl]]
      exact c_X9_person_2 _ _ _ hc hj
    by_cases x3 : x = 3
    · subst x3
      rw [show S_person n q (vR n q dn g) (nI j) 3 = SMT q (vR n q dn g) j by simp [S_person, hg, hcl]]
      exact c_X9_person_3 _ _ _ hc hj
    rw [show S_person n q (vR n q dn g) (nI j) x = -1 by simp [S_person, hg, x0, x1, x2, x3]]
    have hx : (decide (0 ≤ x) && decide (x ≤ nI 3)) = false := rngF (by omega) (fun j hj => by
      match j, hj with
      | 0, _ => exact x0
      | 1, _ => exact x1
      | 2, _ => exact x2
      | 3, _ => exact x3)
    refine Ev.sn e_X9_person 2 (i' := 2) (ls' := [_, _, _]) (st' := [_, _]) rfl ?_
    refine Ev.put e_X9_person rfl rfl rfl rfl rfl rfl (w1 := wR g tr) rfl ?_
    refine Ev.sn e_X9_person 2 (i' := 5) (ls' := [_, _, _]) (st' := [_, _]) rfl ?_
    refine Ev.clV e_X9_person rfl rfl (as := [_]) rfl rfl rfl kl_X9_isPerson rfl rfl rfl (c_X9_isPerson _ _ _ hc _) rfl ?_
    refine Ev.brF (i1 := 12) (i2 := 7) e_X9_person rfl rfl (bF (g_ok hj (by omega))) ?_
    refine Ev.sn e_X9_person 3 (i' := 10) (ls' := [_, _, _]) (st' := [_, _, _]) rfl ?_
    refine Ev.clS e_X9_person rfl rfl rfl (as := [_, _, _]) rfl rfl rfl rfl rfl (c_X9_in _ _ _ _ _) rfl ?_
    refine Ev.brT (i1 := 12) (i2 := 14) e_X9_person rfl rfl (bT hx) ?_
    refine Ev.sn e_X9_person 1 (i' := 13) (ls' := [_, _, _]) (st' := [_]) rfl ?_
    refine Ev.iret e_X9_person rfl rfl rfl ?_ rfl
    rfl
  · rw [show S_person n q (vR n q dn g) t x = -1 by simp [S_person, hg]]
    have hg2 : (decide (0 ≤ t) && decide (t < nI q)) = false := by simpa using hg
    refine Ev.sn e_X9_person 2 (i' := 2) (ls' := [_, _, _]) (st' := [_, _]) rfl ?_
    refine Ev.put e_X9_person rfl rfl rfl rfl rfl rfl (w1 := wR g tr) rfl ?_
    refine Ev.sn e_X9_person 2 (i' := 5) (ls' := [_, _, _]) (st' := [_, _]) rfl ?_
    refine Ev.clV e_X9_person rfl rfl (as := [_]) rfl rfl rfl kl_X9_isPerson rfl rfl rfl (c_X9_isPerson _ _ _ hc _) rfl ?_
    refine Ev.brT (i1 := 12) (i2 := 7) e_X9_person rfl rfl (bT hg2) ?_
    refine Ev.sn e_X9_person 1 (i' := 13) (ls' := [_, _, _]) (st' := [_]) rfl ?_
    refine Ev.iret e_X9_person rfl rfl rfl ?_ rfl
    rfl
set_option maxRecDepth 20000 in
set_option maxHeartbeats 200000 in
theorem c_X9_door_0 (d : Nat) (g : Nat → Nat → Int32) (tr : Int64) {n q dn : Nat} (hc : RI n q dn g) {j : Nat} (hj : j < dn) : Ev (d + 1) 144 0 [.ref 0, .int (nI j), .int 0] [] (wR g tr) (some (.int ((vR n q dn g) 8 j))) (wR g tr) := by
  have hb := hc.b
  refine Ev.sn e_X9_door 2 (i' := 2) (ls' := [_, _, _]) (st' := [_, _]) rfl ?_
  refine Ev.put e_X9_door rfl rfl rfl rfl rfl rfl (w1 := wR g tr) rfl ?_
  refine Ev.sn e_X9_door 5 (i' := 8) (ls' := [_, _, _]) (st' := [_, _, _, _]) rfl ?_
  refine Ev.ialdE e_X9_door rfl rfl rfl rfl (m := 2) rfl (by decide) ?_
  refine Ev.sn e_X9_door 2 (i' := 11) (ls' := [_, _, _]) (st' := [_, _, _]) rfl ?_
  refine Ev.clS e_X9_door rfl rfl rfl (as := [_, _, _]) rfl rfl rfl rfl rfl (c_X9_in _ _ _ _ _) rfl ?_
  refine Ev.brF (i1 := 27) (i2 := 13) e_X9_door rfl rfl (by rw [hc.hd, decide_eq_decide.mpr (le_pred (n := dn) (by omega))]; exact bF (g_ok hj (by omega))) ?_
  refine Ev.sn e_X9_door 3 (i' := 16) (ls' := [_, _, _]) (st' := [_, _, _]) rfl ?_
  refine Ev.clS e_X9_door rfl rfl rfl (as := [_, _, _]) rfl rfl rfl rfl rfl (c_X9_in _ _ _ _ _) rfl ?_
  refine Ev.brF (i1 := 27) (i2 := 18) e_X9_door rfl rfl ((by decide)) ?_
  refine Ev.sn e_X9_door 7 (i' := 25) (ls' := [_, _, _]) (st' := [_, _]) rfl ?_
  refine Ev.ialdE e_X9_door rfl rfl rfl rfl (ixm 4 0 j) (by omega) ?_
  refine Ev.sn e_X9_door 1 (i' := 28) (ls' := [_, _, _]) (st' := [_]) rfl ?_
  refine Ev.iret e_X9_door rfl rfl rfl ?_ rfl
  exact (cut_lt (f := fun t => g 5 (4 * t + 0)) hj).symm
set_option maxRecDepth 20000 in
set_option maxHeartbeats 200000 in
theorem c_X9_door_1 (d : Nat) (g : Nat → Nat → Int32) (tr : Int64) {n q dn : Nat} (hc : RI n q dn g) {j : Nat} (hj : j < dn) : Ev (d + 1) 144 0 [.ref 0, .int (nI j), .int 1] [] (wR g tr) (some (.int ((vR n q dn g) 9 j))) (wR g tr) := by
  have hb := hc.b
  refine Ev.sn e_X9_door 2 (i' := 2) (ls' := [_, _, _]) (st' := [_, _]) rfl ?_
  refine Ev.put e_X9_door rfl rfl rfl rfl rfl rfl (w1 := wR g tr) rfl ?_
  refine Ev.sn e_X9_door 5 (i' := 8) (ls' := [_, _, _]) (st' := [_, _, _, _]) rfl ?_
  refine Ev.ialdE e_X9_door rfl rfl rfl rfl (m := 2) rfl (by decide) ?_
  refine Ev.sn e_X9_door 2 (i' := 11) (ls' := [_, _, _]) (st' := [_, _, _]) rfl ?_
  refine Ev.clS e_X9_door rfl rfl rfl (as := [_, _, _]) rfl rfl rfl rfl rfl (c_X9_in _ _ _ _ _) rfl ?_
  refine Ev.brF (i1 := 27) (i2 := 13) e_X9_door rfl rfl (by rw [hc.hd, decide_eq_decide.mpr (le_pred (n := dn) (by omega))]; exact bF (g_ok hj (by omega))) ?_
  refine Ev.sn e_X9_door 3 (i' := 16) (ls' := [_, _, _]) (st' := [_, _, _]) rfl ?_
  refine Ev.clS e_X9_door rfl rfl rfl (as := [_, _, _]) rfl rfl rfl rfl rfl (c_X9_in _ _ _ _ _) rfl ?_
  refine Ev.brF (i1 := 27) (i2 := 18) e_X9_door rfl rfl ((by decide)) ?_
  refine Ev.sn e_X9_door 7 (i' := 25) (ls' := [_, _, _]) (st' := [_, _]) rfl ?_
  refine Ev.ialdE e_X9_door rfl rfl rfl rfl (ixm 4 1 j) (by omega) ?_
  refine Ev.sn e_X9_door 1 (i' := 28) (ls' := [_, _, _]) (st' := [_]) rfl ?_
  refine Ev.iret e_X9_door rfl rfl rfl ?_ rfl
  exact (cut_lt (f := fun t => g 5 (4 * t + 1)) hj).symm
set_option maxRecDepth 20000 in
set_option maxHeartbeats 200000 in
theorem c_X9_door_2 (d : Nat) (g : Nat → Nat → Int32) (tr : Int64) {n q dn : Nat} (hc : RI n q dn g) {j : Nat} (hj : j < dn) : Ev (d + 1) 144 0 [.ref 0, .int (nI j), .int 2] [] (wR g tr) (some (.int ((vR n q dn g) 10 j))) (wR g tr) := by
  have hb := hc.b
  refine Ev.sn e_X9_door 2 (i' := 2) (ls' := [_, _, _]) (st' := [_, _]) rfl ?_
  refine Ev.put e_X9_door rfl rfl rfl rfl rfl rfl (w1 := wR g tr) rfl ?_
  refine Ev.sn e_X9_door 5 (i' := 8) (ls' := [_, _, _]) (st' := [_, _, _, _]) rfl ?_
  refine Ev.ialdE e_X9_door rfl rfl rfl rfl (m := 2) rfl (by decide) ?_
  refine Ev.sn e_X9_door 2 (i' := 11) (ls' := [_, _, _]) (st' := [_, _, _]) rfl ?_
  refine Ev.clS e_X9_door rfl rfl rfl (as := [_, _, _]) rfl rfl rfl rfl rfl (c_X9_in _ _ _ _ _) rfl ?_
  refine Ev.brF (i1 := 27) (i2 := 13) e_X9_door rfl rfl (by rw [hc.hd, decide_eq_decide.mpr (le_pred (n := dn) (by omega))]; exact bF (g_ok hj (by omega))) ?_
  refine Ev.sn e_X9_door 3 (i' := 16) (ls' := [_, _, _]) (st' := [_, _, _]) rfl ?_
  refine Ev.clS e_X9_door rfl rfl rfl (as := [_, _, _]) rfl rfl rfl rfl rfl (c_X9_in _ _ _ _ _) rfl ?_
  refine Ev.brF (i1 := 27) (i2 := 18) e_X9_door rfl rfl ((by decide)) ?_
  refine Ev.sn e_X9_door 7 (i' := 25) (ls' := [_, _, _]) (st' := [_, _]) rfl ?_
  refine Ev.ialdE e_X9_door rfl rfl rfl rfl (ixm 4 2 j) (by omega) ?_
  refine Ev.sn e_X9_door 1 (i' := 28) (ls' := [_, _, _]) (st' := [_]) rfl ?_
  refine Ev.iret e_X9_door rfl rfl rfl ?_ rfl
  exact (cut_lt (f := fun t => g 5 (4 * t + 2)) hj).symm
set_option maxRecDepth 20000 in
set_option maxHeartbeats 200000 in
theorem c_X9_door_3 (d : Nat) (g : Nat → Nat → Int32) (tr : Int64) {n q dn : Nat} (hc : RI n q dn g) {j : Nat} (hj : j < dn) : Ev (d + 1) 144 0 [.ref 0, .int (nI j), .int 3] [] (wR g tr) (some (.int ((vR n q dn g) 11 j))) (wR g tr) := by
  have hb := hc.b
  refine Ev.sn e_X9_door 2 (i' := 2) (ls' := [_, _, _]) (st' := [_, _]) rfl ?_
  refine Ev.put e_X9_door rfl rfl rfl rfl rfl rfl (w1 := wR g tr) rfl ?_
  refine Ev.sn e_X9_door 5 (i' := 8) (ls' := [_, _, _]) (st' := [_, _, _, _]) rfl ?_
  refine Ev.ialdE e_X9_door rfl rfl rfl rfl (m := 2) rfl (by decide) ?_
  refine Ev.sn e_X9_door 2 (i' := 11) (ls' := [_, _, _]) (st' := [_, _, _]) rfl ?_
  refine Ev.clS e_X9_door rfl rfl rfl (as := [_, _, _]) rfl rfl rfl rfl rfl (c_X9_in _ _ _ _ _) rfl ?_
  refine Ev.brF (i1 := 27) (i2 := 13) e_X9_door rfl rfl (by rw [hc.hd, decide_eq_decide.mpr (le_pred (n := dn) (by omega))]; exact bF (g_ok hj (by omega))) ?_
  refine Ev.sn e_X9_door 3 (i' := 16) (ls' := [_, _, _]) (st' := [_, _, _]) rfl ?_
  refine Ev.clS e_X9_door rfl rfl rfl (as := [_, _, _]) rfl rfl rfl rfl rfl (c_X9_in _ _ _ _ _) rfl ?_
  refine Ev.brF (i1 := 27) (i2 := 18) e_X9_door rfl rfl ((by decide)) ?_
  refine Ev.sn e_X9_door 7 (i' := 25) (ls' := [_, _, _]) (st' := [_, _]) rfl ?_
  refine Ev.ialdE e_X9_door rfl rfl rfl rfl (ixm 4 3 j) (by omega) ?_
  refine Ev.sn e_X9_door 1 (i' := 28) (ls' := [_, _, _]) (st' := [_]) rfl ?_
  refine Ev.iret e_X9_door rfl rfl rfl ?_ rfl
  exact (cut_lt (f := fun t => g 5 (4 * t + 3)) hj).symm
set_option maxRecDepth 20000 in
set_option maxHeartbeats 200000 in
theorem c_X9_door (d : Nat) (g : Nat → Nat → Int32) (tr : Int64) {n q dn : Nat} (hc : RI n q dn g) (t x : Int32) : Ev (d + 1) 144 0 [.ref 0, .int t, .int x] [] (wR g tr) (some (.int (S_door dn (vR n q dn g) t x))) (wR g tr) := by
  have hb := hc.b
  by_cases hg : (decide (0 ≤ t) && decide (t < nI dn)) = true
  · obtain ⟨j, hj, rfl⟩ := ixB (n := dn) (by omega) hg
    have hcl : (nI j).toNatClampNeg = j := nI_clamp (by omega)
    by_cases x0 : x = 0
    · subst x0
      rw [show S_door dn (vR n q dn g) (nI j) 0 = (vR n q dn g) 8 j by simp [S_door, hg, hcl]]
      exact c_X9_door_0 _ _ _ hc hj
    by_cases x1 : x = 1
    · subst x1
      rw [show S_door dn (vR n q dn g) (nI j) 1 = (vR n q dn g) 9 j by simp [S_door, hg, hcl]]
      exact c_X9_door_1 _ _ _ hc hj
    by_cases x2 : x = 2
    · subst x2
      rw [show S_door dn (vR n q dn g) (nI j) 2 = (vR n q dn g) 10 j by simp [S_door, hg, hcl]]
      exact c_X9_door_2 _ _ _ hc hj
    by_cases x3 : x = 3
    · subst x3
      rw [show S_door dn (vR n q dn g) (nI j) 3 = (vR n q dn g) 11 j by simp [S_door, hg, hcl]]
      exact c_X9_door_3 _ _ _ hc hj
    rw [show S_door dn (vR n q dn g) (nI j) x = -1 by simp [S_door, hg, x0, x1, x2, x3]]
    have hx : (decide (0 ≤ x) && decide (x ≤ nI 3)) = false := rngF (by omega) (fun j hj => by
      match j, hj with
      | 0, _ => exact x0
      | 1, _ => exact x1
      | 2, _ => exact x2
      | 3, _ => exact x3)
    refine Ev.sn e_X9_door 2 (i' := 2) (ls' := [_, _, _]) (st' := [_, _]) rfl ?_
    refine Ev.put e_X9_door rfl rfl rfl rfl rfl rfl (w1 := wR g tr) rfl ?_
    refine Ev.sn e_X9_door 5 (i' := 8) (ls' := [_, _, _]) (st' := [_, _, _, _]) rfl ?_
    refine Ev.ialdE e_X9_door rfl rfl rfl rfl (m := 2) rfl (by decide) ?_
    refine Ev.sn e_X9_door 2 (i' := 11) (ls' := [_, _, _]) (st' := [_, _, _]) rfl ?_
    refine Ev.clS e_X9_door rfl rfl rfl (as := [_, _, _]) rfl rfl rfl rfl rfl (c_X9_in _ _ _ _ _) rfl ?_
    refine Ev.brF (i1 := 27) (i2 := 13) e_X9_door rfl rfl (by rw [hc.hd, decide_eq_decide.mpr (le_pred (n := dn) (by omega))]; exact bF (g_ok hj (by omega))) ?_
    refine Ev.sn e_X9_door 3 (i' := 16) (ls' := [_, _, _]) (st' := [_, _, _]) rfl ?_
    refine Ev.clS e_X9_door rfl rfl rfl (as := [_, _, _]) rfl rfl rfl rfl rfl (c_X9_in _ _ _ _ _) rfl ?_
    refine Ev.brT (i1 := 27) (i2 := 18) e_X9_door rfl rfl (bT hx) ?_
    refine Ev.sn e_X9_door 1 (i' := 28) (ls' := [_, _, _]) (st' := [_]) rfl ?_
    refine Ev.iret e_X9_door rfl rfl rfl ?_ rfl
    rfl
  · rw [show S_door dn (vR n q dn g) t x = -1 by simp [S_door, hg]]
    have hg2 : (decide (0 ≤ t) && decide (t < nI dn)) = false := by simpa using hg
    refine Ev.sn e_X9_door 2 (i' := 2) (ls' := [_, _, _]) (st' := [_, _]) rfl ?_
    refine Ev.put e_X9_door rfl rfl rfl rfl rfl rfl (w1 := wR g tr) rfl ?_
    refine Ev.sn e_X9_door 5 (i' := 8) (ls' := [_, _, _]) (st' := [_, _, _, _]) rfl ?_
    refine Ev.ialdE e_X9_door rfl rfl rfl rfl (m := 2) rfl (by decide) ?_
    refine Ev.sn e_X9_door 2 (i' := 11) (ls' := [_, _, _]) (st' := [_, _, _]) rfl ?_
    refine Ev.clS e_X9_door rfl rfl rfl (as := [_, _, _]) rfl rfl rfl rfl rfl (c_X9_in _ _ _ _ _) rfl ?_
    refine Ev.brT (i1 := 27) (i2 := 13) e_X9_door rfl rfl (by rw [hc.hd, decide_eq_decide.mpr (le_pred (n := dn) (by omega))]; exact bT hg2) ?_
    refine Ev.sn e_X9_door 1 (i' := 28) (ls' := [_, _, _]) (st' := [_]) rfl ?_
    refine Ev.iret e_X9_door rfl rfl rfl ?_ rfl
    rfl
set_option maxRecDepth 20000 in
set_option maxHeartbeats 200000 in
theorem c_X9_now_0 (d : Nat) (g : Nat → Nat → Int32) (tr : Int64) {n q dn : Nat} (hc : RI n q dn g) : Ev (d + 5) 148 0 [.ref 0, .int 0] [] (wR g tr) (some (.int (ULS n q (vR n q dn g)))) (wR g tr) := by
  have hb := hc.b
  refine Ev.sn e_X9_now 2 (i' := 2) (ls' := [_, _]) (st' := [_, _]) rfl ?_
  refine Ev.put e_X9_now rfl rfl rfl rfl rfl rfl (w1 := wR g tr) rfl ?_
  refine Ev.sn e_X9_now 3 (i' := 6) (ls' := [_, _]) (st' := [_, _, _]) rfl ?_
  refine Ev.clS e_X9_now rfl rfl rfl (as := [_, _, _]) rfl rfl rfl rfl rfl (c_X9_in _ _ _ _ _) rfl ?_
  refine Ev.brF (i1 := 8) (i2 := 10) e_X9_now rfl rfl ((by decide)) ?_
  refine Ev.sn e_X9_now 1 (i' := 11) (ls' := [_, _]) (st' := [_]) rfl ?_
  refine Ev.brT (i1 := 12) (i2 := 15) e_X9_now rfl rfl ((by decide)) ?_
  refine Ev.sn e_X9_now 1 (i' := 13) (ls' := [_, _]) (st' := [_]) rfl ?_
  refine Ev.clV e_X9_now rfl rfl (as := []) rfl rfl rfl kl_X9_useless rfl rfl rfl (c_X9_useless _ _ _ hc) rfl ?_
  refine Ev.sn e_X9_now 1 (i' := 32) (ls' := [_, _]) (st' := [_]) rfl ?_
  refine Ev.iret e_X9_now rfl rfl rfl ?_ rfl
  rfl
set_option maxRecDepth 20000 in
set_option maxHeartbeats 200000 in
theorem c_X9_now_1 (d : Nat) (g : Nat → Nat → Int32) (tr : Int64) {n q dn : Nat} (hc : RI n q dn g) : Ev (d + 5) 148 0 [.ref 0, .int 1] [] (wR g tr) (some (.int (BAR n q (vR n q dn g) 0))) (wR g tr) := by
  have hb := hc.b
  refine Ev.sn e_X9_now 2 (i' := 2) (ls' := [_, _]) (st' := [_, _]) rfl ?_
  refine Ev.put e_X9_now rfl rfl rfl rfl rfl rfl (w1 := wR g tr) rfl ?_
  refine Ev.sn e_X9_now 3 (i' := 6) (ls' := [_, _]) (st' := [_, _, _]) rfl ?_
  refine Ev.clS e_X9_now rfl rfl rfl (as := [_, _, _]) rfl rfl rfl rfl rfl (c_X9_in _ _ _ _ _) rfl ?_
  refine Ev.brF (i1 := 8) (i2 := 10) e_X9_now rfl rfl ((by decide)) ?_
  refine Ev.sn e_X9_now 1 (i' := 11) (ls' := [_, _]) (st' := [_]) rfl ?_
  refine Ev.brF (i1 := 12) (i2 := 15) e_X9_now rfl rfl ((by decide)) ?_
  refine Ev.sn e_X9_now 2 (i' := 17) (ls' := [_, _]) (st' := [_, _]) rfl ?_
  refine Ev.brF (i1 := 24) (i2 := 18) e_X9_now rfl rfl ((by decide)) ?_
  refine Ev.sn e_X9_now 4 (i' := 22) (ls' := [_, _]) (st' := [_, _]) rfl ?_
  refine Ev.clV e_X9_now rfl rfl (as := [_]) rfl rfl rfl kl_X9_bare rfl rfl rfl (c_X9_bare _ _ _ hc _) rfl ?_
  refine Ev.sn e_X9_now 1 (i' := 32) (ls' := [_, _]) (st' := [_]) rfl ?_
  refine Ev.iret e_X9_now rfl rfl rfl ?_ rfl
  rfl
set_option maxRecDepth 20000 in
set_option maxHeartbeats 200000 in
theorem c_X9_now_2 (d : Nat) (g : Nat → Nat → Int32) (tr : Int64) {n q dn : Nat} (hc : RI n q dn g) : Ev (d + 5) 148 0 [.ref 0, .int 2] [] (wR g tr) (some (.int (BAR n q (vR n q dn g) 1))) (wR g tr) := by
  have hb := hc.b
  refine Ev.sn e_X9_now 2 (i' := 2) (ls' := [_, _]) (st' := [_, _]) rfl ?_
  refine Ev.put e_X9_now rfl rfl rfl rfl rfl rfl (w1 := wR g tr) rfl ?_
  refine Ev.sn e_X9_now 3 (i' := 6) (ls' := [_, _]) (st' := [_, _, _]) rfl ?_
  refine Ev.clS e_X9_now rfl rfl rfl (as := [_, _, _]) rfl rfl rfl rfl rfl (c_X9_in _ _ _ _ _) rfl ?_
  refine Ev.brF (i1 := 8) (i2 := 10) e_X9_now rfl rfl ((by decide)) ?_
  refine Ev.sn e_X9_now 1 (i' := 11) (ls' := [_, _]) (st' := [_]) rfl ?_
  refine Ev.brF (i1 := 12) (i2 := 15) e_X9_now rfl rfl ((by decide)) ?_
  refine Ev.sn e_X9_now 2 (i' := 17) (ls' := [_, _]) (st' := [_, _]) rfl ?_
  refine Ev.brF (i1 := 24) (i2 := 18) e_X9_now rfl rfl ((by decide)) ?_
  refine Ev.sn e_X9_now 4 (i' := 22) (ls' := [_, _]) (st' := [_, _]) rfl ?_
  refine Ev.clV e_X9_now rfl rfl (as := [_]) rfl rfl rfl kl_X9_bare rfl rfl rfl (c_X9_bare _ _ _ hc _) rfl ?_
  refine Ev.sn e_X9_now 1 (i' := 32) (ls' := [_, _]) (st' := [_]) rfl ?_
  refine Ev.iret e_X9_now rfl rfl rfl ?_ rfl
  rfl
set_option maxRecDepth 20000 in
set_option maxHeartbeats 200000 in
theorem c_X9_now_3 (d : Nat) (g : Nat → Nat → Int32) (tr : Int64) {n q dn : Nat} (hc : RI n q dn g) : Ev (d + 5) 148 0 [.ref 0, .int 3] [] (wR g tr) (some (.int (BAR n q (vR n q dn g) 2))) (wR g tr) := by
  have hb := hc.b
  refine Ev.sn e_X9_now 2 (i' := 2) (ls' := [_, _]) (st' := [_, _]) rfl ?_
  refine Ev.put e_X9_now rfl rfl rfl rfl rfl rfl (w1 := wR g tr) rfl ?_
  refine Ev.sn e_X9_now 3 (i' := 6) (ls' := [_, _]) (st' := [_, _, _]) rfl ?_
  refine Ev.clS e_X9_now rfl rfl rfl (as := [_, _, _]) rfl rfl rfl rfl rfl (c_X9_in _ _ _ _ _) rfl ?_
  refine Ev.brF (i1 := 8) (i2 := 10) e_X9_now rfl rfl ((by decide)) ?_
  refine Ev.sn e_X9_now 1 (i' := 11) (ls' := [_, _]) (st' := [_]) rfl ?_
  refine Ev.brF (i1 := 12) (i2 := 15) e_X9_now rfl rfl ((by decide)) ?_
  refine Ev.sn e_X9_now 2 (i' := 17) (ls' := [_, _]) (st' := [_, _]) rfl ?_
  refine Ev.brF (i1 := 24) (i2 := 18) e_X9_now rfl rfl ((by decide)) ?_
  refine Ev.sn e_X9_now 4 (i' := 22) (ls' := [_, _]) (st' := [_, _]) rfl ?_
  refine Ev.clV e_X9_now rfl rfl (as := [_]) rfl rfl rfl kl_X9_bare rfl rfl rfl (c_X9_bare _ _ _ hc _) rfl ?_
  refine Ev.sn e_X9_now 1 (i' := 32) (ls' := [_, _]) (st' := [_]) rfl ?_
  refine Ev.iret e_X9_now rfl rfl rfl ?_ rfl
  rfl
set_option maxRecDepth 20000 in
set_option maxHeartbeats 200000 in
theorem c_X9_now_4 (d : Nat) (g : Nat → Nat → Int32) (tr : Int64) {n q dn : Nat} (hc : RI n q dn g) : Ev (d + 5) 148 0 [.ref 0, .int 4] [] (wR g tr) (some (.int (OWN n (vR n q dn g)))) (wR g tr) := by
  have hb := hc.b
  refine Ev.sn e_X9_now 2 (i' := 2) (ls' := [_, _]) (st' := [_, _]) rfl ?_
  refine Ev.put e_X9_now rfl rfl rfl rfl rfl rfl (w1 := wR g tr) rfl ?_
  refine Ev.sn e_X9_now 3 (i' := 6) (ls' := [_, _]) (st' := [_, _, _]) rfl ?_
  refine Ev.clS e_X9_now rfl rfl rfl (as := [_, _, _]) rfl rfl rfl rfl rfl (c_X9_in _ _ _ _ _) rfl ?_
  refine Ev.brF (i1 := 8) (i2 := 10) e_X9_now rfl rfl ((by decide)) ?_
  refine Ev.sn e_X9_now 1 (i' := 11) (ls' := [_, _]) (st' := [_]) rfl ?_
  refine Ev.brF (i1 := 12) (i2 := 15) e_X9_now rfl rfl ((by decide)) ?_
  refine Ev.sn e_X9_now 2 (i' := 17) (ls' := [_, _]) (st' := [_, _]) rfl ?_
  refine Ev.brT (i1 := 24) (i2 := 18) e_X9_now rfl rfl ((by decide)) ?_
  refine Ev.sn e_X9_now 2 (i' := 26) (ls' := [_, _]) (st' := [_, _]) rfl ?_
  refine Ev.brT (i1 := 27) (i2 := 30) e_X9_now rfl rfl ((by decide)) ?_
  refine Ev.sn e_X9_now 1 (i' := 28) (ls' := [_, _]) (st' := [_]) rfl ?_
  refine Ev.clV e_X9_now rfl rfl (as := []) rfl rfl rfl kl_X9_owned rfl rfl rfl (c_X9_owned _ _ _ hc) rfl ?_
  refine Ev.sn e_X9_now 1 (i' := 32) (ls' := [_, _]) (st' := [_]) rfl ?_
  refine Ev.iret e_X9_now rfl rfl rfl ?_ rfl
  rfl
set_option maxRecDepth 20000 in
set_option maxHeartbeats 200000 in
theorem c_X9_now_5 (d : Nat) (g : Nat → Nat → Int32) (tr : Int64) {n q dn : Nat} (hc : RI n q dn g) : Ev (d + 5) 148 0 [.ref 0, .int 5] [] (wR g tr) (some (.int (g 0 6))) (wR g tr) := by
  have hb := hc.b
  refine Ev.sn e_X9_now 2 (i' := 2) (ls' := [_, _]) (st' := [_, _]) rfl ?_
  refine Ev.put e_X9_now rfl rfl rfl rfl rfl rfl (w1 := wR g tr) rfl ?_
  refine Ev.sn e_X9_now 3 (i' := 6) (ls' := [_, _]) (st' := [_, _, _]) rfl ?_
  refine Ev.clS e_X9_now rfl rfl rfl (as := [_, _, _]) rfl rfl rfl rfl rfl (c_X9_in _ _ _ _ _) rfl ?_
  refine Ev.brF (i1 := 8) (i2 := 10) e_X9_now rfl rfl ((by decide)) ?_
  refine Ev.sn e_X9_now 1 (i' := 11) (ls' := [_, _]) (st' := [_]) rfl ?_
  refine Ev.brF (i1 := 12) (i2 := 15) e_X9_now rfl rfl ((by decide)) ?_
  refine Ev.sn e_X9_now 2 (i' := 17) (ls' := [_, _]) (st' := [_, _]) rfl ?_
  refine Ev.brT (i1 := 24) (i2 := 18) e_X9_now rfl rfl ((by decide)) ?_
  refine Ev.sn e_X9_now 2 (i' := 26) (ls' := [_, _]) (st' := [_, _]) rfl ?_
  refine Ev.brF (i1 := 27) (i2 := 30) e_X9_now rfl rfl ((by decide)) ?_
  refine Ev.sn e_X9_now 2 (i' := 32) (ls' := [_, _]) (st' := [_]) rfl ?_
  refine Ev.iret e_X9_now rfl rfl rfl ?_ rfl
  rfl
set_option maxRecDepth 20000 in
set_option maxHeartbeats 200000 in
theorem c_X9_now (d : Nat) (g : Nat → Nat → Int32) (tr : Int64) {n q dn : Nat} (hc : RI n q dn g) (x : Int32) : Ev (d + 5) 148 0 [.ref 0, .int x] [] (wR g tr) (some (.int (S_now n q (vR n q dn g) (g 0 6) x))) (wR g tr) := by
  have hb := hc.b
  by_cases x0 : x = 0
  · subst x0
    exact c_X9_now_0 _ _ _ hc
  by_cases x1 : x = 1
  · subst x1
    exact c_X9_now_1 _ _ _ hc
  by_cases x2 : x = 2
  · subst x2
    exact c_X9_now_2 _ _ _ hc
  by_cases x3 : x = 3
  · subst x3
    exact c_X9_now_3 _ _ _ hc
  by_cases x4 : x = 4
  · subst x4
    exact c_X9_now_4 _ _ _ hc
  by_cases x5 : x = 5
  · subst x5
    exact c_X9_now_5 _ _ _ hc
  rw [show S_now n q (vR n q dn g) (g 0 6) x = -1 by simp [S_now, x0, x1, x2, x3, x4, x5]]
  have hx : (decide (0 ≤ x) && decide (x ≤ nI 5)) = false := rngF (by omega) (fun j hj => by
    match j, hj with
    | 0, _ => exact x0
    | 1, _ => exact x1
    | 2, _ => exact x2
    | 3, _ => exact x3
    | 4, _ => exact x4
    | 5, _ => exact x5)
  refine Ev.sn e_X9_now 2 (i' := 2) (ls' := [_, _]) (st' := [_, _]) rfl ?_
  refine Ev.put e_X9_now rfl rfl rfl rfl rfl rfl (w1 := wR g tr) rfl ?_
  refine Ev.sn e_X9_now 3 (i' := 6) (ls' := [_, _]) (st' := [_, _, _]) rfl ?_
  refine Ev.clS e_X9_now rfl rfl rfl (as := [_, _, _]) rfl rfl rfl rfl rfl (c_X9_in _ _ _ _ _) rfl ?_
  refine Ev.brT (i1 := 8) (i2 := 10) e_X9_now rfl rfl (bT hx) ?_
  refine Ev.sn e_X9_now 1 (i' := 9) (ls' := [_, _]) (st' := [_]) rfl ?_
  refine Ev.iret e_X9_now rfl rfl rfl ?_ rfl
  rfl
set_option maxRecDepth 20000 in
set_option maxHeartbeats 200000 in
theorem c_X9_count_0 (d : Nat) (g : Nat → Nat → Int32) (tr : Int64) {n q dn : Nat} (hc : RI n q dn g) : Ev (d + 1) 182 0 [.ref 0, .int 0] [] (wR g tr) (some (.int (nI n))) (wR g tr) := by
  have hb := hc.b
  refine Ev.sn e_X9_count 2 (i' := 2) (ls' := [_, _]) (st' := [_, _]) rfl ?_
  refine Ev.put e_X9_count rfl rfl rfl rfl rfl rfl (w1 := wR g tr) rfl ?_
  refine Ev.sn e_X9_count 3 (i' := 6) (ls' := [_, _]) (st' := [_, _, _]) rfl ?_
  refine Ev.clS e_X9_count rfl rfl rfl (as := [_, _, _]) rfl rfl rfl rfl rfl (c_X9_in _ _ _ _ _) rfl ?_
  refine Ev.brF (i1 := 13) (i2 := 8) e_X9_count rfl rfl ((by decide)) ?_
  refine Ev.sn e_X9_count 3 (i' := 11) (ls' := [_, _]) (st' := [_, _]) rfl ?_
  refine Ev.ialdE e_X9_count rfl rfl rfl rfl (m := 0) rfl (by decide) ?_
  refine Ev.sn e_X9_count 1 (i' := 26) (ls' := [_, _]) (st' := [_]) rfl ?_
  refine Ev.iret e_X9_count rfl rfl rfl ?_ rfl
  exact hc.hn
set_option maxRecDepth 20000 in
set_option maxHeartbeats 200000 in
theorem c_X9_count_1 (d : Nat) (g : Nat → Nat → Int32) (tr : Int64) {n q dn : Nat} (hc : RI n q dn g) : Ev (d + 1) 182 0 [.ref 0, .int 1] [] (wR g tr) (some (.int (nI q))) (wR g tr) := by
  have hb := hc.b
  refine Ev.sn e_X9_count 2 (i' := 2) (ls' := [_, _]) (st' := [_, _]) rfl ?_
  refine Ev.put e_X9_count rfl rfl rfl rfl rfl rfl (w1 := wR g tr) rfl ?_
  refine Ev.sn e_X9_count 3 (i' := 6) (ls' := [_, _]) (st' := [_, _, _]) rfl ?_
  refine Ev.clS e_X9_count rfl rfl rfl (as := [_, _, _]) rfl rfl rfl rfl rfl (c_X9_in _ _ _ _ _) rfl ?_
  refine Ev.brF (i1 := 13) (i2 := 8) e_X9_count rfl rfl ((by decide)) ?_
  refine Ev.sn e_X9_count 3 (i' := 11) (ls' := [_, _]) (st' := [_, _]) rfl ?_
  refine Ev.ialdE e_X9_count rfl rfl rfl rfl (m := 1) rfl (by decide) ?_
  refine Ev.sn e_X9_count 1 (i' := 26) (ls' := [_, _]) (st' := [_]) rfl ?_
  refine Ev.iret e_X9_count rfl rfl rfl ?_ rfl
  exact hc.hq
set_option maxRecDepth 20000 in
set_option maxHeartbeats 200000 in
theorem c_X9_count_2 (d : Nat) (g : Nat → Nat → Int32) (tr : Int64) {n q dn : Nat} (hc : RI n q dn g) : Ev (d + 1) 182 0 [.ref 0, .int 2] [] (wR g tr) (some (.int (nI dn))) (wR g tr) := by
  have hb := hc.b
  refine Ev.sn e_X9_count 2 (i' := 2) (ls' := [_, _]) (st' := [_, _]) rfl ?_
  refine Ev.put e_X9_count rfl rfl rfl rfl rfl rfl (w1 := wR g tr) rfl ?_
  refine Ev.sn e_X9_count 3 (i' := 6) (ls' := [_, _]) (st' := [_, _, _]) rfl ?_
  refine Ev.clS e_X9_count rfl rfl rfl (as := [_, _, _]) rfl rfl rfl rfl rfl (c_X9_in _ _ _ _ _) rfl ?_
  refine Ev.brF (i1 := 13) (i2 := 8) e_X9_count rfl rfl ((by decide)) ?_
  refine Ev.sn e_X9_count 3 (i' := 11) (ls' := [_, _]) (st' := [_, _]) rfl ?_
  refine Ev.ialdE e_X9_count rfl rfl rfl rfl (m := 2) rfl (by decide) ?_
  refine Ev.sn e_X9_count 1 (i' := 26) (ls' := [_, _]) (st' := [_]) rfl ?_
  refine Ev.iret e_X9_count rfl rfl rfl ?_ rfl
  exact hc.hd
set_option maxRecDepth 20000 in
set_option maxHeartbeats 200000 in
theorem c_X9_count_3 (d : Nat) (g : Nat → Nat → Int32) (tr : Int64) {n q dn : Nat} (hc : RI n q dn g) : Ev (d + 1) 182 0 [.ref 0, .int 3] [] (wR g tr) (some (.int (g 0 7))) (wR g tr) := by
  have hb := hc.b
  refine Ev.sn e_X9_count 2 (i' := 2) (ls' := [_, _]) (st' := [_, _]) rfl ?_
  refine Ev.put e_X9_count rfl rfl rfl rfl rfl rfl (w1 := wR g tr) rfl ?_
  refine Ev.sn e_X9_count 3 (i' := 6) (ls' := [_, _]) (st' := [_, _, _]) rfl ?_
  refine Ev.clS e_X9_count rfl rfl rfl (as := [_, _, _]) rfl rfl rfl rfl rfl (c_X9_in _ _ _ _ _) rfl ?_
  refine Ev.brT (i1 := 13) (i2 := 8) e_X9_count rfl rfl ((by decide)) ?_
  refine Ev.sn e_X9_count 2 (i' := 15) (ls' := [_, _]) (st' := [_, _]) rfl ?_
  refine Ev.brT (i1 := 16) (i2 := 19) e_X9_count rfl rfl ((by decide)) ?_
  refine Ev.sn e_X9_count 3 (i' := 26) (ls' := [_, _]) (st' := [_]) rfl ?_
  refine Ev.iret e_X9_count rfl rfl rfl ?_ rfl
  rfl
set_option maxRecDepth 20000 in
set_option maxHeartbeats 200000 in
theorem c_X9_count_4 (d : Nat) (g : Nat → Nat → Int32) (tr : Int64) {n q dn : Nat} (hc : RI n q dn g) : Ev (d + 1) 182 0 [.ref 0, .int 4] [] (wR g tr) (some (.int (g 0 0))) (wR g tr) := by
  have hb := hc.b
  refine Ev.sn e_X9_count 2 (i' := 2) (ls' := [_, _]) (st' := [_, _]) rfl ?_
  refine Ev.put e_X9_count rfl rfl rfl rfl rfl rfl (w1 := wR g tr) rfl ?_
  refine Ev.sn e_X9_count 3 (i' := 6) (ls' := [_, _]) (st' := [_, _, _]) rfl ?_
  refine Ev.clS e_X9_count rfl rfl rfl (as := [_, _, _]) rfl rfl rfl rfl rfl (c_X9_in _ _ _ _ _) rfl ?_
  refine Ev.brT (i1 := 13) (i2 := 8) e_X9_count rfl rfl ((by decide)) ?_
  refine Ev.sn e_X9_count 2 (i' := 15) (ls' := [_, _]) (st' := [_, _]) rfl ?_
  refine Ev.brF (i1 := 16) (i2 := 19) e_X9_count rfl rfl ((by decide)) ?_
  refine Ev.sn e_X9_count 2 (i' := 21) (ls' := [_, _]) (st' := [_, _]) rfl ?_
  refine Ev.brT (i1 := 22) (i2 := 25) e_X9_count rfl rfl ((by decide)) ?_
  refine Ev.sn e_X9_count 3 (i' := 26) (ls' := [_, _]) (st' := [_]) rfl ?_
  refine Ev.iret e_X9_count rfl rfl rfl ?_ rfl
  rfl
set_option maxRecDepth 20000 in
set_option maxHeartbeats 200000 in
theorem c_X9_count (d : Nat) (g : Nat → Nat → Int32) (tr : Int64) {n q dn : Nat} (hc : RI n q dn g) (x : Int32) : Ev (d + 1) 182 0 [.ref 0, .int x] [] (wR g tr) (some (.int (S_count n q dn (g 0 7) (g 0 0) x))) (wR g tr) := by
  have hb := hc.b
  by_cases x0 : x = 0
  · subst x0
    exact c_X9_count_0 _ _ _ hc
  by_cases x1 : x = 1
  · subst x1
    exact c_X9_count_1 _ _ _ hc
  by_cases x2 : x = 2
  · subst x2
    exact c_X9_count_2 _ _ _ hc
  by_cases x3 : x = 3
  · subst x3
    exact c_X9_count_3 _ _ _ hc
  by_cases x4 : x = 4
  · subst x4
    exact c_X9_count_4 _ _ _ hc
  rw [show S_count n q dn (g 0 7) (g 0 0) x = -1 by simp [S_count, x0, x1, x2, x3, x4]]
  have hx : (decide (0 ≤ x) && decide (x ≤ nI 2)) = false := rngF (by omega) (fun j hj => by
    match j, hj with
    | 0, _ => exact x0
    | 1, _ => exact x1
    | 2, _ => exact x2)
  refine Ev.sn e_X9_count 2 (i' := 2) (ls' := [_, _]) (st' := [_, _]) rfl ?_
  refine Ev.put e_X9_count rfl rfl rfl rfl rfl rfl (w1 := wR g tr) rfl ?_
  refine Ev.sn e_X9_count 3 (i' := 6) (ls' := [_, _]) (st' := [_, _, _]) rfl ?_
  refine Ev.clS e_X9_count rfl rfl rfl (as := [_, _, _]) rfl rfl rfl rfl rfl (c_X9_in _ _ _ _ _) rfl ?_
  refine Ev.brT (i1 := 13) (i2 := 8) e_X9_count rfl rfl (bT hx) ?_
  refine Ev.sn e_X9_count 2 (i' := 15) (ls' := [_, _]) (st' := [_, _]) rfl ?_
  refine Ev.brF (i1 := 16) (i2 := 19) e_X9_count rfl rfl (x3) ?_
  refine Ev.sn e_X9_count 2 (i' := 21) (ls' := [_, _]) (st' := [_, _]) rfl ?_
  refine Ev.brF (i1 := 22) (i2 := 25) e_X9_count rfl rfl (x4) ?_
  refine Ev.sn e_X9_count 1 (i' := 26) (ls' := [_, _]) (st' := [_]) rfl ?_
  refine Ev.iret e_X9_count rfl rfl rfl ?_ rfl
  rfl
set_option maxRecDepth 20000 in
set_option maxHeartbeats 200000 in
theorem c_X9_trace (d : Nat) (g : Nat → Nat → Int32) (tr : Int64) : Ev d 183 0 [.ref 0] [] (wR g tr) (some (.long tr)) (wR g tr) := by
  refine Ev.sn e_X9_trace 2 (i' := 2) (ls' := [_]) (st' := [_, _]) rfl ?_
  refine Ev.put e_X9_trace rfl rfl rfl rfl rfl rfl (w1 := wR g tr) rfl ?_
  refine Ev.sn e_X9_trace 2 (i' := 5) (ls' := [_]) (st' := [_]) rfl ?_
  refine Ev.lret e_X9_trace rfl rfl ?_ rfl
  rfl
set_option maxRecDepth 20000 in
set_option maxHeartbeats 200000 in
theorem c_X9_type_b (d : Nat) (g : Nat → Nat → Int32) (tr : Int64) (x : Int32) (h : (decide (0 ≤ x) && decide (x ≤ 255)) = false) : Ev (d + 1) 122 0 [.ref 0, .int x] [] (wR g tr) (some (.int (-1))) (wR g tr) := by
  refine Ev.sn e_X9_type 2 (i' := 2) (ls' := [_, _]) (st' := [_, _]) rfl ?_
  refine Ev.put e_X9_type rfl rfl rfl rfl rfl rfl (w1 := wR g tr) rfl ?_
  refine Ev.sn e_X9_type 3 (i' := 6) (ls' := [_, _]) (st' := [_, _, _]) rfl ?_
  refine Ev.clS e_X9_type rfl rfl rfl (as := [_, _, _]) rfl rfl rfl rfl rfl (c_X9_in _ _ _ _ _) rfl ?_
  refine Ev.brT (i1 := 8) (i2 := 10) e_X9_type rfl rfl (bT h) ?_
  refine Ev.sn e_X9_type 1 (i' := 9) (ls' := [_, _]) (st' := [_]) rfl ?_
  refine Ev.iret e_X9_type rfl rfl rfl ?_ rfl
  rfl
set_option maxRecDepth 20000 in
set_option maxHeartbeats 200000 in
theorem c_X9_type_f (d : Nat) (g : Nat → Nat → Int32) (tr : Int64) (x : Int32) (h : (decide (0 ≤ x) && decide (x ≤ 255)) = true) (hk : g 0 0 = nI 200) : Ev (d + 1) 122 0 [.ref 0, .int x] [] (wR g tr) (some (.int (-3))) (wR g tr) := by
  refine Ev.sn e_X9_type 2 (i' := 2) (ls' := [_, _]) (st' := [_, _]) rfl ?_
  refine Ev.put e_X9_type rfl rfl rfl rfl rfl rfl (w1 := wR g tr) rfl ?_
  refine Ev.sn e_X9_type 3 (i' := 6) (ls' := [_, _]) (st' := [_, _, _]) rfl ?_
  refine Ev.clS e_X9_type rfl rfl rfl (as := [_, _, _]) rfl rfl rfl rfl rfl (c_X9_in _ _ _ _ _) rfl ?_
  refine Ev.brF (i1 := 8) (i2 := 10) e_X9_type rfl rfl (bF h) ?_
  refine Ev.sn e_X9_type 3 (i' := 13) (ls' := [_, _]) (st' := [_, _]) rfl ?_
  refine Ev.brT (i1 := 14) (i2 := 16) e_X9_type rfl rfl (hk) ?_
  refine Ev.sn e_X9_type 1 (i' := 15) (ls' := [_, _]) (st' := [_]) rfl ?_
  refine Ev.iret e_X9_type rfl rfl rfl ?_ rfl
  rfl
set_option maxRecDepth 20000 in
set_option maxHeartbeats 200000 in
theorem c_X9_type_s (d : Nat) (g : Nat → Nat → Int32) (tr : Int64) (x : Int32) (h : (decide (0 ≤ x) && decide (x ≤ 255)) = true) {k : Nat} (hk : g 0 0 = nI k) (hk2 : k < 200) : Ev (d + 1) 122 0 [.ref 0, .int x] [] (wR g tr) (some (.int (nI (k + 1)))) (wR (va_up (va_up g 1 (upd (g 1) k x)) 0 (upd (g 0) 0 (nI (k + 1)))) tr) := by
  refine Ev.sn e_X9_type 2 (i' := 2) (ls' := [_, _]) (st' := [_, _]) rfl ?_
  refine Ev.put e_X9_type rfl rfl rfl rfl rfl rfl (w1 := wR g tr) rfl ?_
  refine Ev.sn e_X9_type 3 (i' := 6) (ls' := [_, _]) (st' := [_, _, _]) rfl ?_
  refine Ev.clS e_X9_type rfl rfl rfl (as := [_, _, _]) rfl rfl rfl rfl rfl (c_X9_in _ _ _ _ _) rfl ?_
  refine Ev.brF (i1 := 8) (i2 := 10) e_X9_type rfl rfl (bF h) ?_
  refine Ev.sn e_X9_type 3 (i' := 13) (ls' := [_, _]) (st' := [_, _]) rfl ?_
  refine Ev.brF (i1 := 14) (i2 := 16) e_X9_type rfl rfl ((fun e => absurd ((nI_eq (a := k) (b := 200) (by omega) (by omega)).mp (hk.symm.trans e)) (by omega))) ?_
  refine Ev.sn e_X9_type 5 (i' := 21) (ls' := [_, _]) (st' := [_, _, _]) rfl ?_
  refine Ev.iastE e_X9_type rfl rfl rfl hk hk2 (w1 := wR (va_up g 1 (upd (g 1) k x)) tr) rfl ?_
  refine Ev.sn e_X9_type 5 (i' := 27) (ls' := [_, _]) (st' := [_, _]) rfl ?_
  refine Ev.put e_X9_type rfl rfl rfl rfl rfl rfl (w1 := wR (va_up (va_up g 1 (upd (g 1) k x)) 0 (upd (g 0) 0 (g 0 0 + 1))) tr) rfl ?_
  rw [hk, nI_1]
  refine Ev.sn e_X9_type 2 (i' := 30) (ls' := [_, _]) (st' := [_]) rfl ?_
  refine Ev.iret e_X9_type rfl rfl rfl ?_ rfl
  rfl
set_option maxRecDepth 20000 in
set_option maxHeartbeats 200000 in
theorem c_X9_clear (d : Nat) (g : Nat → Nat → Int32) (tr : Int64) : Ev d 123 0 [.ref 0, .null] [] (wR g tr) (some (.int (g 0 0))) (wR (va_up g 0 (upd (g 0) 0 0)) tr) := by
  refine Ev.sn e_X9_clear 2 (i' := 2) (ls' := [_, _]) (st' := [_, _]) rfl ?_
  refine Ev.put e_X9_clear rfl rfl rfl rfl rfl rfl (w1 := wR g tr) rfl ?_
  refine Ev.sn e_X9_clear 5 (i' := 8) (ls' := [_, _]) (st' := [_, _]) rfl ?_
  refine Ev.put e_X9_clear rfl rfl rfl rfl rfl rfl (w1 := wR (va_up g 0 (upd (g 0) 0 0)) tr) rfl ?_
  refine Ev.sn e_X9_clear 1 (i' := 10) (ls' := [_, _]) (st' := [_]) rfl ?_
  refine Ev.iret e_X9_clear rfl rfl rfl ?_ rfl
  rfl
set_option maxRecDepth 20000 in
set_option maxHeartbeats 200000 in
theorem c_X9_forget (d : Nat) (g : Nat → Nat → Int32) (tr : Int64) : Ev d 160 0 [.ref 0, .null] [] (wR g tr) (some (.int (g 0 7))) (wR (va_up g 0 (upd (g 0) 7 0)) tr) := by
  refine Ev.sn e_X9_forget 2 (i' := 2) (ls' := [_, _]) (st' := [_, _]) rfl ?_
  refine Ev.put e_X9_forget rfl rfl rfl rfl rfl rfl (w1 := wR g tr) rfl ?_
  refine Ev.sn e_X9_forget 5 (i' := 8) (ls' := [_, _]) (st' := [_, _]) rfl ?_
  refine Ev.put e_X9_forget rfl rfl rfl rfl rfl rfl (w1 := wR (va_up g 0 (upd (g 0) 7 0)) tr) rfl ?_
  refine Ev.sn e_X9_forget 1 (i' := 10) (ls' := [_, _]) (st' := [_]) rfl ?_
  refine Ev.iret e_X9_forget rfl rfl rfl ?_ rfl
  rfl
set_option maxRecDepth 20000 in
set_option maxHeartbeats 200000 in
theorem c_X9_tries_b (d : Nat) (g : Nat → Nat → Int32) (tr : Int64) {n q dn : Nat} (hc : RI n q dn g) (t x : Int32) (h : ((decide (0 ≤ t) && decide (t < nI n)) && (decide (x = 0) || decide (x = 1))) = false) : Ev (d + 2) 159 0 [.ref 0, .int t, .int x] [] (wR g tr) (some (.int (-1))) (wR g tr) := by
  have hb := hc.b
  refine Ev.sn e_X9_tries 2 (i' := 2) (ls' := [_, _, _]) (st' := [_, _]) rfl ?_
  refine Ev.put e_X9_tries rfl rfl rfl rfl rfl rfl (w1 := wR g tr) rfl ?_
  refine Ev.sn e_X9_tries 2 (i' := 5) (ls' := [_, _, _]) (st' := [_, _]) rfl ?_
  refine Ev.clV e_X9_tries rfl rfl (as := [_]) rfl rfl rfl kl_X9_isThingThere rfl rfl rfl (c_X9_isThingThere _ _ _ hc _) rfl ?_
  refine Ev.brB (i1 := 12) (i2 := 7) e_X9_tries rfl rfl (fun h0 => ?_) (fun h0 => ?_)
  · refine Ev.sn e_X9_tries 1 (i' := 13) (ls' := [_, _, _]) (st' := [_]) rfl ?_
    refine Ev.iret e_X9_tries rfl rfl rfl ?_ rfl
    rfl
  · refine Ev.sn e_X9_tries 3 (i' := 10) (ls' := [_, _, _]) (st' := [_, _, _]) rfl ?_
    refine Ev.clS e_X9_tries rfl rfl rfl (as := [_, _, _]) rfl rfl rfl rfl rfl (c_X9_in _ _ _ _ _) rfl ?_
    refine Ev.brB (i1 := 12) (i2 := 14) e_X9_tries rfl rfl (fun h1 => ?_) (fun h1 => ?_)
    · refine Ev.sn e_X9_tries 1 (i' := 13) (ls' := [_, _, _]) (st' := [_]) rfl ?_
      refine Ev.iret e_X9_tries rfl rfl rfl ?_ rfl
      rfl
    · exact absurd h (by rw [h0, ← r01]; exact fun e => absurd (h1.symm.trans e) (by decide))
set_option maxRecDepth 20000 in
set_option maxHeartbeats 200000 in
theorem c_X9_tries_f (d : Nat) (g : Nat → Nat → Int32) (tr : Int64) {n q dn : Nat} (hc : RI n q dn g) (t x : Int32) (h1 : (decide (0 ≤ t) && decide (t < nI n)) = true) (h2 : (decide (x = 0) || decide (x = 1)) = true) (hk : g 0 7 = nI 6) : Ev (d + 2) 159 0 [.ref 0, .int t, .int x] [] (wR g tr) (some (.int (-3))) (wR g tr) := by
  have hb := hc.b
  refine Ev.sn e_X9_tries 2 (i' := 2) (ls' := [_, _, _]) (st' := [_, _]) rfl ?_
  refine Ev.put e_X9_tries rfl rfl rfl rfl rfl rfl (w1 := wR g tr) rfl ?_
  refine Ev.sn e_X9_tries 2 (i' := 5) (ls' := [_, _, _]) (st' := [_, _]) rfl ?_
  refine Ev.clV e_X9_tries rfl rfl (as := [_]) rfl rfl rfl kl_X9_isThingThere rfl rfl rfl (c_X9_isThingThere _ _ _ hc _) rfl ?_
  refine Ev.brF (i1 := 12) (i2 := 7) e_X9_tries rfl rfl (bF h1) ?_
  refine Ev.sn e_X9_tries 3 (i' := 10) (ls' := [_, _, _]) (st' := [_, _, _]) rfl ?_
  refine Ev.clS e_X9_tries rfl rfl rfl (as := [_, _, _]) rfl rfl rfl rfl rfl (c_X9_in _ _ _ _ _) rfl ?_
  refine Ev.brF (i1 := 12) (i2 := 14) e_X9_tries rfl rfl ((by rw [r01]; exact bF h2)) ?_
  refine Ev.sn e_X9_tries 3 (i' := 17) (ls' := [_, _, _]) (st' := [_, _]) rfl ?_
  refine Ev.brT (i1 := 18) (i2 := 20) e_X9_tries rfl rfl (hk) ?_
  refine Ev.sn e_X9_tries 1 (i' := 19) (ls' := [_, _, _]) (st' := [_]) rfl ?_
  refine Ev.iret e_X9_tries rfl rfl rfl ?_ rfl
  rfl
set_option maxRecDepth 20000 in
set_option maxHeartbeats 200000 in
theorem c_X9_tries_s (d : Nat) (g : Nat → Nat → Int32) (tr : Int64) {n q dn : Nat} (hc : RI n q dn g) (t x : Int32) (h1 : (decide (0 ≤ t) && decide (t < nI n)) = true) (h2 : (decide (x = 0) || decide (x = 1)) = true) {k : Nat} (hk : g 0 7 = nI k) (hk6 : k < 6) : Ev (d + 2) 159 0 [.ref 0, .int t, .int x] [] (wR g tr) (some (.int (nI (k + 1)))) (wR (va_up (va_up (va_up g 11 (upd (g 11) k t)) 12 (upd (g 12) k x)) 0 (upd (g 0) 7 (nI (k + 1)))) tr) := by
  have hb := hc.b
  refine Ev.sn e_X9_tries 2 (i' := 2) (ls' := [_, _, _]) (st' := [_, _]) rfl ?_
  refine Ev.put e_X9_tries rfl rfl rfl rfl rfl rfl (w1 := wR g tr) rfl ?_
  refine Ev.sn e_X9_tries 2 (i' := 5) (ls' := [_, _, _]) (st' := [_, _]) rfl ?_
  refine Ev.clV e_X9_tries rfl rfl (as := [_]) rfl rfl rfl kl_X9_isThingThere rfl rfl rfl (c_X9_isThingThere _ _ _ hc _) rfl ?_
  refine Ev.brF (i1 := 12) (i2 := 7) e_X9_tries rfl rfl (bF h1) ?_
  refine Ev.sn e_X9_tries 3 (i' := 10) (ls' := [_, _, _]) (st' := [_, _, _]) rfl ?_
  refine Ev.clS e_X9_tries rfl rfl rfl (as := [_, _, _]) rfl rfl rfl rfl rfl (c_X9_in _ _ _ _ _) rfl ?_
  refine Ev.brF (i1 := 12) (i2 := 14) e_X9_tries rfl rfl ((by rw [r01]; exact bF h2)) ?_
  refine Ev.sn e_X9_tries 3 (i' := 17) (ls' := [_, _, _]) (st' := [_, _]) rfl ?_
  refine Ev.brF (i1 := 18) (i2 := 20) e_X9_tries rfl rfl ((fun e => absurd ((nI_eq (a := k) (b := 6) (by omega) (by omega)).mp (hk.symm.trans e)) (by omega))) ?_
  refine Ev.sn e_X9_tries 5 (i' := 25) (ls' := [_, _, _]) (st' := [_, _, _]) rfl ?_
  refine Ev.iastE e_X9_tries rfl rfl rfl hk hk6 (w1 := wR (va_up g 11 (upd (g 11) k t)) tr) rfl ?_
  refine Ev.sn e_X9_tries 5 (i' := 31) (ls' := [_, _, _]) (st' := [_, _, _]) rfl ?_
  refine Ev.iastE e_X9_tries rfl rfl rfl hk hk6 (w1 := wR (va_up (va_up g 11 (upd (g 11) k t)) 12 (upd (g 12) k x)) tr) rfl ?_
  refine Ev.sn e_X9_tries 5 (i' := 37) (ls' := [_, _, _]) (st' := [_, _]) rfl ?_
  refine Ev.put e_X9_tries rfl rfl rfl rfl rfl rfl (w1 := wR (va_up (va_up (va_up g 11 (upd (g 11) k t)) 12 (upd (g 12) k x)) 0 (upd (g 0) 7 (g 0 7 + 1))) tr) rfl ?_
  rw [hk, nI_1]
  refine Ev.sn e_X9_tries 2 (i' := 40) (ls' := [_, _, _]) (st' := [_]) rfl ?_
  refine Ev.iret e_X9_tries rfl rfl rfl ?_ rfl
  rfl
end
section
/-! the reference: strangers, scales, what is done -/
def stLA (k : Nat) (u v : VW) (z : Int32) (t s : Nat) (a : Int32 × Int32) : Int32 × Int32 := if ALW k u v z (nI s) = true then (if fitB v t (v 1 t) (nI s) z = true then (a.1 + 1, a.2) else (a.1, a.2 + 1)) else a
theorem LA2_st (k : Nat) (u v : VW) (z : Int32) (t : Nat) : LA2 k u v z t = fo (stLA k u v z t) 48 1 (0, 0) := rfl
theorem mx2_le (a : Int32 × Int32) : mx2 a = if a.1 ≤ a.2 then a.2 else a.1 := by
  unfold mx2
  by_cases h : a.1 < a.2
  · rw [if_pos h, if_pos (Int32.le_of_lt h)]
  · rw [if_neg h]
    by_cases h2 : a.1 ≤ a.2
    · rw [if_pos h2]
      exact Int32.le_antisymm h2 (Int32.not_lt.mp h)
    · rw [if_neg h2]
set_option maxRecDepth 20000 in
set_option maxHeartbeats 200000 in
theorem lp_X9_worst (d : Nat) (g : Nat → Nat → Int32) (tr : Int64) {n q dn : Nat} (hc : RI n q dn g) {k : Nat} (hk : g 0 7 = nI k) (ht : TI n k (tR k g)) (z : Int32) {t : Nat} (ht0 : t < n) : ∀ (j p : Nat) (a : Int32 × Int32), p + j = 49 → Ev (d + 3) 163 6 [.ref 0, .int (nI t), .int z, .int a.1, .int a.2, .int (nI p), .null, .null] [] (wR g tr) (some (.int (mx2 (fo (stLA k (tR k g) (vR n q dn g) z t) j p a)))) (wR g tr) := by
  intro j
  induction j with
  | zero =>
    intro p a hp
    rw [mx2_le]
    refine Ev.sn e_X9_worst 2 (i' := 8) (ls' := [_, _, _, _, _, _, _, _]) (st' := [_, _]) rfl ?_
    refine Ev.brT (i1 := 48) (i2 := 9) e_X9_worst rfl rfl (ge_t (n := 49) rfl (by omega) (by omega)) ?_
    refine Ev.sn e_X9_worst 2 (i' := 50) (ls' := [_, _, _, _, _, _, _, _]) (st' := [_, _]) rfl ?_
    refine Ev.br (i1 := 53) (i2 := 51) e_X9_worst rfl rfl (fun h0 => ?_) (fun h0 => ?_)
    · refine Ev.sn e_X9_worst 1 (i' := 54) (ls' := [_, _, _, _, _, _, _, _]) (st' := [_]) rfl ?_
      refine Ev.iret e_X9_worst rfl rfl rfl ?_ rfl
      exact (if_pos h0).symm
    · refine Ev.sn e_X9_worst 2 (i' := 54) (ls' := [_, _, _, _, _, _, _, _]) (st' := [_]) rfl ?_
      refine Ev.iret e_X9_worst rfl rfl rfl ?_ rfl
      exact (if_neg h0).symm
  | succ j ih =>
    intro p a hp
    rw [fo_s (k := j)]
    have hb := hc.b
    have hv : (vR n q dn g) 1 t = g 7 (6 + t) := cut_lt (f := fun t => g 7 (6 + t)) ht0
    refine Ev.sn e_X9_worst 2 (i' := 8) (ls' := [_, _, _, _, _, _, _, _]) (st' := [_, _]) rfl ?_
    refine Ev.brF (i1 := 48) (i2 := 9) e_X9_worst rfl rfl (ge_f (n := 49) rfl (by omega) (by omega)) ?_
    refine Ev.sn e_X9_worst 3 (i' := 12) (ls' := [_, _, _, _, _, _, _, _]) (st' := [_, _, _]) rfl ?_
    refine Ev.clV e_X9_worst rfl rfl (as := [_, _]) rfl rfl rfl kl_X9_mayBeAt rfl rfl rfl (c_X9_mayBeAt _ _ _ hc hk ht _ _) rfl ?_
    refine Ev.sn e_X9_worst 8 (i' := 21) (ls' := [_, _, _, _, _, _, _, _]) (st' := [_, _, _, _]) rfl ?_
    refine Ev.ialdE e_X9_worst rfl rfl rfl rfl (nI_add 6 t) (by omega) ?_
    refine Ev.sn e_X9_worst 2 (i' := 24) (ls' := [_, _, _, _, _, _, _, _]) (st' := [_, _, _, _, _]) rfl ?_
    refine Ev.clV e_X9_worst rfl rfl (as := [_, _, _, _]) rfl rfl rfl kl_X9_fits rfl rfl rfl (by rw [← hv]; exact c_X9_fits _ _ _ hc ht0 _ _ _) rfl ?_
    refine Ev.sn e_X9_worst 3 (i' := 28) (ls' := [_, _, _, _, _, _, _, _]) (st' := [_, _]) rfl ?_
    refine Ev.brB (i1 := 33) (i2 := 29) e_X9_worst rfl rfl (fun h28 => ?_) (fun h28 => ?_)
    · refine Ev.sn e_X9_worst 5 (i' := 38) (ls' := [_, _, _, _, _, _, _, _]) (st' := [_, _]) rfl ?_
      refine Ev.brB (i1 := 43) (i2 := 39) e_X9_worst rfl rfl (fun h38 => ?_) (fun h38 => ?_)
      · refine Ev.sn e_X9_worst 5 (i' := 6) (ls' := [_, _, _, _, _, _, _, _]) (st' := []) rfl ?_
        refine Ev.weak (lle_c (lle_c (lle_c (lle_c (lle_c (lle_c (lle_n (lle_n lle_0)))))))) (Ev.cg (ih (p + 1) (stLA k (tR k g) (vR n q dn g) z t p a) (by omega)) ?_)
        simp_all [stLA, nI_1]
      · refine Ev.sn e_X9_worst 1 (i' := 40) (ls' := [_, _, _, _, _, _, _, _]) (st' := [_, _]) rfl ?_
        refine Ev.brB (i1 := 41) (i2 := 43) e_X9_worst rfl rfl (fun h40 => ?_) (fun h40 => ?_)
        · refine Ev.sn e_X9_worst 6 (i' := 6) (ls' := [_, _, _, _, _, _, _, _]) (st' := []) rfl ?_
          refine Ev.weak (lle_c (lle_c (lle_c (lle_c (lle_c (lle_c (lle_n (lle_n lle_0)))))))) (Ev.cg (ih (p + 1) (stLA k (tR k g) (vR n q dn g) z t p a) (by omega)) ?_)
          simp_all [stLA, nI_1]
        · refine Ev.sn e_X9_worst 5 (i' := 6) (ls' := [_, _, _, _, _, _, _, _]) (st' := []) rfl ?_
          refine Ev.weak (lle_c (lle_c (lle_c (lle_c (lle_c (lle_c (lle_n (lle_n lle_0)))))))) (Ev.cg (ih (p + 1) (stLA k (tR k g) (vR n q dn g) z t p a) (by omega)) ?_)
          simp_all [stLA, nI_1]
    · refine Ev.sn e_X9_worst 1 (i' := 30) (ls' := [_, _, _, _, _, _, _, _]) (st' := [_, _]) rfl ?_
      refine Ev.brB (i1 := 33) (i2 := 31) e_X9_worst rfl rfl (fun h30 => ?_) (fun h30 => ?_)
      · refine Ev.sn e_X9_worst 5 (i' := 38) (ls' := [_, _, _, _, _, _, _, _]) (st' := [_, _]) rfl ?_
        refine Ev.brB (i1 := 43) (i2 := 39) e_X9_worst rfl rfl (fun h38 => ?_) (fun h38 => ?_)
        · refine Ev.sn e_X9_worst 5 (i' := 6) (ls' := [_, _, _, _, _, _, _, _]) (st' := []) rfl ?_
          refine Ev.weak (lle_c (lle_c (lle_c (lle_c (lle_c (lle_c (lle_n (lle_n lle_0)))))))) (Ev.cg (ih (p + 1) (stLA k (tR k g) (vR n q dn g) z t p a) (by omega)) ?_)
          simp_all [stLA, nI_1]
        · refine Ev.sn e_X9_worst 1 (i' := 40) (ls' := [_, _, _, _, _, _, _, _]) (st' := [_, _]) rfl ?_
          refine Ev.brB (i1 := 41) (i2 := 43) e_X9_worst rfl rfl (fun h40 => ?_) (fun h40 => ?_)
          · refine Ev.sn e_X9_worst 6 (i' := 6) (ls' := [_, _, _, _, _, _, _, _]) (st' := []) rfl ?_
            refine Ev.weak (lle_c (lle_c (lle_c (lle_c (lle_c (lle_c (lle_n (lle_n lle_0)))))))) (Ev.cg (ih (p + 1) (stLA k (tR k g) (vR n q dn g) z t p a) (by omega)) ?_)
            simp_all [stLA, nI_1]
          · refine Ev.sn e_X9_worst 5 (i' := 6) (ls' := [_, _, _, _, _, _, _, _]) (st' := []) rfl ?_
            refine Ev.weak (lle_c (lle_c (lle_c (lle_c (lle_c (lle_c (lle_n (lle_n lle_0)))))))) (Ev.cg (ih (p + 1) (stLA k (tR k g) (vR n q dn g) z t p a) (by omega)) ?_)
            simp_all [stLA, nI_1]
      · refine Ev.sn e_X9_worst 6 (i' := 38) (ls' := [_, _, _, _, _, _, _, _]) (st' := [_, _]) rfl ?_
        refine Ev.brB (i1 := 43) (i2 := 39) e_X9_worst rfl rfl (fun h38 => ?_) (fun h38 => ?_)
        · refine Ev.sn e_X9_worst 5 (i' := 6) (ls' := [_, _, _, _, _, _, _, _]) (st' := []) rfl ?_
          refine Ev.weak (lle_c (lle_c (lle_c (lle_c (lle_c (lle_c (lle_n (lle_n lle_0)))))))) (Ev.cg (ih (p + 1) (stLA k (tR k g) (vR n q dn g) z t p a) (by omega)) ?_)
          simp_all [stLA, nI_1]
        · refine Ev.sn e_X9_worst 1 (i' := 40) (ls' := [_, _, _, _, _, _, _, _]) (st' := [_, _]) rfl ?_
          refine Ev.brB (i1 := 41) (i2 := 43) e_X9_worst rfl rfl (fun h40 => ?_) (fun h40 => ?_)
          · refine Ev.sn e_X9_worst 6 (i' := 6) (ls' := [_, _, _, _, _, _, _, _]) (st' := []) rfl ?_
            refine Ev.weak (lle_c (lle_c (lle_c (lle_c (lle_c (lle_c (lle_n (lle_n lle_0)))))))) (Ev.cg (ih (p + 1) (stLA k (tR k g) (vR n q dn g) z t p a) (by omega)) ?_)
            simp_all [stLA, nI_1]
          · refine Ev.sn e_X9_worst 5 (i' := 6) (ls' := [_, _, _, _, _, _, _, _]) (st' := []) rfl ?_
            refine Ev.weak (lle_c (lle_c (lle_c (lle_c (lle_c (lle_c (lle_n (lle_n lle_0)))))))) (Ev.cg (ih (p + 1) (stLA k (tR k g) (vR n q dn g) z t p a) (by omega)) ?_)
            simp_all [stLA, nI_1]
set_option maxRecDepth 20000 in
set_option maxHeartbeats 200000 in
theorem c_X9_worst (d : Nat) (g : Nat → Nat → Int32) (tr : Int64) {n q dn : Nat} (hc : RI n q dn g) {k : Nat} (hk : g 0 7 = nI k) (ht : TI n k (tR k g)) (z : Int32) {t : Nat} (ht0 : t < n) : Ev (d + 3) 163 0 [.ref 0, .int (nI t), .int z, .null, .null, .null, .null, .null] [] (wR g tr) (some (.int (LAW k (tR k g) (vR n q dn g) z t))) (wR g tr) := by
  have hb := hc.b
  refine Ev.sn e_X9_worst 6 (i' := 6) (ls' := [_, _, _, _, _, _, _, _]) (st' := []) rfl ?_
  exact lp_X9_worst _ _ _ hc hk ht z ht0 48 1 (0, 0) rfl
def stMB (k : Nat) (u v : VW) (z : Int32) (s : Nat) (a : Int32 × Int32) : Int32 × Int32 := if ALW k u v z (nI s) = true then (a.1 + 1, if a.1 = 0 then nI s else a.2) else a
theorem stMB_ok {k : Nat} {u v : VW} {z : Int32} (j : Nat) : ∀ (p c : Nat) (l : Int32), c + j ≤ 100 → (fo (stMB k u v z) j p (nI c, l)).1 = fo (fun s a => if ALW k u v z (nI s) = true then a + 1 else a) j p (nI c) ∧ (fo (stMB k u v z) j p (nI c, l)).2 = if c = 0 then firN (fun s => ALW k u v z (nI s)) l j p else l := by
  induction j with
  | zero =>
    intro p c l _
    refine ⟨rfl, ?_⟩
    split <;> rfl
  | succ j ih =>
    intro p c l hc
    rw [fo_s, fo_s]
    by_cases h : ALW k u v z (nI p) = true
    · have e : stMB k u v z p (nI c, l) = (nI (c + 1), if c = 0 then nI p else l) := by
        unfold stMB
        rw [if_pos h, nI_1]
        by_cases h0 : c = 0
        · subst h0; rfl
        · simp only [if_neg h0, if_neg (nI_ne0 (show 0 < c by omega) (by omega))]
      obtain ⟨i1, i2⟩ := ih (p + 1) (c + 1) (if c = 0 then nI p else l) (by omega)
      rw [e, if_pos h, nI_1]
      refine ⟨i1, ?_⟩
      rw [i2, if_neg (by omega)]
      by_cases h0 : c = 0
      · rw [if_pos h0, if_pos h0]
        show nI p = if ALW k u v z (nI p) = true then nI p else _
        rw [if_pos h]
      · rw [if_neg h0, if_neg h0]
    · have e : stMB k u v z p (nI c, l) = (nI c, l) := if_neg h
      obtain ⟨i1, i2⟩ := ih (p + 1) c l (by omega)
      rw [e, if_neg h]
      refine ⟨i1, ?_⟩
      rw [i2]
      by_cases h0 : c = 0
      · rw [if_pos h0, if_pos h0]
        show _ = if ALW k u v z (nI p) = true then nI p else _
        rw [if_neg h]
      · rw [if_neg h0, if_neg h0]
set_option maxRecDepth 20000 in
set_option maxHeartbeats 200000 in
theorem lp_X9_mayBe (d : Nat) (g : Nat → Nat → Int32) (tr : Int64) {n q dn : Nat} (hc : RI n q dn g) {k : Nat} (hk : g 0 7 = nI k) (ht : TI n k (tR k g)) (z x : Int32) : ∀ (j p : Nat) (a : Int32 × Int32), p + j = 49 → Ev (d + 3) 162 21 [.ref 0, .int z, .int x, .int a.1, .int a.2, .int (nI p)] [] (wR g tr) (some (.int (if x = 0 then (fo (stMB k (tR k g) (vR n q dn g) z) j p a).1 else (fo (stMB k (tR k g) (vR n q dn g) z) j p a).2))) (wR g tr) := by
  intro j
  induction j with
  | zero =>
    intro p a hp
    refine Ev.sn e_X9_mayBe 2 (i' := 23) (ls' := [_, _, _, _, _, _]) (st' := [_, _]) rfl ?_
    refine Ev.brT (i1 := 38) (i2 := 24) e_X9_mayBe rfl rfl (ge_t (n := 49) rfl (by omega) (by omega)) ?_
    refine Ev.sn e_X9_mayBe 1 (i' := 39) (ls' := [_, _, _, _, _, _]) (st' := [_]) rfl ?_
    refine Ev.br (i1 := 40) (i2 := 42) e_X9_mayBe rfl rfl (fun h0 => ?_) (fun h0 => ?_)
    · refine Ev.sn e_X9_mayBe 2 (i' := 43) (ls' := [_, _, _, _, _, _]) (st' := [_]) rfl ?_
      refine Ev.iret e_X9_mayBe rfl rfl rfl ?_ rfl
      rw [if_pos h0]
      rfl
    · refine Ev.sn e_X9_mayBe 1 (i' := 43) (ls' := [_, _, _, _, _, _]) (st' := [_]) rfl ?_
      refine Ev.iret e_X9_mayBe rfl rfl rfl ?_ rfl
      rw [if_neg h0]
      rfl
  | succ j ih =>
    intro p a hp
    rw [fo_s (k := j)]
    refine Ev.sn e_X9_mayBe 2 (i' := 23) (ls' := [_, _, _, _, _, _]) (st' := [_, _]) rfl ?_
    refine Ev.brF (i1 := 38) (i2 := 24) e_X9_mayBe rfl rfl (ge_f (n := 49) rfl (by omega) (by omega)) ?_
    refine Ev.sn e_X9_mayBe 3 (i' := 27) (ls' := [_, _, _, _, _, _]) (st' := [_, _, _]) rfl ?_
    refine Ev.clV e_X9_mayBe rfl rfl (as := [_, _]) rfl rfl rfl kl_X9_mayBeAt rfl rfl rfl (c_X9_mayBeAt _ _ _ hc hk ht _ _) rfl ?_
    refine Ev.brB (i1 := 36) (i2 := 29) e_X9_mayBe rfl rfl (fun h0 => ?_) (fun h0 => ?_)
    · refine Ev.sn e_X9_mayBe 2 (i' := 21) (ls' := [_, _, _, _, _, _]) (st' := []) rfl ?_
      refine Ev.cg (ih (p + 1) (stMB k (tR k g) (vR n q dn g) z p a) (by omega)) ?_
      simp [stMB, nI_1, h0]
    · refine Ev.sn e_X9_mayBe 1 (i' := 30) (ls' := [_, _, _, _, _, _]) (st' := [_]) rfl ?_
      refine Ev.br (i1 := 31) (i2 := 33) e_X9_mayBe rfl rfl (fun h1 => ?_) (fun h1 => ?_)
      · refine Ev.sn e_X9_mayBe 6 (i' := 21) (ls' := [_, _, _, _, _, _]) (st' := []) rfl ?_
        refine Ev.cg (ih (p + 1) (stMB k (tR k g) (vR n q dn g) z p a) (by omega)) ?_
        simp [stMB, nI_1, h0, h1]
      · refine Ev.sn e_X9_mayBe 5 (i' := 21) (ls' := [_, _, _, _, _, _]) (st' := []) rfl ?_
        refine Ev.cg (ih (p + 1) (stMB k (tR k g) (vR n q dn g) z p a) (by omega)) ?_
        simp [stMB, nI_1, h0, h1]
set_option maxRecDepth 20000 in
set_option maxHeartbeats 200000 in
theorem c_X9_mayBe (d : Nat) (g : Nat → Nat → Int32) (tr : Int64) {n q dn : Nat} (hc : RI n q dn g) {k : Nat} (hk : g 0 7 = nI k) (ht : TI n k (tR k g)) (z x : Int32) : Ev (d + 3) 162 0 [.ref 0, .int z, .int x, .null, .null, .null] [] (wR g tr) (some (.int (S_mayBe k (tR k g) (vR n q dn g) z x))) (wR g tr) := by
  have hb := hc.b
  by_cases hg : gSz z x = true
  · rw [show S_mayBe k (tR k g) (vR n q dn g) z x = if x = 0 then SLF k (tR k g) (vR n q dn g) z else LSC k (tR k g) (vR n q dn g) z from if_pos hg]
    obtain ⟨i1, i2⟩ := stMB_ok (k := k) (u := (tR k g)) (v := (vR n q dn g)) (z := z) 48 1 0 (-9) (by omega)
    refine Ev.sn e_X9_mayBe 2 (i' := 2) (ls' := [_, _, _, _, _, _]) (st' := [_, _]) rfl ?_
    refine Ev.put e_X9_mayBe rfl rfl rfl rfl rfl rfl (w1 := wR g tr) rfl ?_
    refine Ev.sn e_X9_mayBe 3 (i' := 6) (ls' := [_, _, _, _, _, _]) (st' := [_, _, _]) rfl ?_
    refine Ev.clS e_X9_mayBe rfl rfl rfl (as := [_, _, _]) rfl rfl rfl rfl rfl (c_X9_in _ _ _ _ _) rfl ?_
    refine Ev.brF (i1 := 13) (i2 := 8) e_X9_mayBe rfl rfl (bF (by simp only [gSz, Bool.and_eq_true] at hg; simpa using hg.1)) ?_
    refine Ev.sn e_X9_mayBe 3 (i' := 11) (ls' := [_, _, _, _, _, _]) (st' := [_, _, _]) rfl ?_
    refine Ev.clS e_X9_mayBe rfl rfl rfl (as := [_, _, _]) rfl rfl rfl rfl rfl (c_X9_in _ _ _ _ _) rfl ?_
    refine Ev.brF (i1 := 13) (i2 := 15) e_X9_mayBe rfl rfl ((by rw [r01]; exact bF (by simp only [gSz, Bool.and_eq_true] at hg; exact hg.2))) ?_
    refine Ev.sn e_X9_mayBe 6 (i' := 21) (ls' := [_, _, _, _, _, _]) (st' := []) rfl ?_
    have := lp_X9_mayBe d g tr hc hk ht z x 48 1 (nI 0, -9) rfl
    rw [i1, i2, if_pos rfl] at this
    exact this
  · rw [show S_mayBe k (tR k g) (vR n q dn g) z x = -1 from if_neg hg]
    refine Ev.sn e_X9_mayBe 2 (i' := 2) (ls' := [_, _, _, _, _, _]) (st' := [_, _]) rfl ?_
    refine Ev.put e_X9_mayBe rfl rfl rfl rfl rfl rfl (w1 := wR g tr) rfl ?_
    refine Ev.sn e_X9_mayBe 3 (i' := 6) (ls' := [_, _, _, _, _, _]) (st' := [_, _, _]) rfl ?_
    refine Ev.clS e_X9_mayBe rfl rfl rfl (as := [_, _, _]) rfl rfl rfl rfl rfl (c_X9_in _ _ _ _ _) rfl ?_
    refine Ev.brB (i1 := 13) (i2 := 8) e_X9_mayBe rfl rfl (fun h0 => ?_) (fun h0 => ?_)
    · refine Ev.sn e_X9_mayBe 1 (i' := 14) (ls' := [_, _, _, _, _, _]) (st' := [_]) rfl ?_
      refine Ev.iret e_X9_mayBe rfl rfl rfl ?_ rfl
      rfl
    · refine Ev.sn e_X9_mayBe 3 (i' := 11) (ls' := [_, _, _, _, _, _]) (st' := [_, _, _]) rfl ?_
      refine Ev.clS e_X9_mayBe rfl rfl rfl (as := [_, _, _]) rfl rfl rfl rfl rfl (c_X9_in _ _ _ _ _) rfl ?_
      refine Ev.brB (i1 := 13) (i2 := 15) e_X9_mayBe rfl rfl (fun h1 => ?_) (fun h1 => ?_)
      · refine Ev.sn e_X9_mayBe 1 (i' := 14) (ls' := [_, _, _, _, _, _]) (st' := [_]) rfl ?_
        refine Ev.iret e_X9_mayBe rfl rfl rfl ?_ rfl
        rfl
      · exfalso
        rw [r01] at h1
        exact hg (by simp only [gSz, Bool.and_eq_true]; exact ⟨by simpa using h0, h1⟩)
def stB2 (k : Nat) (u v : VW) (z : Int32) (t : Nat) (a : Int32) : Int32 := if a = -9 then nI t else if LAW k u v z t < LAW k u v z a.toNatClampNeg then nI t else a
theorem cnt_le {c : Nat → Bool} (j : Nat) : ∀ (p m : Nat), ∃ m', m' ≤ m + j ∧ fo (fun s a => if c s = true then a + 1 else a) j p (nI m) = nI m' := by
  induction j with
  | zero => intro p m; exact ⟨m, by omega, rfl⟩
  | succ j ih =>
    intro p m
    rw [fo_s]
    by_cases h : c p = true
    · rw [if_pos h, nI_1]
      obtain ⟨m', h1, h2⟩ := ih (p + 1) (m + 1)
      exact ⟨m', by omega, h2⟩
    · rw [if_neg h]
      obtain ⟨m', h1, h2⟩ := ih (p + 1) m
      exact ⟨m', by omega, h2⟩
theorem LA2_le {k : Nat} {u v : VW} {z : Int32} {t : Nat} (j : Nat) : ∀ (p m m2 : Nat), ∃ m' m2', m' ≤ m + j ∧ m2' ≤ m2 + j ∧ fo (stLA k u v z t) j p (nI m, nI m2) = (nI m', nI m2') := by
  induction j with
  | zero => intro p m m2; exact ⟨m, m2, by omega, by omega, rfl⟩
  | succ j ih =>
    intro p m m2
    rw [fo_s]
    unfold stLA
    by_cases h : ALW k u v z (nI p) = true
    · rw [if_pos h]
      by_cases h2 : fitB v t (v 1 t) (nI p) z = true
      · rw [if_pos h2, nI_1]
        obtain ⟨a, b, h3, h4, h5⟩ := ih (p + 1) (m + 1) m2
        exact ⟨a, b, by omega, by omega, h5⟩
      · rw [if_neg h2, nI_1]
        obtain ⟨a, b, h3, h4, h5⟩ := ih (p + 1) m (m2 + 1)
        exact ⟨a, b, by omega, by omega, h5⟩
    · rw [if_neg h]
      obtain ⟨a, b, h3, h4, h5⟩ := ih (p + 1) m m2
      exact ⟨a, b, by omega, by omega, h5⟩
theorem LAW_lt (k : Nat) (u v : VW) (z : Int32) (t : Nat) : LAW k u v z t < 49 := by
  obtain ⟨a, b, h3, h4, h5⟩ := LA2_le (k := k) (u := u) (v := v) (z := z) (t := t) 48 1 0 0
  unfold LAW mx2
  rw [LA2_st, show ((0 : Int32), (0 : Int32)) = (nI 0, nI 0) from rfl, h5]
  simp only
  split
  · exact nI_lt (b := 49) (by omega) (by omega)
  · exact nI_lt (b := 49) (by omega) (by omega)
theorem B2_ok {k : Nat} {u v : VW} {z : Int32} (j : Nat) : ∀ (p : Nat) (a : Int32 × Int32), p + j < 2000 → ((a.1 = -9 ∧ a.2 = 49) ∨ ∃ t, t < p ∧ a.1 = nI t ∧ a.2 = LAW k u v z t) → fo (stB2 k u v z) j p a.1 = (fo (stBT k u v z) j p a).1 := by
  induction j with
  | zero => intro p a _ _; rfl
  | succ j ih =>
    intro p a hp ha
    rw [fo_s, fo_s]
    have e : stB2 k u v z p a.1 = (stBT k u v z p a).1 ∧ (((stBT k u v z p a).1 = -9 ∧ (stBT k u v z p a).2 = 49) ∨ ∃ t, t < p + 1 ∧ (stBT k u v z p a).1 = nI t ∧ (stBT k u v z p a).2 = LAW k u v z t) := by
      unfold stB2 stBT
      rcases ha with ⟨h1, h2⟩ | ⟨t, h1, h2, h3⟩
      · rw [if_pos h1, h2, if_pos (LAW_lt k u v z p)]
        exact ⟨rfl, Or.inr ⟨p, by omega, rfl, rfl⟩⟩
      · rw [h2, if_neg (nI_n9 (by omega)), nI_clamp (by omega), h3]
        by_cases h4 : LAW k u v z p < LAW k u v z t
        · rw [if_pos h4, if_pos h4]
          exact ⟨rfl, Or.inr ⟨p, by omega, rfl, rfl⟩⟩
        · rw [if_neg h4, if_neg h4]
          exact ⟨h2.symm, Or.inr ⟨t, by omega, h2, h3⟩⟩
    rw [e.1]
    exact ih (p + 1) _ (by omega) e.2
set_option maxRecDepth 20000 in
set_option maxHeartbeats 200000 in
theorem lp_X9_next (d : Nat) (g : Nat → Nat → Int32) (tr : Int64) {n q dn : Nat} (hc : RI n q dn g) {k : Nat} (hk : g 0 7 = nI k) (ht : TI n k (tR k g)) (z x : Int32) : ∀ (j p : Nat) (a : Int32), p + j = n → (a = -9 ∨ ∃ t, t < n ∧ a = nI t) → Ev (d + 4) 164 19 [.ref 0, .int z, .int x, .int a, .int (nI p)] [] (wR g tr) (some (.int (if fo (stB2 k (tR k g) (vR n q dn g) z) j p a = -9 then fo (stB2 k (tR k g) (vR n q dn g) z) j p a else if x = 0 then fo (stB2 k (tR k g) (vR n q dn g) z) j p a else LAW k (tR k g) (vR n q dn g) z (fo (stB2 k (tR k g) (vR n q dn g) z) j p a).toNatClampNeg))) (wR g tr) := by
  intro j
  induction j with
  | zero =>
    intro p a hp ha
    have hb := hc.b
    show Ev _ _ _ _ _ _ (some (.int (if a = -9 then a else if x = 0 then a else LAW k (tR k g) (vR n q dn g) z a.toNatClampNeg))) _
    refine Ev.sn e_X9_next 4 (i' := 23) (ls' := [_, _, _, _, _]) (st' := [_, _, _]) rfl ?_
    refine Ev.ialdE e_X9_next rfl rfl rfl rfl (m := 0) rfl (by decide) ?_
    refine Ev.brT (i1 := 43) (i2 := 25) e_X9_next rfl rfl (ge_t hc.hn (by omega) (by omega)) ?_
    refine Ev.sn e_X9_next 2 (i' := 45) (ls' := [_, _, _, _, _]) (st' := [_, _]) rfl ?_
    refine Ev.br (i1 := 48) (i2 := 46) e_X9_next rfl rfl (fun h0 => ?_) (fun h0 => ?_)
    · refine Ev.sn e_X9_next 2 (i' := 54) (ls' := [_, _, _, _, _]) (st' := [_]) rfl ?_
      refine Ev.iret e_X9_next rfl rfl rfl ?_ rfl
      rw [if_pos h0]
    · refine Ev.sn e_X9_next 1 (i' := 47) (ls' := [_, _, _, _, _]) (st' := [_]) rfl ?_
      refine Ev.br (i1 := 48) (i2 := 50) e_X9_next rfl rfl (fun h1 => ?_) (fun h1 => ?_)
      · refine Ev.sn e_X9_next 2 (i' := 54) (ls' := [_, _, _, _, _]) (st' := [_]) rfl ?_
        refine Ev.iret e_X9_next rfl rfl rfl ?_ rfl
        rw [if_neg h0, if_pos h1]
      · obtain ⟨t, ht1, ea⟩ := ha.resolve_left h0
        refine Ev.sn e_X9_next 3 (i' := 53) (ls' := [_, _, _, _, _]) (st' := [_, _, _]) rfl ?_
        refine Ev.clV e_X9_next rfl rfl (as := [_, _]) rfl rfl rfl kl_X9_worst rfl rfl rfl (by rw [ea]; exact c_X9_worst _ _ _ hc hk ht z ht1) rfl ?_
        refine Ev.iret e_X9_next rfl rfl rfl ?_ rfl
        rw [if_neg h0, if_neg h1, ea, nI_clamp (by omega)]
  | succ j ih =>
    intro p a hp ha
    have hb := hc.b
    rw [fo_s (k := j)]
    refine Ev.sn e_X9_next 4 (i' := 23) (ls' := [_, _, _, _, _]) (st' := [_, _, _]) rfl ?_
    refine Ev.ialdE e_X9_next rfl rfl rfl rfl (m := 0) rfl (by decide) ?_
    refine Ev.brF (i1 := 43) (i2 := 25) e_X9_next rfl rfl (ge_f hc.hn (by omega) (by omega)) ?_
    refine Ev.sn e_X9_next 2 (i' := 27) (ls' := [_, _, _, _, _]) (st' := [_, _]) rfl ?_
    refine Ev.br (i1 := 37) (i2 := 28) e_X9_next rfl rfl (fun h0 => ?_) (fun h0 => ?_)
    · refine Ev.sn e_X9_next 5 (i' := 19) (ls' := [_, _, _, _, _]) (st' := []) rfl ?_
      rw [nI_1, show stB2 k (tR k g) (vR n q dn g) z p a = nI p by unfold stB2; rw [if_pos h0]]
      exact ih (p + 1) _ (by omega) (Or.inr ⟨p, by omega, rfl⟩)
    · obtain ⟨t, ht1, ea⟩ := ha.resolve_left h0
      refine Ev.sn e_X9_next 3 (i' := 31) (ls' := [_, _, _, _, _]) (st' := [_, _, _]) rfl ?_
      refine Ev.clV e_X9_next rfl rfl (as := [_, _]) rfl rfl rfl kl_X9_worst rfl rfl rfl (c_X9_worst _ _ _ hc hk ht z (by omega)) rfl ?_
      refine Ev.sn e_X9_next 3 (i' := 35) (ls' := [_, _, _, _, _]) (st' := [_, _, _, _]) rfl ?_
      refine Ev.clV e_X9_next rfl rfl (as := [_, _]) rfl rfl rfl kl_X9_worst rfl rfl rfl (by rw [ea]; exact c_X9_worst _ _ _ hc hk ht z ht1) rfl ?_
      refine Ev.br (i1 := 39) (i2 := 37) e_X9_next rfl rfl (fun h1 => ?_) (fun h1 => ?_)
      · refine Ev.sn e_X9_next 4 (i' := 19) (ls' := [_, _, _, _, _]) (st' := []) rfl ?_
        rw [nI_1, show stB2 k (tR k g) (vR n q dn g) z p a = a by unfold stB2; rw [if_neg h0, ea, nI_clamp (by omega), if_neg (Int32.not_lt.mpr h1)]]
        exact ih (p + 1) _ (by omega) ha
      · refine Ev.sn e_X9_next 5 (i' := 19) (ls' := [_, _, _, _, _]) (st' := []) rfl ?_
        rw [nI_1, show stB2 k (tR k g) (vR n q dn g) z p a = nI p by unfold stB2; rw [if_neg h0, ea, nI_clamp (by omega), if_pos (Int32.not_le.mp h1)]]
        exact ih (p + 1) _ (by omega) (Or.inr ⟨p, by omega, rfl⟩)
set_option maxRecDepth 20000 in
set_option maxHeartbeats 200000 in
theorem c_X9_next (d : Nat) (g : Nat → Nat → Int32) (tr : Int64) {n q dn : Nat} (hc : RI n q dn g) {k : Nat} (hk : g 0 7 = nI k) (ht : TI n k (tR k g)) (z x : Int32) : Ev (d + 4) 164 0 [.ref 0, .int z, .int x, .null, .null] [] (wR g tr) (some (.int (S_next n k (tR k g) (vR n q dn g) z x))) (wR g tr) := by
  have hb := hc.b
  by_cases hg : gSz z x = true
  · have e0 : fo (stB2 k (tR k g) (vR n q dn g) z) n 0 (-9) = (BTT n k (tR k g) (vR n q dn g) z).1 := B2_ok n 0 (-9, 49) (by omega) (Or.inl ⟨rfl, rfl⟩)
    rw [show S_next n k (tR k g) (vR n q dn g) z x = (if (BTT n k (tR k g) (vR n q dn g) z).1 = -9 then (BTT n k (tR k g) (vR n q dn g) z).1 else if x = 0 then (BTT n k (tR k g) (vR n q dn g) z).1 else LAW k (tR k g) (vR n q dn g) z (BTT n k (tR k g) (vR n q dn g) z).1.toNatClampNeg) from if_pos hg, ← e0]
    refine Ev.sn e_X9_next 2 (i' := 2) (ls' := [_, _, _, _, _]) (st' := [_, _]) rfl ?_
    refine Ev.put e_X9_next rfl rfl rfl rfl rfl rfl (w1 := wR g tr) rfl ?_
    refine Ev.sn e_X9_next 3 (i' := 6) (ls' := [_, _, _, _, _]) (st' := [_, _, _]) rfl ?_
    refine Ev.clS e_X9_next rfl rfl rfl (as := [_, _, _]) rfl rfl rfl rfl rfl (c_X9_in _ _ _ _ _) rfl ?_
    refine Ev.brF (i1 := 13) (i2 := 8) e_X9_next rfl rfl (bF (by simp only [gSz, Bool.and_eq_true] at hg; simpa using hg.1)) ?_
    refine Ev.sn e_X9_next 3 (i' := 11) (ls' := [_, _, _, _, _]) (st' := [_, _, _]) rfl ?_
    refine Ev.clS e_X9_next rfl rfl rfl (as := [_, _, _]) rfl rfl rfl rfl rfl (c_X9_in _ _ _ _ _) rfl ?_
    refine Ev.brF (i1 := 13) (i2 := 15) e_X9_next rfl rfl ((by rw [r01]; exact bF (by simp only [gSz, Bool.and_eq_true] at hg; exact hg.2))) ?_
    refine Ev.sn e_X9_next 4 (i' := 19) (ls' := [_, _, _, _, _]) (st' := []) rfl ?_
    exact lp_X9_next d g tr hc hk ht z x n 0 (-9) (by omega) (Or.inl rfl)
  · rw [show S_next n k (tR k g) (vR n q dn g) z x = -1 from if_neg hg]
    refine Ev.sn e_X9_next 2 (i' := 2) (ls' := [_, _, _, _, _]) (st' := [_, _]) rfl ?_
    refine Ev.put e_X9_next rfl rfl rfl rfl rfl rfl (w1 := wR g tr) rfl ?_
    refine Ev.sn e_X9_next 3 (i' := 6) (ls' := [_, _, _, _, _]) (st' := [_, _, _]) rfl ?_
    refine Ev.clS e_X9_next rfl rfl rfl (as := [_, _, _]) rfl rfl rfl rfl rfl (c_X9_in _ _ _ _ _) rfl ?_
    refine Ev.brB (i1 := 13) (i2 := 8) e_X9_next rfl rfl (fun h0 => ?_) (fun h0 => ?_)
    · refine Ev.sn e_X9_next 1 (i' := 14) (ls' := [_, _, _, _, _]) (st' := [_]) rfl ?_
      refine Ev.iret e_X9_next rfl rfl rfl ?_ rfl
      rfl
    · refine Ev.sn e_X9_next 3 (i' := 11) (ls' := [_, _, _, _, _]) (st' := [_, _, _]) rfl ?_
      refine Ev.clS e_X9_next rfl rfl rfl (as := [_, _, _]) rfl rfl rfl rfl rfl (c_X9_in _ _ _ _ _) rfl ?_
      refine Ev.brB (i1 := 13) (i2 := 15) e_X9_next rfl rfl (fun h1 => ?_) (fun h1 => ?_)
      · refine Ev.sn e_X9_next 1 (i' := 14) (ls' := [_, _, _, _, _]) (st' := [_]) rfl ?_
        refine Ev.iret e_X9_next rfl rfl rfl ?_ rfl
        rfl
      · exfalso
        rw [r01] at h1
        exact hg (by simp only [gSz, Bool.and_eq_true]; exact ⟨by simpa using h0, h1⟩)
set_option maxRecDepth 20000 in
set_option maxHeartbeats 200000 in
theorem lq_X9_fitsAt (d : Nat) (g : Nat → Nat → Int32) (tr : Int64) {n q dn : Nat} (hc : RI n q dn g) (s : Int32) {t : Nat} (ht : t < n) (r : Option Value) (w2 : AW) : ∀ (k p : Nat) (a : Int32), p + k = q → Ev (d + 2) 165 45 [.ref 0, .int s, .int (fo (fun p a => if fitB (vR n q dn g) t s ((vR n q dn g) 4 p) ((vR n q dn g) 5 p) = true then a + 1 else a) k p a), .int (nI t), .null] [] (wR g tr) r w2 → Ev (d + 2) 165 12 [.ref 0, .int s, .int a, .int (nI t), .int (nI p)] [] (wR g tr) r w2 := by
  intro k
  induction k with
  | zero =>
    intro p a hp K
    have hb := hc.b
    refine Ev.sn e_X9_fitsAt 4 (i' := 16) (ls' := [_, _, _, _, _]) (st' := [_, _, _]) rfl ?_
    refine Ev.ialdE e_X9_fitsAt rfl rfl rfl rfl (m := 1) rfl (by decide) ?_
    refine Ev.brT (i1 := 45) (i2 := 18) e_X9_fitsAt rfl rfl (ge_t hc.hq (by omega) (by omega)) ?_
    exact Ev.weak (lle_c (lle_c (lle_c (lle_c (lle_n lle_0))))) K
  | succ k ih =>
    intro p a hp K
    have hb := hc.b
    have hv : (vR n q dn g) 4 p = g 7 (12 + p) := cut_lt (f := fun t => g 7 (12 + t)) (by omega)
    have hv2 : (vR n q dn g) 5 p = g 4 (2 * p + 1) := cut_lt (f := fun t => g 4 (2 * t + 1)) (by omega)
    refine Ev.sn e_X9_fitsAt 4 (i' := 16) (ls' := [_, _, _, _, _]) (st' := [_, _, _]) rfl ?_
    refine Ev.ialdE e_X9_fitsAt rfl rfl rfl rfl (m := 1) rfl (by decide) ?_
    refine Ev.brF (i1 := 45) (i2 := 18) e_X9_fitsAt rfl rfl (ge_f hc.hq (by omega) (by omega)) ?_
    refine Ev.sn e_X9_fitsAt 9 (i' := 27) (ls' := [_, _, _, _, _]) (st' := [_, _, _, _, _, _]) rfl ?_
    refine Ev.ialdE e_X9_fitsAt rfl rfl rfl rfl (nI_add 12 p) (by omega) ?_
    refine Ev.sn e_X9_fitsAt 7 (i' := 35) (ls' := [_, _, _, _, _]) (st' := [_, _, _, _, _, _, _]) rfl ?_
    refine Ev.ialdE e_X9_fitsAt rfl rfl rfl rfl (ixm 2 1 p) (by omega) ?_
    refine Ev.clV e_X9_fitsAt rfl rfl (as := [_, _, _, _]) rfl rfl rfl kl_X9_fits rfl rfl rfl (c_X9_fits _ _ _ hc ht _ _ _) rfl ?_
    refine Ev.brB (i1 := 40) (i2 := 38) e_X9_fitsAt rfl rfl (fun h0 => ?_) (fun h0 => ?_)
    · refine Ev.sn e_X9_fitsAt 5 (i' := 12) (ls' := [_, _, _, _, _]) (st' := []) rfl ?_
      refine Ev.cg (ih (p + 1) ((fun p a => if fitB (vR n q dn g) t s ((vR n q dn g) 4 p) ((vR n q dn g) 5 p) = true then a + 1 else a) p a) (by omega) K) ?_
      simp [nI_1, hv, hv2, h0]
    · refine Ev.sn e_X9_fitsAt 6 (i' := 12) (ls' := [_, _, _, _, _]) (st' := []) rfl ?_
      refine Ev.cg (ih (p + 1) ((fun p a => if fitB (vR n q dn g) t s ((vR n q dn g) 4 p) ((vR n q dn g) 5 p) = true then a + 1 else a) p a) (by omega) K) ?_
      simp [nI_1, hv, hv2, h0]
set_option maxRecDepth 20000 in
set_option maxHeartbeats 200000 in
theorem lp_X9_fitsAt (d : Nat) (g : Nat → Nat → Int32) (tr : Int64) {n q dn : Nat} (hc : RI n q dn g) (s : Int32) : ∀ (k t : Nat) (a : Int32), t + k = n → Ev (d + 2) 165 4 [.ref 0, .int s, .int a, .int (nI t), .null] [] (wR g tr) (some (.int (fo (fun t a => fo (fun p a => if fitB (vR n q dn g) t s ((vR n q dn g) 4 p) ((vR n q dn g) 5 p) = true then a + 1 else a) q 0 a) k t a))) (wR g tr) := by
  intro k
  induction k with
  | zero =>
    intro t a hp
    have hb := hc.b
    refine Ev.sn e_X9_fitsAt 4 (i' := 8) (ls' := [_, _, _, _, _]) (st' := [_, _, _]) rfl ?_
    refine Ev.ialdE e_X9_fitsAt rfl rfl rfl rfl (m := 0) rfl (by decide) ?_
    refine Ev.brT (i1 := 47) (i2 := 10) e_X9_fitsAt rfl rfl (ge_t hc.hn (by omega) (by omega)) ?_
    refine Ev.sn e_X9_fitsAt 1 (i' := 48) (ls' := [_, _, _, _, _]) (st' := [_]) rfl ?_
    refine Ev.iret e_X9_fitsAt rfl rfl rfl ?_ rfl
    rfl
  | succ k ih =>
    intro t a hp
    have hb := hc.b
    refine Ev.sn e_X9_fitsAt 4 (i' := 8) (ls' := [_, _, _, _, _]) (st' := [_, _, _]) rfl ?_
    refine Ev.ialdE e_X9_fitsAt rfl rfl rfl rfl (m := 0) rfl (by decide) ?_
    refine Ev.brF (i1 := 47) (i2 := 10) e_X9_fitsAt rfl rfl (ge_f hc.hn (by omega) (by omega)) ?_
    refine Ev.sn e_X9_fitsAt 2 (i' := 12) (ls' := [_, _, _, _, _]) (st' := []) rfl ?_
    refine lq_X9_fitsAt _ _ _ hc _ (by omega) _ _ q 0 a (by omega) ?_
    refine Ev.sn e_X9_fitsAt 2 (i' := 4) (ls' := [_, _, _, _, _]) (st' := []) rfl ?_
    rw [nI_1]
    exact ih (t + 1) _ (by omega)
set_option maxRecDepth 20000 in
set_option maxHeartbeats 200000 in
theorem c_X9_fitsAt (d : Nat) (g : Nat → Nat → Int32) (tr : Int64) {n q dn : Nat} (hc : RI n q dn g) (s : Int32) : Ev (d + 2) 165 0 [.ref 0, .int s, .null, .null, .null] [] (wR g tr) (some (.int (TWO n q (vR n q dn g) s))) (wR g tr) := by
  have hb := hc.b
  refine Ev.sn e_X9_fitsAt 4 (i' := 4) (ls' := [_, _, _, _, _]) (st' := []) rfl ?_
  exact lp_X9_fitsAt _ _ _ hc _ n 0 0 (by omega)
set_option maxRecDepth 20000 in
set_option maxHeartbeats 200000 in
theorem lp_X9_bestScale (d : Nat) (g : Nat → Nat → Int32) (tr : Int64) {n q dn : Nat} (hc : RI n q dn g) (x : Int32) : ∀ (k p b : Nat), p + k = 49 → 1 ≤ b → b ≤ 48 → 1 ≤ p → Ev (d + 3) 166 14 [.ref 0, .int x, .int (nI b), .int (nI p)] [] (wR g tr) (some (.int (if x = 0 then nI (fo (stAM (fun s => TWO n q (vR n q dn g) (nI s))) k p b) else (fun s => TWO n q (vR n q dn g) (nI s)) (fo (stAM (fun s => TWO n q (vR n q dn g) (nI s))) k p b)))) (wR g tr) := by
  intro k
  induction k with
  | zero =>
    intro p b hp h1 h2 h3
    refine Ev.sn e_X9_bestScale 2 (i' := 16) (ls' := [_, _, _, _]) (st' := [_, _]) rfl ?_
    refine Ev.brT (i1 := 30) (i2 := 17) e_X9_bestScale rfl rfl (ge_t (n := 49) rfl (by omega) (by omega)) ?_
    refine Ev.sn e_X9_bestScale 1 (i' := 31) (ls' := [_, _, _, _]) (st' := [_]) rfl ?_
    refine Ev.br (i1 := 32) (i2 := 34) e_X9_bestScale rfl rfl (fun h0 => ?_) (fun h0 => ?_)
    · refine Ev.sn e_X9_bestScale 2 (i' := 37) (ls' := [_, _, _, _]) (st' := [_]) rfl ?_
      refine Ev.iret e_X9_bestScale rfl rfl rfl ?_ rfl
      rw [if_pos h0]
      rfl
    · refine Ev.sn e_X9_bestScale 2 (i' := 36) (ls' := [_, _, _, _]) (st' := [_, _]) rfl ?_
      refine Ev.clV e_X9_bestScale rfl rfl (as := [_]) rfl rfl rfl kl_X9_fitsAt rfl rfl rfl (c_X9_fitsAt _ _ _ hc _) rfl ?_
      refine Ev.iret e_X9_bestScale rfl rfl rfl ?_ rfl
      rw [if_neg h0]
      rfl
  | succ k ih =>
    intro p b hp h1 h2 h3
    rw [fo_s (k := k)]
    refine Ev.sn e_X9_bestScale 2 (i' := 16) (ls' := [_, _, _, _]) (st' := [_, _]) rfl ?_
    refine Ev.brF (i1 := 30) (i2 := 17) e_X9_bestScale rfl rfl (ge_f (n := 49) rfl (by omega) (by omega)) ?_
    refine Ev.sn e_X9_bestScale 2 (i' := 19) (ls' := [_, _, _, _]) (st' := [_, _]) rfl ?_
    refine Ev.clV e_X9_bestScale rfl rfl (as := [_]) rfl rfl rfl kl_X9_fitsAt rfl rfl rfl (c_X9_fitsAt _ _ _ hc _) rfl ?_
    refine Ev.sn e_X9_bestScale 2 (i' := 22) (ls' := [_, _, _, _]) (st' := [_, _, _]) rfl ?_
    refine Ev.clV e_X9_bestScale rfl rfl (as := [_]) rfl rfl rfl kl_X9_fitsAt rfl rfl rfl (c_X9_fitsAt _ _ _ hc _) rfl ?_
    refine Ev.br (i1 := 26) (i2 := 24) e_X9_bestScale rfl rfl (fun h0 => ?_) (fun h0 => ?_)
    · refine Ev.sn e_X9_bestScale 4 (i' := 14) (ls' := [_, _, _, _]) (st' := []) rfl ?_
      rw [nI_1, show stAM (fun s => TWO n q (vR n q dn g) (nI s)) p b = b from if_pos h0]
      exact ih (p + 1) b (by omega) h1 h2 (by omega)
    · refine Ev.sn e_X9_bestScale 5 (i' := 14) (ls' := [_, _, _, _]) (st' := []) rfl ?_
      rw [nI_1, show stAM (fun s => TWO n q (vR n q dn g) (nI s)) p b = p from if_neg h0]
      exact ih (p + 1) p (by omega) (by omega) (by omega) (by omega)
set_option maxRecDepth 20000 in
set_option maxHeartbeats 200000 in
theorem c_X9_bestScale_s (d : Nat) (g : Nat → Nat → Int32) (tr : Int64) {n q dn : Nat} (hc : RI n q dn g) (x : Int32) (hg : (decide (x = 0) || decide (x = 1)) = true) : Ev (d + 3) 166 0 [.ref 0, .int x, .null, .null] [] (wR g tr) (some (.int (S_best (fun s => TWO n q (vR n q dn g) (nI s)) x))) (wR g tr) := by
  have hb := hc.b
  refine Ev.sn e_X9_bestScale 2 (i' := 2) (ls' := [_, _, _, _]) (st' := [_, _]) rfl ?_
  refine Ev.put e_X9_bestScale rfl rfl rfl rfl rfl rfl (w1 := wR g tr) rfl ?_
  refine Ev.sn e_X9_bestScale 3 (i' := 6) (ls' := [_, _, _, _]) (st' := [_, _, _]) rfl ?_
  refine Ev.clS e_X9_bestScale rfl rfl rfl (as := [_, _, _]) rfl rfl rfl rfl rfl (c_X9_in _ _ _ _ _) rfl ?_
  refine Ev.brF (i1 := 8) (i2 := 10) e_X9_bestScale rfl rfl ((by rw [r01]; exact bF hg)) ?_
  refine Ev.sn e_X9_bestScale 4 (i' := 14) (ls' := [_, _, _, _]) (st' := []) rfl ?_
  exact lp_X9_bestScale _ _ _ hc _ 47 2 1 rfl (by omega) (by omega) (by omega)
set_option maxRecDepth 20000 in
set_option maxHeartbeats 200000 in
theorem c_X9_bestScale_b (d : Nat) (g : Nat → Nat → Int32) (tr : Int64) {n q dn : Nat} (hc : RI n q dn g) (x : Int32) (hg : (decide (x = 0) || decide (x = 1)) = false) : Ev (d + 3) 166 0 [.ref 0, .int x, .null, .null] [] (wR g tr) (some (.int (-1))) (wR g tr) := by
  have hb := hc.b
  refine Ev.sn e_X9_bestScale 2 (i' := 2) (ls' := [_, _, _, _]) (st' := [_, _]) rfl ?_
  refine Ev.put e_X9_bestScale rfl rfl rfl rfl rfl rfl (w1 := wR g tr) rfl ?_
  refine Ev.sn e_X9_bestScale 3 (i' := 6) (ls' := [_, _, _, _]) (st' := [_, _, _]) rfl ?_
  refine Ev.clS e_X9_bestScale rfl rfl rfl (as := [_, _, _]) rfl rfl rfl rfl rfl (c_X9_in _ _ _ _ _) rfl ?_
  refine Ev.brT (i1 := 8) (i2 := 10) e_X9_bestScale rfl rfl ((by rw [r01]; exact bT hg)) ?_
  refine Ev.sn e_X9_bestScale 1 (i' := 9) (ls' := [_, _, _, _]) (st' := [_]) rfl ?_
  refine Ev.iret e_X9_bestScale rfl rfl rfl ?_ rfl
  rfl
set_option maxRecDepth 20000 in
set_option maxHeartbeats 200000 in
theorem lp_X9_oneMore (d : Nat) (g : Nat → Nat → Int32) (tr : Int64) {n q dn : Nat} (hc : RI n q dn g) (z x : Int32) : ∀ (k p b : Nat), p + k = 49 → 1 ≤ b → b ≤ 48 → 1 ≤ p → Ev (d + 3) 168 19 [.ref 0, .int z, .int x, .int (nI b), .int (nI p)] [] (wR g tr) (some (.int (if x = 0 then nI (fo (stAM (fun s => THF n (vR n q dn g) z (nI s))) k p b) else (fun s => THF n (vR n q dn g) z (nI s)) (fo (stAM (fun s => THF n (vR n q dn g) z (nI s))) k p b)))) (wR g tr) := by
  intro k
  induction k with
  | zero =>
    intro p b hp h1 h2 h3
    refine Ev.sn e_X9_oneMore 2 (i' := 21) (ls' := [_, _, _, _, _]) (st' := [_, _]) rfl ?_
    refine Ev.brT (i1 := 37) (i2 := 22) e_X9_oneMore rfl rfl (ge_t (n := 49) rfl (by omega) (by omega)) ?_
    refine Ev.sn e_X9_oneMore 1 (i' := 38) (ls' := [_, _, _, _, _]) (st' := [_]) rfl ?_
    refine Ev.br (i1 := 39) (i2 := 41) e_X9_oneMore rfl rfl (fun h0 => ?_) (fun h0 => ?_)
    · refine Ev.sn e_X9_oneMore 2 (i' := 45) (ls' := [_, _, _, _, _]) (st' := [_]) rfl ?_
      refine Ev.iret e_X9_oneMore rfl rfl rfl ?_ rfl
      rw [if_pos h0]
      rfl
    · refine Ev.sn e_X9_oneMore 3 (i' := 44) (ls' := [_, _, _, _, _]) (st' := [_, _, _]) rfl ?_
      refine Ev.clV e_X9_oneMore rfl rfl (as := [_, _]) rfl rfl rfl kl_X9_fitsHim rfl rfl rfl (c_X9_fitsHim _ _ _ hc _ _) rfl ?_
      refine Ev.iret e_X9_oneMore rfl rfl rfl ?_ rfl
      rw [if_neg h0]
      rfl
  | succ k ih =>
    intro p b hp h1 h2 h3
    rw [fo_s (k := k)]
    refine Ev.sn e_X9_oneMore 2 (i' := 21) (ls' := [_, _, _, _, _]) (st' := [_, _]) rfl ?_
    refine Ev.brF (i1 := 37) (i2 := 22) e_X9_oneMore rfl rfl (ge_f (n := 49) rfl (by omega) (by omega)) ?_
    refine Ev.sn e_X9_oneMore 3 (i' := 25) (ls' := [_, _, _, _, _]) (st' := [_, _, _]) rfl ?_
    refine Ev.clV e_X9_oneMore rfl rfl (as := [_, _]) rfl rfl rfl kl_X9_fitsHim rfl rfl rfl (c_X9_fitsHim _ _ _ hc _ _) rfl ?_
    refine Ev.sn e_X9_oneMore 3 (i' := 29) (ls' := [_, _, _, _, _]) (st' := [_, _, _, _]) rfl ?_
    refine Ev.clV e_X9_oneMore rfl rfl (as := [_, _]) rfl rfl rfl kl_X9_fitsHim rfl rfl rfl (c_X9_fitsHim _ _ _ hc _ _) rfl ?_
    refine Ev.br (i1 := 33) (i2 := 31) e_X9_oneMore rfl rfl (fun h0 => ?_) (fun h0 => ?_)
    · refine Ev.sn e_X9_oneMore 4 (i' := 19) (ls' := [_, _, _, _, _]) (st' := []) rfl ?_
      rw [nI_1, show stAM (fun s => THF n (vR n q dn g) z (nI s)) p b = b from if_pos h0]
      exact ih (p + 1) b (by omega) h1 h2 (by omega)
    · refine Ev.sn e_X9_oneMore 5 (i' := 19) (ls' := [_, _, _, _, _]) (st' := []) rfl ?_
      rw [nI_1, show stAM (fun s => THF n (vR n q dn g) z (nI s)) p b = p from if_neg h0]
      exact ih (p + 1) p (by omega) (by omega) (by omega) (by omega)
set_option maxRecDepth 20000 in
set_option maxHeartbeats 200000 in
theorem c_X9_oneMore_s (d : Nat) (g : Nat → Nat → Int32) (tr : Int64) {n q dn : Nat} (hc : RI n q dn g) (z x : Int32) (hg : gSz z x = true) : Ev (d + 3) 168 0 [.ref 0, .int z, .int x, .null, .null] [] (wR g tr) (some (.int (S_best (fun s => THF n (vR n q dn g) z (nI s)) x))) (wR g tr) := by
  have hb := hc.b
  refine Ev.sn e_X9_oneMore 2 (i' := 2) (ls' := [_, _, _, _, _]) (st' := [_, _]) rfl ?_
  refine Ev.put e_X9_oneMore rfl rfl rfl rfl rfl rfl (w1 := wR g tr) rfl ?_
  refine Ev.sn e_X9_oneMore 3 (i' := 6) (ls' := [_, _, _, _, _]) (st' := [_, _, _]) rfl ?_
  refine Ev.clS e_X9_oneMore rfl rfl rfl (as := [_, _, _]) rfl rfl rfl rfl rfl (c_X9_in _ _ _ _ _) rfl ?_
  refine Ev.brF (i1 := 13) (i2 := 8) e_X9_oneMore rfl rfl (bF (by simp only [gSz, Bool.and_eq_true] at hg; simpa using hg.1)) ?_
  refine Ev.sn e_X9_oneMore 3 (i' := 11) (ls' := [_, _, _, _, _]) (st' := [_, _, _]) rfl ?_
  refine Ev.clS e_X9_oneMore rfl rfl rfl (as := [_, _, _]) rfl rfl rfl rfl rfl (c_X9_in _ _ _ _ _) rfl ?_
  refine Ev.brF (i1 := 13) (i2 := 15) e_X9_oneMore rfl rfl ((by rw [r01]; exact bF (by simp only [gSz, Bool.and_eq_true] at hg; exact hg.2))) ?_
  refine Ev.sn e_X9_oneMore 4 (i' := 19) (ls' := [_, _, _, _, _]) (st' := []) rfl ?_
  exact lp_X9_oneMore _ _ _ hc _ _ 47 2 1 rfl (by omega) (by omega) (by omega)
set_option maxRecDepth 20000 in
set_option maxHeartbeats 200000 in
theorem c_X9_oneMore_b (d : Nat) (g : Nat → Nat → Int32) (tr : Int64) {n q dn : Nat} (hc : RI n q dn g) (z x : Int32) (hg : gSz z x = false) : Ev (d + 3) 168 0 [.ref 0, .int z, .int x, .null, .null] [] (wR g tr) (some (.int (-1))) (wR g tr) := by
  have hb := hc.b
  refine Ev.sn e_X9_oneMore 2 (i' := 2) (ls' := [_, _, _, _, _]) (st' := [_, _]) rfl ?_
  refine Ev.put e_X9_oneMore rfl rfl rfl rfl rfl rfl (w1 := wR g tr) rfl ?_
  refine Ev.sn e_X9_oneMore 3 (i' := 6) (ls' := [_, _, _, _, _]) (st' := [_, _, _]) rfl ?_
  refine Ev.clS e_X9_oneMore rfl rfl rfl (as := [_, _, _]) rfl rfl rfl rfl rfl (c_X9_in _ _ _ _ _) rfl ?_
  refine Ev.brB (i1 := 13) (i2 := 8) e_X9_oneMore rfl rfl (fun h0 => ?_) (fun h0 => ?_)
  · refine Ev.sn e_X9_oneMore 1 (i' := 14) (ls' := [_, _, _, _, _]) (st' := [_]) rfl ?_
    refine Ev.iret e_X9_oneMore rfl rfl rfl ?_ rfl
    rfl
  · refine Ev.sn e_X9_oneMore 3 (i' := 11) (ls' := [_, _, _, _, _]) (st' := [_, _, _]) rfl ?_
    refine Ev.clS e_X9_oneMore rfl rfl rfl (as := [_, _, _]) rfl rfl rfl rfl rfl (c_X9_in _ _ _ _ _) rfl ?_
    refine Ev.brB (i1 := 13) (i2 := 15) e_X9_oneMore rfl rfl (fun h1 => ?_) (fun h1 => ?_)
    · refine Ev.sn e_X9_oneMore 1 (i' := 14) (ls' := [_, _, _, _, _]) (st' := [_]) rfl ?_
      refine Ev.iret e_X9_oneMore rfl rfl rfl ?_ rfl
      rfl
    · exfalso
      rw [r01] at h1
      rw [show gSz z x = true by simp only [gSz, Bool.and_eq_true]; exact ⟨by simpa using h0, h1⟩] at hg
      cases hg
end
section
/-! the reference: rates, what is done -/
theorem ONE_bc : ∀ m, m < 64 → ONE (nI m) = bcI (nI m) := by decide +kernel
theorem ONE_of {x : Int32} (h : ∃ m, m < 64 ∧ x = nI m) : ONE x = bcI x := by
  obtain ⟨m, h1, rfl⟩ := h
  exact ONE_bc m h1
set_option maxRecDepth 20000 in
set_option maxHeartbeats 200000 in
theorem c_X9_rate_0 (d : Nat) (g : Nat → Nat → Int32) (tr : Int64) {n q dn : Nat} (hc : RI n q dn g) {j : Nat} (hj : j < n) : Ev (d + 4) 179 0 [.ref 0, .int 0, .int (nI j), .null, .null, .null] [] (wR g tr) (some (.int ((vR n q dn g) 2 j))) (wR g (tr + 1)) := by
  have hb := hc.b
  have hv2 : (vR n q dn g) 2 j = g 3 (4 * j + 2) := cut_lt (f := fun t => g 3 (4 * t + 2)) hj
  have hv1 : (vR n q dn g) 1 j = g 7 (6 + j) := cut_lt (f := fun t => g 7 (6 + t)) hj
  have hv3 : (vR n q dn g) 3 j = g 3 (4 * j + 3) := cut_lt (f := fun t => g 3 (4 * t + 3)) hj
  refine Ev.sn e_X9_rate 2 (i' := 2) (ls' := [_, _, _, _, _, _]) (st' := [_, _]) rfl ?_
  refine Ev.put e_X9_rate rfl rfl rfl rfl rfl rfl (w1 := wR g tr) rfl ?_
  refine Ev.sn e_X9_rate 3 (i' := 6) (ls' := [_, _, _, _, _, _]) (st' := [_, _, _]) rfl ?_
  refine Ev.clS e_X9_rate rfl rfl rfl (as := [_, _, _]) rfl rfl rfl rfl rfl (c_X9_in _ _ _ _ _) rfl ?_
  refine Ev.brF (i1 := 12) (i2 := 8) e_X9_rate rfl rfl ((by decide)) ?_
  refine Ev.sn e_X9_rate 2 (i' := 10) (ls' := [_, _, _, _, _, _]) (st' := [_, _]) rfl ?_
  refine Ev.clV e_X9_rate rfl rfl (as := [_]) rfl rfl rfl kl_X9_isThingThere rfl rfl rfl (c_X9_isThingThere _ _ _ hc _) rfl ?_
  refine Ev.brF (i1 := 12) (i2 := 14) e_X9_rate rfl rfl (bF (g_ok hj (by omega))) ?_
  refine Ev.sn e_X9_rate 7 (i' := 21) (ls' := [_, _, _, _, _, _]) (st' := [_, _]) rfl ?_
  refine Ev.ialdE e_X9_rate rfl rfl rfl rfl (ixm 4 2 j) (by omega) ?_
  refine Ev.sn e_X9_rate 7 (i' := 29) (ls' := [_, _, _, _, _, _]) (st' := [_, _, _]) rfl ?_
  refine Ev.ialdE e_X9_rate rfl rfl rfl rfl (nI_add 6 j) (by omega) ?_
  refine Ev.sn e_X9_rate 10 (i' := 40) (ls' := [_, _, _, _, _, _]) (st' := [_, _, _]) rfl ?_
  refine Ev.ialdE e_X9_rate rfl rfl rfl rfl (ixm 4 3 j) (by omega) ?_
  refine Ev.sn e_X9_rate 6 (i' := 47) (ls' := [_, _, _, _, _, _]) (st' := [_, _, _]) rfl ?_
  refine Ev.brT (i1 := 48) (i2 := 50) e_X9_rate rfl rfl ((by decide)) ?_
  refine Ev.sn e_X9_rate 3 (i' := 72) (ls' := [_, _, _, _, _, _]) (st' := [_, _]) rfl ?_
  refine Ev.put e_X9_rate rfl rfl rfl rfl rfl rfl (w1 := wR g (tr + 1)) rfl ?_
  refine Ev.sn e_X9_rate 1 (i' := 74) (ls' := [_, _, _, _, _, _]) (st' := [_]) rfl ?_
  refine Ev.brT (i1 := 75) (i2 := 77) e_X9_rate rfl rfl ((by decide)) ?_
  refine Ev.sn e_X9_rate 2 (i' := 107) (ls' := [_, _, _, _, _, _]) (st' := [_]) rfl ?_
  refine Ev.iret e_X9_rate rfl rfl rfl ?_ rfl
  simp only [hv1, hv2, hv3]
set_option maxRecDepth 20000 in
set_option maxHeartbeats 200000 in
theorem c_X9_rate_1 (d : Nat) (g : Nat → Nat → Int32) (tr : Int64) {n q dn : Nat} (hc : RI n q dn g) {j : Nat} (hj : j < n) : Ev (d + 4) 179 0 [.ref 0, .int 1, .int (nI j), .null, .null, .null] [] (wR g tr) (some (.int ((vR n q dn g) 2 j + (vR n q dn g) 1 j))) (wR g (tr + 11)) := by
  have hb := hc.b
  have hv2 : (vR n q dn g) 2 j = g 3 (4 * j + 2) := cut_lt (f := fun t => g 3 (4 * t + 2)) hj
  have hv1 : (vR n q dn g) 1 j = g 7 (6 + j) := cut_lt (f := fun t => g 7 (6 + t)) hj
  have hv3 : (vR n q dn g) 3 j = g 3 (4 * j + 3) := cut_lt (f := fun t => g 3 (4 * t + 3)) hj
  refine Ev.sn e_X9_rate 2 (i' := 2) (ls' := [_, _, _, _, _, _]) (st' := [_, _]) rfl ?_
  refine Ev.put e_X9_rate rfl rfl rfl rfl rfl rfl (w1 := wR g tr) rfl ?_
  refine Ev.sn e_X9_rate 3 (i' := 6) (ls' := [_, _, _, _, _, _]) (st' := [_, _, _]) rfl ?_
  refine Ev.clS e_X9_rate rfl rfl rfl (as := [_, _, _]) rfl rfl rfl rfl rfl (c_X9_in _ _ _ _ _) rfl ?_
  refine Ev.brF (i1 := 12) (i2 := 8) e_X9_rate rfl rfl ((by decide)) ?_
  refine Ev.sn e_X9_rate 2 (i' := 10) (ls' := [_, _, _, _, _, _]) (st' := [_, _]) rfl ?_
  refine Ev.clV e_X9_rate rfl rfl (as := [_]) rfl rfl rfl kl_X9_isThingThere rfl rfl rfl (c_X9_isThingThere _ _ _ hc _) rfl ?_
  refine Ev.brF (i1 := 12) (i2 := 14) e_X9_rate rfl rfl (bF (g_ok hj (by omega))) ?_
  refine Ev.sn e_X9_rate 7 (i' := 21) (ls' := [_, _, _, _, _, _]) (st' := [_, _]) rfl ?_
  refine Ev.ialdE e_X9_rate rfl rfl rfl rfl (ixm 4 2 j) (by omega) ?_
  refine Ev.sn e_X9_rate 7 (i' := 29) (ls' := [_, _, _, _, _, _]) (st' := [_, _, _]) rfl ?_
  refine Ev.ialdE e_X9_rate rfl rfl rfl rfl (nI_add 6 j) (by omega) ?_
  refine Ev.sn e_X9_rate 10 (i' := 40) (ls' := [_, _, _, _, _, _]) (st' := [_, _, _]) rfl ?_
  refine Ev.ialdE e_X9_rate rfl rfl rfl rfl (ixm 4 3 j) (by omega) ?_
  refine Ev.sn e_X9_rate 6 (i' := 47) (ls' := [_, _, _, _, _, _]) (st' := [_, _, _]) rfl ?_
  refine Ev.brF (i1 := 48) (i2 := 50) e_X9_rate rfl rfl ((by decide)) ?_
  refine Ev.sn e_X9_rate 2 (i' := 52) (ls' := [_, _, _, _, _, _]) (st' := [_, _, _, _]) rfl ?_
  refine Ev.brT (i1 := 53) (i2 := 55) e_X9_rate rfl rfl ((by decide)) ?_
  refine Ev.sn e_X9_rate 3 (i' := 72) (ls' := [_, _, _, _, _, _]) (st' := [_, _]) rfl ?_
  refine Ev.put e_X9_rate rfl rfl rfl rfl rfl rfl (w1 := wR g (tr + 11)) rfl ?_
  refine Ev.sn e_X9_rate 1 (i' := 74) (ls' := [_, _, _, _, _, _]) (st' := [_]) rfl ?_
  refine Ev.brF (i1 := 75) (i2 := 77) e_X9_rate rfl rfl ((by decide)) ?_
  refine Ev.sn e_X9_rate 2 (i' := 79) (ls' := [_, _, _, _, _, _]) (st' := [_, _]) rfl ?_
  refine Ev.brT (i1 := 80) (i2 := 82) e_X9_rate rfl rfl ((by decide)) ?_
  refine Ev.sn e_X9_rate 2 (i' := 107) (ls' := [_, _, _, _, _, _]) (st' := [_]) rfl ?_
  refine Ev.iret e_X9_rate rfl rfl rfl ?_ rfl
  simp only [hv1, hv2, hv3]
set_option maxRecDepth 20000 in
set_option maxHeartbeats 200000 in
theorem c_X9_rate_2 (d : Nat) (g : Nat → Nat → Int32) (tr : Int64) {n q dn : Nat} (hc : RI n q dn g) {j : Nat} (hj : j < n) : Ev (d + 4) 179 0 [.ref 0, .int 2, .int (nI j), .null, .null, .null] [] (wR g tr) (some (.int ((vR n q dn g) 2 j - (vR n q dn g) 3 j))) (wR g (tr + 101)) := by
  have hb := hc.b
  have hv2 : (vR n q dn g) 2 j = g 3 (4 * j + 2) := cut_lt (f := fun t => g 3 (4 * t + 2)) hj
  have hv1 : (vR n q dn g) 1 j = g 7 (6 + j) := cut_lt (f := fun t => g 7 (6 + t)) hj
  have hv3 : (vR n q dn g) 3 j = g 3 (4 * j + 3) := cut_lt (f := fun t => g 3 (4 * t + 3)) hj
  refine Ev.sn e_X9_rate 2 (i' := 2) (ls' := [_, _, _, _, _, _]) (st' := [_, _]) rfl ?_
  refine Ev.put e_X9_rate rfl rfl rfl rfl rfl rfl (w1 := wR g tr) rfl ?_
  refine Ev.sn e_X9_rate 3 (i' := 6) (ls' := [_, _, _, _, _, _]) (st' := [_, _, _]) rfl ?_
  refine Ev.clS e_X9_rate rfl rfl rfl (as := [_, _, _]) rfl rfl rfl rfl rfl (c_X9_in _ _ _ _ _) rfl ?_
  refine Ev.brF (i1 := 12) (i2 := 8) e_X9_rate rfl rfl ((by decide)) ?_
  refine Ev.sn e_X9_rate 2 (i' := 10) (ls' := [_, _, _, _, _, _]) (st' := [_, _]) rfl ?_
  refine Ev.clV e_X9_rate rfl rfl (as := [_]) rfl rfl rfl kl_X9_isThingThere rfl rfl rfl (c_X9_isThingThere _ _ _ hc _) rfl ?_
  refine Ev.brF (i1 := 12) (i2 := 14) e_X9_rate rfl rfl (bF (g_ok hj (by omega))) ?_
  refine Ev.sn e_X9_rate 7 (i' := 21) (ls' := [_, _, _, _, _, _]) (st' := [_, _]) rfl ?_
  refine Ev.ialdE e_X9_rate rfl rfl rfl rfl (ixm 4 2 j) (by omega) ?_
  refine Ev.sn e_X9_rate 7 (i' := 29) (ls' := [_, _, _, _, _, _]) (st' := [_, _, _]) rfl ?_
  refine Ev.ialdE e_X9_rate rfl rfl rfl rfl (nI_add 6 j) (by omega) ?_
  refine Ev.sn e_X9_rate 10 (i' := 40) (ls' := [_, _, _, _, _, _]) (st' := [_, _, _]) rfl ?_
  refine Ev.ialdE e_X9_rate rfl rfl rfl rfl (ixm 4 3 j) (by omega) ?_
  refine Ev.sn e_X9_rate 6 (i' := 47) (ls' := [_, _, _, _, _, _]) (st' := [_, _, _]) rfl ?_
  refine Ev.brF (i1 := 48) (i2 := 50) e_X9_rate rfl rfl ((by decide)) ?_
  refine Ev.sn e_X9_rate 2 (i' := 52) (ls' := [_, _, _, _, _, _]) (st' := [_, _, _, _]) rfl ?_
  refine Ev.brF (i1 := 53) (i2 := 55) e_X9_rate rfl rfl ((by decide)) ?_
  refine Ev.sn e_X9_rate 2 (i' := 57) (ls' := [_, _, _, _, _, _]) (st' := [_, _, _, _]) rfl ?_
  refine Ev.brT (i1 := 58) (i2 := 60) e_X9_rate rfl rfl ((by decide)) ?_
  refine Ev.sn e_X9_rate 3 (i' := 72) (ls' := [_, _, _, _, _, _]) (st' := [_, _]) rfl ?_
  refine Ev.put e_X9_rate rfl rfl rfl rfl rfl rfl (w1 := wR g (tr + 101)) rfl ?_
  refine Ev.sn e_X9_rate 1 (i' := 74) (ls' := [_, _, _, _, _, _]) (st' := [_]) rfl ?_
  refine Ev.brF (i1 := 75) (i2 := 77) e_X9_rate rfl rfl ((by decide)) ?_
  refine Ev.sn e_X9_rate 2 (i' := 79) (ls' := [_, _, _, _, _, _]) (st' := [_, _]) rfl ?_
  refine Ev.brF (i1 := 80) (i2 := 82) e_X9_rate rfl rfl ((by decide)) ?_
  refine Ev.sn e_X9_rate 2 (i' := 84) (ls' := [_, _, _, _, _, _]) (st' := [_, _]) rfl ?_
  refine Ev.brT (i1 := 85) (i2 := 87) e_X9_rate rfl rfl ((by decide)) ?_
  refine Ev.sn e_X9_rate 2 (i' := 107) (ls' := [_, _, _, _, _, _]) (st' := [_]) rfl ?_
  refine Ev.iret e_X9_rate rfl rfl rfl ?_ rfl
  simp only [hv1, hv2, hv3]
set_option maxRecDepth 20000 in
set_option maxHeartbeats 200000 in
theorem c_X9_rate_3 (d : Nat) (g : Nat → Nat → Int32) (tr : Int64) {n q dn : Nat} (hc : RI n q dn g) {j : Nat} (hj : j < n) : Ev (d + 4) 179 0 [.ref 0, .int 3, .int (nI j), .null, .null, .null] [] (wR g tr) (some (.int (2 * ((vR n q dn g) 2 j + (vR n q dn g) 1 j)))) (wR g (tr + 1011)) := by
  have hb := hc.b
  have hv2 : (vR n q dn g) 2 j = g 3 (4 * j + 2) := cut_lt (f := fun t => g 3 (4 * t + 2)) hj
  have hv1 : (vR n q dn g) 1 j = g 7 (6 + j) := cut_lt (f := fun t => g 7 (6 + t)) hj
  have hv3 : (vR n q dn g) 3 j = g 3 (4 * j + 3) := cut_lt (f := fun t => g 3 (4 * t + 3)) hj
  refine Ev.sn e_X9_rate 2 (i' := 2) (ls' := [_, _, _, _, _, _]) (st' := [_, _]) rfl ?_
  refine Ev.put e_X9_rate rfl rfl rfl rfl rfl rfl (w1 := wR g tr) rfl ?_
  refine Ev.sn e_X9_rate 3 (i' := 6) (ls' := [_, _, _, _, _, _]) (st' := [_, _, _]) rfl ?_
  refine Ev.clS e_X9_rate rfl rfl rfl (as := [_, _, _]) rfl rfl rfl rfl rfl (c_X9_in _ _ _ _ _) rfl ?_
  refine Ev.brF (i1 := 12) (i2 := 8) e_X9_rate rfl rfl ((by decide)) ?_
  refine Ev.sn e_X9_rate 2 (i' := 10) (ls' := [_, _, _, _, _, _]) (st' := [_, _]) rfl ?_
  refine Ev.clV e_X9_rate rfl rfl (as := [_]) rfl rfl rfl kl_X9_isThingThere rfl rfl rfl (c_X9_isThingThere _ _ _ hc _) rfl ?_
  refine Ev.brF (i1 := 12) (i2 := 14) e_X9_rate rfl rfl (bF (g_ok hj (by omega))) ?_
  refine Ev.sn e_X9_rate 7 (i' := 21) (ls' := [_, _, _, _, _, _]) (st' := [_, _]) rfl ?_
  refine Ev.ialdE e_X9_rate rfl rfl rfl rfl (ixm 4 2 j) (by omega) ?_
  refine Ev.sn e_X9_rate 7 (i' := 29) (ls' := [_, _, _, _, _, _]) (st' := [_, _, _]) rfl ?_
  refine Ev.ialdE e_X9_rate rfl rfl rfl rfl (nI_add 6 j) (by omega) ?_
  refine Ev.sn e_X9_rate 10 (i' := 40) (ls' := [_, _, _, _, _, _]) (st' := [_, _, _]) rfl ?_
  refine Ev.ialdE e_X9_rate rfl rfl rfl rfl (ixm 4 3 j) (by omega) ?_
  refine Ev.sn e_X9_rate 6 (i' := 47) (ls' := [_, _, _, _, _, _]) (st' := [_, _, _]) rfl ?_
  refine Ev.brF (i1 := 48) (i2 := 50) e_X9_rate rfl rfl ((by decide)) ?_
  refine Ev.sn e_X9_rate 2 (i' := 52) (ls' := [_, _, _, _, _, _]) (st' := [_, _, _, _]) rfl ?_
  refine Ev.brF (i1 := 53) (i2 := 55) e_X9_rate rfl rfl ((by decide)) ?_
  refine Ev.sn e_X9_rate 2 (i' := 57) (ls' := [_, _, _, _, _, _]) (st' := [_, _, _, _]) rfl ?_
  refine Ev.brF (i1 := 58) (i2 := 60) e_X9_rate rfl rfl ((by decide)) ?_
  refine Ev.sn e_X9_rate 2 (i' := 62) (ls' := [_, _, _, _, _, _]) (st' := [_, _, _, _]) rfl ?_
  refine Ev.brT (i1 := 63) (i2 := 65) e_X9_rate rfl rfl ((by decide)) ?_
  refine Ev.sn e_X9_rate 3 (i' := 72) (ls' := [_, _, _, _, _, _]) (st' := [_, _]) rfl ?_
  refine Ev.put e_X9_rate rfl rfl rfl rfl rfl rfl (w1 := wR g (tr + 1011)) rfl ?_
  refine Ev.sn e_X9_rate 1 (i' := 74) (ls' := [_, _, _, _, _, _]) (st' := [_]) rfl ?_
  refine Ev.brF (i1 := 75) (i2 := 77) e_X9_rate rfl rfl ((by decide)) ?_
  refine Ev.sn e_X9_rate 2 (i' := 79) (ls' := [_, _, _, _, _, _]) (st' := [_, _]) rfl ?_
  refine Ev.brF (i1 := 80) (i2 := 82) e_X9_rate rfl rfl ((by decide)) ?_
  refine Ev.sn e_X9_rate 2 (i' := 84) (ls' := [_, _, _, _, _, _]) (st' := [_, _]) rfl ?_
  refine Ev.brF (i1 := 85) (i2 := 87) e_X9_rate rfl rfl ((by decide)) ?_
  refine Ev.sn e_X9_rate 2 (i' := 89) (ls' := [_, _, _, _, _, _]) (st' := [_, _]) rfl ?_
  refine Ev.brT (i1 := 90) (i2 := 94) e_X9_rate rfl rfl ((by decide)) ?_
  refine Ev.sn e_X9_rate 4 (i' := 107) (ls' := [_, _, _, _, _, _]) (st' := [_]) rfl ?_
  refine Ev.iret e_X9_rate rfl rfl rfl ?_ rfl
  simp only [hv1, hv2, hv3]
set_option maxRecDepth 20000 in
set_option maxHeartbeats 200000 in
theorem c_X9_rate_4 (d : Nat) (g : Nat → Nat → Int32) (tr : Int64) {n q dn : Nat} (hc : RI n q dn g) {j : Nat} (hj : j < n) : Ev (d + 4) 179 0 [.ref 0, .int 4, .int (nI j), .null, .null, .null] [] (wR g tr) (some (.int ((vR n q dn g) 2 j - (vR n q dn g) 3 j + nI j))) (wR g (tr + 10101)) := by
  have hb := hc.b
  have hv2 : (vR n q dn g) 2 j = g 3 (4 * j + 2) := cut_lt (f := fun t => g 3 (4 * t + 2)) hj
  have hv1 : (vR n q dn g) 1 j = g 7 (6 + j) := cut_lt (f := fun t => g 7 (6 + t)) hj
  have hv3 : (vR n q dn g) 3 j = g 3 (4 * j + 3) := cut_lt (f := fun t => g 3 (4 * t + 3)) hj
  refine Ev.sn e_X9_rate 2 (i' := 2) (ls' := [_, _, _, _, _, _]) (st' := [_, _]) rfl ?_
  refine Ev.put e_X9_rate rfl rfl rfl rfl rfl rfl (w1 := wR g tr) rfl ?_
  refine Ev.sn e_X9_rate 3 (i' := 6) (ls' := [_, _, _, _, _, _]) (st' := [_, _, _]) rfl ?_
  refine Ev.clS e_X9_rate rfl rfl rfl (as := [_, _, _]) rfl rfl rfl rfl rfl (c_X9_in _ _ _ _ _) rfl ?_
  refine Ev.brF (i1 := 12) (i2 := 8) e_X9_rate rfl rfl ((by decide)) ?_
  refine Ev.sn e_X9_rate 2 (i' := 10) (ls' := [_, _, _, _, _, _]) (st' := [_, _]) rfl ?_
  refine Ev.clV e_X9_rate rfl rfl (as := [_]) rfl rfl rfl kl_X9_isThingThere rfl rfl rfl (c_X9_isThingThere _ _ _ hc _) rfl ?_
  refine Ev.brF (i1 := 12) (i2 := 14) e_X9_rate rfl rfl (bF (g_ok hj (by omega))) ?_
  refine Ev.sn e_X9_rate 7 (i' := 21) (ls' := [_, _, _, _, _, _]) (st' := [_, _]) rfl ?_
  refine Ev.ialdE e_X9_rate rfl rfl rfl rfl (ixm 4 2 j) (by omega) ?_
  refine Ev.sn e_X9_rate 7 (i' := 29) (ls' := [_, _, _, _, _, _]) (st' := [_, _, _]) rfl ?_
  refine Ev.ialdE e_X9_rate rfl rfl rfl rfl (nI_add 6 j) (by omega) ?_
  refine Ev.sn e_X9_rate 10 (i' := 40) (ls' := [_, _, _, _, _, _]) (st' := [_, _, _]) rfl ?_
  refine Ev.ialdE e_X9_rate rfl rfl rfl rfl (ixm 4 3 j) (by omega) ?_
  refine Ev.sn e_X9_rate 6 (i' := 47) (ls' := [_, _, _, _, _, _]) (st' := [_, _, _]) rfl ?_
  refine Ev.brF (i1 := 48) (i2 := 50) e_X9_rate rfl rfl ((by decide)) ?_
  refine Ev.sn e_X9_rate 2 (i' := 52) (ls' := [_, _, _, _, _, _]) (st' := [_, _, _, _]) rfl ?_
  refine Ev.brF (i1 := 53) (i2 := 55) e_X9_rate rfl rfl ((by decide)) ?_
  refine Ev.sn e_X9_rate 2 (i' := 57) (ls' := [_, _, _, _, _, _]) (st' := [_, _, _, _]) rfl ?_
  refine Ev.brF (i1 := 58) (i2 := 60) e_X9_rate rfl rfl ((by decide)) ?_
  refine Ev.sn e_X9_rate 2 (i' := 62) (ls' := [_, _, _, _, _, _]) (st' := [_, _, _, _]) rfl ?_
  refine Ev.brF (i1 := 63) (i2 := 65) e_X9_rate rfl rfl ((by decide)) ?_
  refine Ev.sn e_X9_rate 2 (i' := 67) (ls' := [_, _, _, _, _, _]) (st' := [_, _, _, _]) rfl ?_
  refine Ev.brT (i1 := 68) (i2 := 70) e_X9_rate rfl rfl ((by decide)) ?_
  refine Ev.sn e_X9_rate 3 (i' := 72) (ls' := [_, _, _, _, _, _]) (st' := [_, _]) rfl ?_
  refine Ev.put e_X9_rate rfl rfl rfl rfl rfl rfl (w1 := wR g (tr + 10101)) rfl ?_
  refine Ev.sn e_X9_rate 1 (i' := 74) (ls' := [_, _, _, _, _, _]) (st' := [_]) rfl ?_
  refine Ev.brF (i1 := 75) (i2 := 77) e_X9_rate rfl rfl ((by decide)) ?_
  refine Ev.sn e_X9_rate 2 (i' := 79) (ls' := [_, _, _, _, _, _]) (st' := [_, _]) rfl ?_
  refine Ev.brF (i1 := 80) (i2 := 82) e_X9_rate rfl rfl ((by decide)) ?_
  refine Ev.sn e_X9_rate 2 (i' := 84) (ls' := [_, _, _, _, _, _]) (st' := [_, _]) rfl ?_
  refine Ev.brF (i1 := 85) (i2 := 87) e_X9_rate rfl rfl ((by decide)) ?_
  refine Ev.sn e_X9_rate 2 (i' := 89) (ls' := [_, _, _, _, _, _]) (st' := [_, _]) rfl ?_
  refine Ev.brF (i1 := 90) (i2 := 94) e_X9_rate rfl rfl ((by decide)) ?_
  refine Ev.sn e_X9_rate 2 (i' := 96) (ls' := [_, _, _, _, _, _]) (st' := [_, _]) rfl ?_
  refine Ev.brT (i1 := 97) (i2 := 101) e_X9_rate rfl rfl ((by decide)) ?_
  refine Ev.sn e_X9_rate 4 (i' := 107) (ls' := [_, _, _, _, _, _]) (st' := [_]) rfl ?_
  refine Ev.iret e_X9_rate rfl rfl rfl ?_ rfl
  simp only [hv1, hv2, hv3]
set_option maxRecDepth 20000 in
set_option maxHeartbeats 200000 in
theorem c_X9_rate_5 (d : Nat) (g : Nat → Nat → Int32) (tr : Int64) {n q dn : Nat} (hc : RI n q dn g) {j : Nat} (hj : j < n) : Ev (d + 4) 179 0 [.ref 0, .int 5, .int (nI j), .null, .null, .null] [] (wR g tr) (some (.int ((vR n q dn g) 2 j + bcI (PIF q (vR n q dn g) j)))) (wR g (tr + 100001)) := by
  have hb := hc.b
  have hv2 : (vR n q dn g) 2 j = g 3 (4 * j + 2) := cut_lt (f := fun t => g 3 (4 * t + 2)) hj
  have hv1 : (vR n q dn g) 1 j = g 7 (6 + j) := cut_lt (f := fun t => g 7 (6 + t)) hj
  have hv3 : (vR n q dn g) 3 j = g 3 (4 * j + 3) := cut_lt (f := fun t => g 3 (4 * t + 3)) hj
  refine Ev.sn e_X9_rate 2 (i' := 2) (ls' := [_, _, _, _, _, _]) (st' := [_, _]) rfl ?_
  refine Ev.put e_X9_rate rfl rfl rfl rfl rfl rfl (w1 := wR g tr) rfl ?_
  refine Ev.sn e_X9_rate 3 (i' := 6) (ls' := [_, _, _, _, _, _]) (st' := [_, _, _]) rfl ?_
  refine Ev.clS e_X9_rate rfl rfl rfl (as := [_, _, _]) rfl rfl rfl rfl rfl (c_X9_in _ _ _ _ _) rfl ?_
  refine Ev.brF (i1 := 12) (i2 := 8) e_X9_rate rfl rfl ((by decide)) ?_
  refine Ev.sn e_X9_rate 2 (i' := 10) (ls' := [_, _, _, _, _, _]) (st' := [_, _]) rfl ?_
  refine Ev.clV e_X9_rate rfl rfl (as := [_]) rfl rfl rfl kl_X9_isThingThere rfl rfl rfl (c_X9_isThingThere _ _ _ hc _) rfl ?_
  refine Ev.brF (i1 := 12) (i2 := 14) e_X9_rate rfl rfl (bF (g_ok hj (by omega))) ?_
  refine Ev.sn e_X9_rate 7 (i' := 21) (ls' := [_, _, _, _, _, _]) (st' := [_, _]) rfl ?_
  refine Ev.ialdE e_X9_rate rfl rfl rfl rfl (ixm 4 2 j) (by omega) ?_
  refine Ev.sn e_X9_rate 7 (i' := 29) (ls' := [_, _, _, _, _, _]) (st' := [_, _, _]) rfl ?_
  refine Ev.ialdE e_X9_rate rfl rfl rfl rfl (nI_add 6 j) (by omega) ?_
  refine Ev.sn e_X9_rate 10 (i' := 40) (ls' := [_, _, _, _, _, _]) (st' := [_, _, _]) rfl ?_
  refine Ev.ialdE e_X9_rate rfl rfl rfl rfl (ixm 4 3 j) (by omega) ?_
  refine Ev.sn e_X9_rate 6 (i' := 47) (ls' := [_, _, _, _, _, _]) (st' := [_, _, _]) rfl ?_
  refine Ev.brF (i1 := 48) (i2 := 50) e_X9_rate rfl rfl ((by decide)) ?_
  refine Ev.sn e_X9_rate 2 (i' := 52) (ls' := [_, _, _, _, _, _]) (st' := [_, _, _, _]) rfl ?_
  refine Ev.brF (i1 := 53) (i2 := 55) e_X9_rate rfl rfl ((by decide)) ?_
  refine Ev.sn e_X9_rate 2 (i' := 57) (ls' := [_, _, _, _, _, _]) (st' := [_, _, _, _]) rfl ?_
  refine Ev.brF (i1 := 58) (i2 := 60) e_X9_rate rfl rfl ((by decide)) ?_
  refine Ev.sn e_X9_rate 2 (i' := 62) (ls' := [_, _, _, _, _, _]) (st' := [_, _, _, _]) rfl ?_
  refine Ev.brF (i1 := 63) (i2 := 65) e_X9_rate rfl rfl ((by decide)) ?_
  refine Ev.sn e_X9_rate 2 (i' := 67) (ls' := [_, _, _, _, _, _]) (st' := [_, _, _, _]) rfl ?_
  refine Ev.brF (i1 := 68) (i2 := 70) e_X9_rate rfl rfl ((by decide)) ?_
  refine Ev.sn e_X9_rate 2 (i' := 72) (ls' := [_, _, _, _, _, _]) (st' := [_, _]) rfl ?_
  refine Ev.put e_X9_rate rfl rfl rfl rfl rfl rfl (w1 := wR g (tr + 100001)) rfl ?_
  refine Ev.sn e_X9_rate 1 (i' := 74) (ls' := [_, _, _, _, _, _]) (st' := [_]) rfl ?_
  refine Ev.brF (i1 := 75) (i2 := 77) e_X9_rate rfl rfl ((by decide)) ?_
  refine Ev.sn e_X9_rate 2 (i' := 79) (ls' := [_, _, _, _, _, _]) (st' := [_, _]) rfl ?_
  refine Ev.brF (i1 := 80) (i2 := 82) e_X9_rate rfl rfl ((by decide)) ?_
  refine Ev.sn e_X9_rate 2 (i' := 84) (ls' := [_, _, _, _, _, _]) (st' := [_, _]) rfl ?_
  refine Ev.brF (i1 := 85) (i2 := 87) e_X9_rate rfl rfl ((by decide)) ?_
  refine Ev.sn e_X9_rate 2 (i' := 89) (ls' := [_, _, _, _, _, _]) (st' := [_, _]) rfl ?_
  refine Ev.brF (i1 := 90) (i2 := 94) e_X9_rate rfl rfl ((by decide)) ?_
  refine Ev.sn e_X9_rate 2 (i' := 96) (ls' := [_, _, _, _, _, _]) (st' := [_, _]) rfl ?_
  refine Ev.brF (i1 := 97) (i2 := 101) e_X9_rate rfl rfl ((by decide)) ?_
  refine Ev.sn e_X9_rate 3 (i' := 104) (ls' := [_, _, _, _, _, _]) (st' := [_, _, _]) rfl ?_
  refine Ev.clV e_X9_rate rfl rfl (as := [_]) rfl rfl rfl kl_X9_fitsOf rfl rfl rfl (c_X9_fitsOf _ _ _ hc hj) rfl ?_
  refine Ev.clS e_X9_rate rfl rfl rfl (as := [_]) rfl rfl rfl rfl rfl (c_X9_ones _ _ _) rfl ?_
  refine Ev.sn e_X9_rate 1 (i' := 107) (ls' := [_, _, _, _, _, _]) (st' := [_]) rfl ?_
  refine Ev.iret e_X9_rate rfl rfl rfl ?_ rfl
  rw [hv2, ← ONE_of (PIF_m (by omega) (vR n q dn g) j)]
set_option maxRecDepth 20000 in
set_option maxHeartbeats 200000 in
theorem c_X9_rate (d : Nat) (g : Nat → Nat → Int32) (tr : Int64) {n q dn : Nat} (hc : RI n q dn g) (x t : Int32) : Ev (d + 4) 179 0 [.ref 0, .int x, .int t, .null, .null, .null] [] (wR g tr) (some (.int (S_rate n q (vR n q dn g) x t))) (wR g (S_trc n tr x t)) := by
  have hb := hc.b
  by_cases hg : (decide (0 ≤ t) && decide (t < nI n)) = true
  · obtain ⟨j, hj, rfl⟩ := ixB (n := n) (by omega) hg
    have hcl : (nI j).toNatClampNeg = j := nI_clamp (by omega)
    by_cases x0 : x = 0
    · subst x0
      rw [show S_rate n q (vR n q dn g) 0 (nI j) = (vR n q dn g) 2 j by simp [S_rate, hg, hcl], show S_trc n tr 0 (nI j) = tr + 1 by simp [S_trc, hg]]
      exact c_X9_rate_0 _ _ _ hc hj
    by_cases x1 : x = 1
    · subst x1
      rw [show S_rate n q (vR n q dn g) 1 (nI j) = (vR n q dn g) 2 j + (vR n q dn g) 1 j by simp [S_rate, hg, hcl], show S_trc n tr 1 (nI j) = tr + 11 by simp [S_trc, hg]]
      exact c_X9_rate_1 _ _ _ hc hj
    by_cases x2 : x = 2
    · subst x2
      rw [show S_rate n q (vR n q dn g) 2 (nI j) = (vR n q dn g) 2 j - (vR n q dn g) 3 j by simp [S_rate, hg, hcl], show S_trc n tr 2 (nI j) = tr + 101 by simp [S_trc, hg]]
      exact c_X9_rate_2 _ _ _ hc hj
    by_cases x3 : x = 3
    · subst x3
      rw [show S_rate n q (vR n q dn g) 3 (nI j) = 2 * ((vR n q dn g) 2 j + (vR n q dn g) 1 j) by simp [S_rate, hg, hcl], show S_trc n tr 3 (nI j) = tr + 1011 by simp [S_trc, hg]]
      exact c_X9_rate_3 _ _ _ hc hj
    by_cases x4 : x = 4
    · subst x4
      rw [show S_rate n q (vR n q dn g) 4 (nI j) = (vR n q dn g) 2 j - (vR n q dn g) 3 j + nI j by simp [S_rate, hg, hcl], show S_trc n tr 4 (nI j) = tr + 10101 by simp [S_trc, hg]]
      exact c_X9_rate_4 _ _ _ hc hj
    by_cases x5 : x = 5
    · subst x5
      rw [show S_rate n q (vR n q dn g) 5 (nI j) = (vR n q dn g) 2 j + bcI (PIF q (vR n q dn g) j) by simp [S_rate, hg, hcl], show S_trc n tr 5 (nI j) = tr + 100001 by simp [S_trc, hg]]
      exact c_X9_rate_5 _ _ _ hc hj
    rw [show S_rate n q (vR n q dn g) x (nI j) = -1000000 by simp [S_rate, hg, x0, x1, x2, x3, x4, x5], show S_trc n tr x (nI j) = tr by simp [S_trc, hg, x0, x1, x2, x3, x4, x5]]
    have hx : (decide (0 ≤ x) && decide (x ≤ nI 5)) = false := rngF (by omega) (fun j hj => by
      match j, hj with
      | 0, _ => exact x0
      | 1, _ => exact x1
      | 2, _ => exact x2
      | 3, _ => exact x3
      | 4, _ => exact x4
      | 5, _ => exact x5)
    refine Ev.sn e_X9_rate 2 (i' := 2) (ls' := [_, _, _, _, _, _]) (st' := [_, _]) rfl ?_
    refine Ev.put e_X9_rate rfl rfl rfl rfl rfl rfl (w1 := wR g tr) rfl ?_
    refine Ev.sn e_X9_rate 3 (i' := 6) (ls' := [_, _, _, _, _, _]) (st' := [_, _, _]) rfl ?_
    refine Ev.clS e_X9_rate rfl rfl rfl (as := [_, _, _]) rfl rfl rfl rfl rfl (c_X9_in _ _ _ _ _) rfl ?_
    refine Ev.brT (i1 := 12) (i2 := 8) e_X9_rate rfl rfl (bT hx) ?_
    refine Ev.sn e_X9_rate 1 (i' := 13) (ls' := [_, _, _, _, _, _]) (st' := [_]) rfl ?_
    refine Ev.iret e_X9_rate rfl rfl rfl ?_ rfl
    rfl
  · rw [show S_rate n q (vR n q dn g) x t = -1000000 by simp [S_rate, hg], show S_trc n tr x t = tr by simp [S_trc, hg]]
    have hg2 : (decide (0 ≤ t) && decide (t < nI n)) = false := by simpa using hg
    refine Ev.sn e_X9_rate 2 (i' := 2) (ls' := [_, _, _, _, _, _]) (st' := [_, _]) rfl ?_
    refine Ev.put e_X9_rate rfl rfl rfl rfl rfl rfl (w1 := wR g tr) rfl ?_
    refine Ev.sn e_X9_rate 3 (i' := 6) (ls' := [_, _, _, _, _, _]) (st' := [_, _, _]) rfl ?_
    refine Ev.clS e_X9_rate rfl rfl rfl (as := [_, _, _]) rfl rfl rfl rfl rfl (c_X9_in _ _ _ _ _) rfl ?_
    refine Ev.brB (i1 := 12) (i2 := 8) e_X9_rate rfl rfl (fun h0 => ?_) (fun h0 => ?_)
    · refine Ev.sn e_X9_rate 1 (i' := 13) (ls' := [_, _, _, _, _, _]) (st' := [_]) rfl ?_
      refine Ev.iret e_X9_rate rfl rfl rfl ?_ rfl
      rfl
    · refine Ev.sn e_X9_rate 2 (i' := 10) (ls' := [_, _, _, _, _, _]) (st' := [_, _]) rfl ?_
      refine Ev.clV e_X9_rate rfl rfl (as := [_]) rfl rfl rfl kl_X9_isThingThere rfl rfl rfl (c_X9_isThingThere _ _ _ hc _) rfl ?_
      refine Ev.brT (i1 := 12) (i2 := 14) e_X9_rate rfl rfl (bT hg2) ?_
      refine Ev.sn e_X9_rate 1 (i' := 13) (ls' := [_, _, _, _, _, _]) (st' := [_]) rfl ?_
      refine Ev.iret e_X9_rate rfl rfl rfl ?_ rfl
      rfl
def shF (k p : Nat) (f : Nat → Int32) : Nat → Int32 := fo (fun j f => upd f j (f (j + 17))) k p f
theorem shF_at (k : Nat) : ∀ (p : Nat) (f : Nat → Int32) (i : Nat), shF k p f i = if p ≤ i ∧ i < p + k then f (i + 17) else f i := by
  induction k with
  | zero => intro p f i; rw [if_neg (by omega)]; rfl
  | succ k ih =>
    intro p f i
    show shF k (p + 1) (upd f p (f (p + 17))) i = _
    rw [ih]
    by_cases h : i = p
    · subst h; rw [if_neg (by omega), if_pos (by omega), pk_us]
    · by_cases h2 : p + 1 ≤ i ∧ i < p + 1 + k
      · rw [if_pos h2, if_pos (by omega), pk_un (by omega)]
      · rw [if_neg h2, if_neg (by omega), pk_un h]
def wrF (s : Nat → Int32) (b k p : Nat) (f : Nat → Int32) : Nat → Int32 := fo (fun t f => upd f (b + t) (s t)) k p f
theorem wrF_at {s : Nat → Int32} {b : Nat} (k : Nat) : ∀ (p : Nat) (f : Nat → Int32) (i : Nat), wrF s b k p f i = if b + p ≤ i ∧ i < b + p + k then s (i - b) else f i := by
  induction k with
  | zero => intro p f i; rw [if_neg (by omega)]; rfl
  | succ k ih =>
    intro p f i
    show wrF s b k (p + 1) (upd f (b + p) (s p)) i = _
    rw [ih]
    by_cases h : i = b + p
    · subst h; rw [if_neg (by omega), if_pos (by omega), pk_us, show b + p - b = p by omega]
    · by_cases h2 : b + (p + 1) ≤ i ∧ i < b + (p + 1) + k
      · rw [if_pos h2, if_pos (by omega)]
      · rw [if_neg h2, if_neg (by omega), pk_un h]
/-- what notes does -/
def NOT (g g' : Nat → Nat → Int32) (k : Nat) : Prop := ∃ k', k' < 10 ∧ ((k < 10 ∧ k' = k ∧ ∀ i, i < 17 * k' → g' 10 i = g 10 i) ∨ (k = 10 ∧ k' = 9 ∧ ∀ i, i < 17 * k' → g' 10 i = g 10 (i + 17))) ∧ g' 0 6 = nI (k' + 1) ∧ (∀ t, t < 17 → g' 10 (17 * k' + t) = g 7 t) ∧ (∀ x, x ≠ 0 → x ≠ 10 → g' x = g x) ∧ (∀ i, i ≠ 6 → g' 0 i = g 0 i)
set_option maxRecDepth 20000 in
set_option maxHeartbeats 200000 in
theorem lt_X9_notes (d : Nat) (g : Nat → Nat → Int32) (tr : Int64) {k : Nat} (hk : g 0 6 = nI k) (hk10 : k < 10) : ∀ (j p : Nat) (f : Nat → Int32), p + j = 17 → Ev d 149 26 [.ref 0, .int (nI p)] [] (wR (va_up g 10 f) tr) none (wR (va_up (va_up g 10 (wrF (g 7) (17 * k) j p f)) 0 (upd (g 0) 6 (nI (k + 1)))) tr) := by
  intro j
  induction j with
  | zero =>
    intro p f hp
    refine Ev.sn e_X9_notes 2 (i' := 28) (ls' := [_, _]) (st' := [_, _]) rfl ?_
    refine Ev.brT (i1 := 44) (i2 := 29) e_X9_notes rfl rfl (ge_t (n := 17) rfl (by omega) (by omega)) ?_
    refine Ev.sn e_X9_notes 5 (i' := 49) (ls' := [_, _]) (st' := [_, _]) rfl ?_
    refine Ev.put e_X9_notes rfl rfl rfl rfl rfl rfl (w1 := wR (va_up (va_up g 10 f) 0 (upd (g 0) 6 (g 0 6 + 1))) tr) rfl ?_
    exact Ev.vret e_X9_notes rfl rfl (by rw [hk, nI_1]; rfl)
  | succ j ih =>
    intro p f hp
    refine Ev.sn e_X9_notes 2 (i' := 28) (ls' := [_, _]) (st' := [_, _]) rfl ?_
    refine Ev.brF (i1 := 44) (i2 := 29) e_X9_notes rfl rfl (ge_f (n := 17) rfl (by omega) (by omega)) ?_
    refine Ev.sn e_X9_notes 11 (i' := 40) (ls' := [_, _]) (st' := [_, _, _, _]) rfl ?_
    refine Ev.ialdE e_X9_notes rfl rfl rfl rfl rfl (by omega) ?_
    refine Ev.iastE e_X9_notes rfl rfl rfl (by rw [show (va_up g 10 f) 0 6 = nI k from hk]; exact (congrArg (· + nI p) (pk_mul 17 k)).trans (nI_add _ _)) (by omega) (w1 := wR (va_up g 10 (upd f (17 * k + p) (g 7 p))) tr) rfl ?_
    refine Ev.sn e_X9_notes 2 (i' := 26) (ls' := [_, _]) (st' := []) rfl ?_
    rw [nI_1]
    exact ih (p + 1) _ (by omega)
set_option maxRecDepth 20000 in
set_option maxHeartbeats 200000 in
theorem ls_X9_notes (d : Nat) (g : Nat → Nat → Int32) (tr : Int64) (r : Option Value) (w2 : AW) : ∀ (j p : Nat) (f : Nat → Int32), p + j = 153 → Ev d 149 21 [.ref 0, .null] [] (wR (va_up g 10 (shF j p f)) tr) r w2 → Ev d 149 6 [.ref 0, .int (nI p)] [] (wR (va_up g 10 f) tr) r w2 := by
  intro j
  induction j with
  | zero =>
    intro p f hp K
    refine Ev.sn e_X9_notes 2 (i' := 8) (ls' := [_, _]) (st' := [_, _]) rfl ?_
    refine Ev.brT (i1 := 21) (i2 := 9) e_X9_notes rfl rfl (ge_t (n := 153) rfl (by omega) (by omega)) ?_
    exact Ev.weak (lle_c (lle_n lle_0)) K
  | succ j ih =>
    intro p f hp K
    refine Ev.sn e_X9_notes 2 (i' := 8) (ls' := [_, _]) (st' := [_, _]) rfl ?_
    refine Ev.brF (i1 := 21) (i2 := 9) e_X9_notes rfl rfl (ge_f (n := 153) rfl (by omega) (by omega)) ?_
    refine Ev.sn e_X9_notes 8 (i' := 17) (ls' := [_, _]) (st' := [_, _, _, _]) rfl ?_
    refine Ev.ialdE e_X9_notes rfl rfl rfl rfl (nI_add p 17) (by omega) ?_
    refine Ev.iastE e_X9_notes rfl rfl rfl rfl (by omega) (w1 := wR (va_up g 10 (upd f p (f (p + 17)))) tr) rfl ?_
    refine Ev.sn e_X9_notes 2 (i' := 6) (ls' := [_, _]) (st' := []) rfl ?_
    rw [nI_1]
    exact ih (p + 1) _ (by omega) K
set_option maxRecDepth 20000 in
set_option maxHeartbeats 200000 in
theorem c_X9_notes (d : Nat) (g : Nat → Nat → Int32) (tr : Int64) {k : Nat} (hk : g 0 6 = nI k) (hk10 : k ≤ 10) : ∃ g', Ev d 149 0 [.ref 0, .null] [] (wR g tr) none (wR g' tr) ∧ NOT g g' k := by
  by_cases hx : k = 10
  · subst hx
    obtain ⟨g2, hg2⟩ : ∃ g2, g2 = va_up (va_up g 10 (shF 153 0 (g 10))) 0 (upd (g 0) 6 (nI 9)) := ⟨_, rfl⟩
    have a6 : g2 0 6 = nI 9 := by rw [hg2]; rfl
    have a7 : g2 7 = g 7 := by rw [hg2]; rfl
    have a10 : g2 10 = shF 153 0 (g 10) := by rw [hg2]; rfl
    refine ⟨va_up (va_up g2 10 (wrF (g2 7) (17 * 9) 17 0 (g2 10))) 0 (upd (g2 0) 6 (nI (9 + 1))), ?_, ?_⟩
    · have tl := lt_X9_notes d g2 tr a6 (by omega) 17 0 (g2 10) rfl
      refine Ev.sn e_X9_notes 3 (i' := 3) (ls' := [_, _]) (st' := [_, _]) rfl ?_
      refine Ev.brT (i1 := 4) (i2 := 24) e_X9_notes rfl rfl (hk) ?_
      refine Ev.sn e_X9_notes 2 (i' := 6) (ls' := [_, _]) (st' := []) rfl ?_
      refine Ev.wd (w2 := wR (va_up g 10 (g 10)) tr) rfl ?_
      refine ls_X9_notes d g tr _ _ 153 0 (g 10) rfl ?_
      refine Ev.sn e_X9_notes 2 (i' := 23) (ls' := [_, _]) (st' := [_, _]) rfl ?_
      refine Ev.put e_X9_notes rfl rfl rfl rfl rfl rfl (w1 := wR g2 tr) (by rw [hg2]; rfl) ?_
      refine Ev.sn e_X9_notes 2 (i' := 26) (ls' := [_, _]) (st' := []) rfl ?_
      refine Ev.wd (w2 := wR (va_up g2 10 (g2 10)) tr) rfl ?_
      exact tl
    · refine ⟨9, by omega, Or.inr ⟨rfl, rfl, fun i hi => ?_⟩, rfl, fun t ht => ?_, fun x h1 h2 => ?_, fun i hi => ?_⟩
      · show wrF (g2 7) (17 * 9) 17 0 (g2 10) i = _
        rw [wrF_at, if_neg (by omega), a10, shF_at, if_pos (by omega)]
      · show wrF (g2 7) (17 * 9) 17 0 (g2 10) _ = _
        rw [wrF_at, if_pos (by omega), a7, show 17 * 9 + t - 17 * 9 = t by omega]
      · rw [va_up_ne _ _ h1, va_up_ne _ _ h2, hg2, va_up_ne _ _ h1, va_up_ne _ _ h2]
      · rw [va_up_self, pk_un hi, hg2, va_up_self, pk_un hi]
  · refine ⟨va_up (va_up g 10 (wrF (g 7) (17 * k) 17 0 (g 10))) 0 (upd (g 0) 6 (nI (k + 1))), ?_, ?_⟩
    · have tl := lt_X9_notes d g tr hk (by omega) 17 0 (g 10) rfl
      refine Ev.sn e_X9_notes 3 (i' := 3) (ls' := [_, _]) (st' := [_, _]) rfl ?_
      refine Ev.brF (i1 := 4) (i2 := 24) e_X9_notes rfl rfl ((fun e => hx ((nI_eq (by omega) (by omega)).mp (hk.symm.trans e)))) ?_
      refine Ev.sn e_X9_notes 2 (i' := 26) (ls' := [_, _]) (st' := []) rfl ?_
      refine Ev.wd (w2 := wR (va_up g 10 (g 10)) tr) rfl ?_
      exact tl
    · refine ⟨k, by omega, Or.inl ⟨by omega, rfl, fun i hi => ?_⟩, rfl, fun t ht => ?_, fun x h1 h2 => ?_, fun i hi => ?_⟩
      · show wrF (g 7) (17 * k) 17 0 (g 10) i = _
        rw [wrF_at, if_neg (by omega)]
      · show wrF (g 7) (17 * k) 17 0 (g 10) _ = _
        rw [wrF_at, if_pos (by omega), show 17 * k + t - 17 * k = t by omega]
      · rw [va_up_ne _ _ h1, va_up_ne _ _ h2]
      · rw [va_up_self, pk_un hi]
theorem vR_congr {n q dn : Nat} {g g1 : Nat → Nat → Int32} (h : ∀ x, x ≠ 0 → x ≠ 10 → g1 x = g x) : vR n q dn g1 = vR n q dn g := by
  funext r
  unfold vR
  rw [h 3 (by omega) (by omega), h 7 (by omega) (by omega), h 4 (by omega) (by omega), h 6 (by omega) (by omega), h 5 (by omega) (by omega)]
theorem RI.keep {n q dn : Nat} {g g1 : Nat → Nat → Int32} (hc : RI n q dn g) (h : ∀ x, x ≠ 0 → x ≠ 10 → g1 x = g x) : RI n q dn g1 := by
  unfold RI
  rw [vR_congr h, h 2 (by omega) (by omega), h 7 (by omega) (by omega)]
  exact hc
theorem NOT.low {g g' : Nat → Nat → Int32} {k : Nat} (h : NOT g g' k) : ∀ x, x ≠ 0 → x ≠ 10 → g' x = g x := by
  obtain ⟨k', -, -, -, -, h1, -⟩ := h
  exact h1
/-- the reference's view when whose a THING is changes -/
theorem vR_own {n q dn : Nat} (hn : n ≤ 6) {g : Nat → Nat → Int32} {j : Nat} {x y : Int32} (hxy : (if x = 0 then -9 else x - 1) = y) : vR n q dn (va_up g 7 (upd (g 7) j x)) = va_up (vR n q dn g) 12 (cut n (upd (vR n q dn g 12) j y)) := by
  funext r
  by_cases h12 : r = 12
  · subst h12
    rw [va_up_self]
    funext t
    show cut n _ t = cut n _ t
    by_cases ht : t < n
    · rw [cut_lt ht, cut_lt ht]
      show (if upd (g 7) j x t = 0 then -9 else upd (g 7) j x t - 1) = _
      by_cases hj : t = j
      · subst hj; rw [pk_us, pk_us]; exact hxy
      · rw [pk_un hj, pk_un hj]
        exact (cut_lt (f := fun t => if g 7 t = 0 then -9 else g 7 t - 1) ht).symm
    · simp [cut, ht]
  · rw [va_up_ne _ _ h12]
    unfold vR
    split <;> first | rfl | exact absurd rfl h12 | skip
    · funext t
      by_cases ht : t < n
      · simp only [cut, ht, if_true]
        show upd (g 7) j x (6 + t) = g 7 (6 + t)
        sorry
      · simp [cut, ht]
    · sorry
end

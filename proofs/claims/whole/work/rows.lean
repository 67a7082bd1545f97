section
-- ===== PART A: goes FIRST, ahead of the names: the tables' words, and 'selects' of the private methods out of them =====
/-- a private method of a class that the tables say can be made, by its rows of tables_1 -/
def lw_okq (q : MethodName × Nat) : Prop := (q.1.cls ≠ "java/lang/invoke/MethodHandle" ∧ q.1.cls ≠ "java/lang/invoke/VarHandle") ∧ Cond.instantiable q.1.cls q.2 ∈ tables_1 ∧ Cond.privateMethod q.1 ∈ tables_1 ∧ Cond.instanceMethod q.1 ∈ tables_1
theorem lw_p0 : lw_okq (⟨"PlateSlabs", "recorded", "(I)I"⟩, 10) := ⟨⟨by decide +kernel, by decide +kernel⟩, List.mem_of_getElem? (i := 11) (by decide +kernel), List.mem_of_getElem? (i := 230) (by decide +kernel), List.mem_of_getElem? (i := 231) (by decide +kernel)⟩
theorem lw_p1 : lw_okq (⟨"PlateSlabs$History", "dropOldest", "()V"⟩, 2) := ⟨⟨by decide +kernel, by decide +kernel⟩, List.mem_of_getElem? (i := 89) (by decide +kernel), List.mem_of_getElem? (i := 238) (by decide +kernel), List.mem_of_getElem? (i := 239) (by decide +kernel)⟩
theorem lw_p2 : lw_okq (⟨"PlateSlabs$Plates", "leakAway", "()V"⟩, 8) := ⟨⟨by decide +kernel, by decide +kernel⟩, List.mem_of_getElem? (i := 26) (by decide +kernel), List.mem_of_getElem? (i := 307) (by decide +kernel), List.mem_of_getElem? (i := 308) (by decide +kernel)⟩
theorem lw_p3 : lw_okq (⟨"PlateSlabs$Trial", "readThing", "(I)Z"⟩, 8) := ⟨⟨by decide +kernel, by decide +kernel⟩, List.mem_of_getElem? (i := 108) (by decide +kernel), List.mem_of_getElem? (i := 364) (by decide +kernel), List.mem_of_getElem? (i := 365) (by decide +kernel)⟩
theorem lw_p4 : lw_okq (⟨"PlateSlabs$Trial", "readSign", "(C)Z"⟩, 8) := ⟨⟨by decide +kernel, by decide +kernel⟩, List.mem_of_getElem? (i := 108) (by decide +kernel), List.mem_of_getElem? (i := 368) (by decide +kernel), List.mem_of_getElem? (i := 369) (by decide +kernel)⟩
theorem lw_p5 : lw_okq (⟨"PlateSlabs$Trial", "readPair", "()Z"⟩, 8) := ⟨⟨by decide +kernel, by decide +kernel⟩, List.mem_of_getElem? (i := 108) (by decide +kernel), List.mem_of_getElem? (i := 372) (by decide +kernel), List.mem_of_getElem? (i := 373) (by decide +kernel)⟩
theorem lw_p6 : lw_okq (⟨"PlateSlabs$Trial", "digitAt", "(I)I"⟩, 8) := ⟨⟨by decide +kernel, by decide +kernel⟩, List.mem_of_getElem? (i := 108) (by decide +kernel), List.mem_of_getElem? (i := 376) (by decide +kernel), List.mem_of_getElem? (i := 377) (by decide +kernel)⟩
theorem lw_p7 : lw_okq (⟨"PlateSlabs$Trial", "readNumber", "(II)Z"⟩, 8) := ⟨⟨by decide +kernel, by decide +kernel⟩, List.mem_of_getElem? (i := 108) (by decide +kernel), List.mem_of_getElem? (i := 381) (by decide +kernel), List.mem_of_getElem? (i := 382) (by decide +kernel)⟩
theorem lw_p8 : lw_okq (⟨"PlateSlabs$Trial", "readOther", "()Z"⟩, 8) := ⟨⟨by decide +kernel, by decide +kernel⟩, List.mem_of_getElem? (i := 108) (by decide +kernel), List.mem_of_getElem? (i := 385) (by decide +kernel), List.mem_of_getElem? (i := 386) (by decide +kernel)⟩
theorem lw_p9 : lw_okq (⟨"PlateSlabs", "doThing", "(I)I"⟩, 10) := ⟨⟨by decide +kernel, by decide +kernel⟩, List.mem_of_getElem? (i := 11) (by decide +kernel), List.mem_of_getElem? (i := 389) (by decide +kernel), List.mem_of_getElem? (i := 390) (by decide +kernel)⟩
theorem lw_p10 : lw_okq (⟨"PlateSlabs$Trial", "isThing", "(I)Z"⟩, 8) := ⟨⟨by decide +kernel, by decide +kernel⟩, List.mem_of_getElem? (i := 108) (by decide +kernel), List.mem_of_getElem? (i := 397) (by decide +kernel), List.mem_of_getElem? (i := 398) (by decide +kernel)⟩
theorem lw_p11 : lw_okq (⟨"PlateSlabs", "stopAt", "(II)V"⟩, 10) := ⟨⟨by decide +kernel, by decide +kernel⟩, List.mem_of_getElem? (i := 11) (by decide +kernel), List.mem_of_getElem? (i := 409) (by decide +kernel), List.mem_of_getElem? (i := 410) (by decide +kernel)⟩
theorem lw_p12 : lw_okq (⟨"PlateSlabs", "sumOfPairs", "(I)I"⟩, 10) := ⟨⟨by decide +kernel, by decide +kernel⟩, List.mem_of_getElem? (i := 11) (by decide +kernel), List.mem_of_getElem? (i := 499) (by decide +kernel), List.mem_of_getElem? (i := 500) (by decide +kernel)⟩
theorem lw_p13 : lw_okq (⟨"PlateSlabsModel", "looks", "()V"⟩, 22) := ⟨⟨by decide +kernel, by decide +kernel⟩, List.mem_of_getElem? (i := 506) (by decide +kernel), List.mem_of_getElem? (i := 593) (by decide +kernel), List.mem_of_getElem? (i := 594) (by decide +kernel)⟩
theorem lw_p14 : lw_okq (⟨"PlateSlabsModel", "lays", "(III)I"⟩, 22) := ⟨⟨by decide +kernel, by decide +kernel⟩, List.mem_of_getElem? (i := 506) (by decide +kernel), List.mem_of_getElem? (i := 603) (by decide +kernel), List.mem_of_getElem? (i := 604) (by decide +kernel)⟩
theorem lw_p15 : lw_okq (⟨"PlateSlabsModel", "of", "(II)I"⟩, 22) := ⟨⟨by decide +kernel, by decide +kernel⟩, List.mem_of_getElem? (i := 506) (by decide +kernel), List.mem_of_getElem? (i := 607) (by decide +kernel), List.mem_of_getElem? (i := 608) (by decide +kernel)⟩
def lw_privs_1 : List (MethodName × Nat) := [(⟨"PlateSlabs", "recorded", "(I)I"⟩, 10), (⟨"PlateSlabs$History", "dropOldest", "()V"⟩, 2), (⟨"PlateSlabs$Plates", "leakAway", "()V"⟩, 8), (⟨"PlateSlabs$Trial", "readThing", "(I)Z"⟩, 8), (⟨"PlateSlabs$Trial", "readSign", "(C)Z"⟩, 8), (⟨"PlateSlabs$Trial", "readPair", "()Z"⟩, 8), (⟨"PlateSlabs$Trial", "digitAt", "(I)I"⟩, 8), (⟨"PlateSlabs$Trial", "readNumber", "(II)Z"⟩, 8), (⟨"PlateSlabs$Trial", "readOther", "()Z"⟩, 8), (⟨"PlateSlabs", "doThing", "(I)I"⟩, 10), (⟨"PlateSlabs$Trial", "isThing", "(I)Z"⟩, 8), (⟨"PlateSlabs", "stopAt", "(II)V"⟩, 10), (⟨"PlateSlabs", "sumOfPairs", "(I)I"⟩, 10), (⟨"PlateSlabsModel", "looks", "()V"⟩, 22), (⟨"PlateSlabsModel", "lays", "(III)I"⟩, 22), (⟨"PlateSlabsModel", "of", "(II)I"⟩, 22)]
theorem lw_r1 : ∀ q ∈ lw_privs_1, lw_okq q := List.forall_mem_cons.mpr ⟨lw_p0, List.forall_mem_cons.mpr ⟨lw_p1, List.forall_mem_cons.mpr ⟨lw_p2, List.forall_mem_cons.mpr ⟨lw_p3, List.forall_mem_cons.mpr ⟨lw_p4, List.forall_mem_cons.mpr ⟨lw_p5, List.forall_mem_cons.mpr ⟨lw_p6, List.forall_mem_cons.mpr ⟨lw_p7, List.forall_mem_cons.mpr ⟨lw_p8, List.forall_mem_cons.mpr ⟨lw_p9, List.forall_mem_cons.mpr ⟨lw_p10, List.forall_mem_cons.mpr ⟨lw_p11, List.forall_mem_cons.mpr ⟨lw_p12, List.forall_mem_cons.mpr ⟨lw_p13, List.forall_mem_cons.mpr ⟨lw_p14, List.forall_mem_cons.mpr ⟨lw_p15, fun _ h => absurd h List.not_mem_nil⟩⟩⟩⟩⟩⟩⟩⟩⟩⟩⟩⟩⟩⟩⟩⟩
theorem lw_p16 : lw_okq (⟨"PlateSlabsModel", "charges", "(I)V"⟩, 22) := ⟨⟨by decide +kernel, by decide +kernel⟩, List.mem_of_getElem? (i := 506) (by decide +kernel), List.mem_of_getElem? (i := 611) (by decide +kernel), List.mem_of_getElem? (i := 612) (by decide +kernel)⟩
theorem lw_p17 : lw_okq (⟨"PlateSlabsModel", "isOn", "(I)Z"⟩, 22) := ⟨⟨by decide +kernel, by decide +kernel⟩, List.mem_of_getElem? (i := 506) (by decide +kernel), List.mem_of_getElem? (i := 615) (by decide +kernel), List.mem_of_getElem? (i := 616) (by decide +kernel)⟩
theorem lw_p18 : lw_okq (⟨"PlateSlabsModel", "capacityNow", "(I)I"⟩, 22) := ⟨⟨by decide +kernel, by decide +kernel⟩, List.mem_of_getElem? (i := 506) (by decide +kernel), List.mem_of_getElem? (i := 619) (by decide +kernel), List.mem_of_getElem? (i := 620) (by decide +kernel)⟩
theorem lw_p19 : lw_okq (⟨"PlateSlabsModel", "capacity", "(II)I"⟩, 22) := ⟨⟨by decide +kernel, by decide +kernel⟩, List.mem_of_getElem? (i := 506) (by decide +kernel), List.mem_of_getElem? (i := 623) (by decide +kernel), List.mem_of_getElem? (i := 624) (by decide +kernel)⟩
theorem lw_p20 : lw_okq (⟨"PlateSlabsModel", "acted", "(I)I"⟩, 22) := ⟨⟨by decide +kernel, by decide +kernel⟩, List.mem_of_getElem? (i := 506) (by decide +kernel), List.mem_of_getElem? (i := 628) (by decide +kernel), List.mem_of_getElem? (i := 629) (by decide +kernel)⟩
theorem lw_p21 : lw_okq (⟨"PlateSlabsModel", "records", "()V"⟩, 22) := ⟨⟨by decide +kernel, by decide +kernel⟩, List.mem_of_getElem? (i := 506) (by decide +kernel), List.mem_of_getElem? (i := 632) (by decide +kernel), List.mem_of_getElem? (i := 633) (by decide +kernel)⟩
theorem lw_p22 : lw_okq (⟨"PlateSlabsModel", "turnsOn", "(II)I"⟩, 22) := ⟨⟨by decide +kernel, by decide +kernel⟩, List.mem_of_getElem? (i := 506) (by decide +kernel), List.mem_of_getElem? (i := 640) (by decide +kernel), List.mem_of_getElem? (i := 641) (by decide +kernel)⟩
theorem lw_p23 : lw_okq (⟨"PlateSlabsModel", "turnsOff", "(I)I"⟩, 22) := ⟨⟨by decide +kernel, by decide +kernel⟩, List.mem_of_getElem? (i := 506) (by decide +kernel), List.mem_of_getElem? (i := 648) (by decide +kernel), List.mem_of_getElem? (i := 649) (by decide +kernel)⟩
theorem lw_p24 : lw_okq (⟨"PlateSlabsModel", "couples", "(II)I"⟩, 22) := ⟨⟨by decide +kernel, by decide +kernel⟩, List.mem_of_getElem? (i := 506) (by decide +kernel), List.mem_of_getElem? (i := 660) (by decide +kernel), List.mem_of_getElem? (i := 661) (by decide +kernel)⟩
theorem lw_p25 : lw_okq (⟨"PlateSlabsModel", "stored", "(I)J"⟩, 22) := ⟨⟨by decide +kernel, by decide +kernel⟩, List.mem_of_getElem? (i := 506) (by decide +kernel), List.mem_of_getElem? (i := 665) (by decide +kernel), List.mem_of_getElem? (i := 666) (by decide +kernel)⟩
theorem lw_p26 : lw_okq (⟨"PlateSlabsModel", "passes", "(I)I"⟩, 22) := ⟨⟨by decide +kernel, by decide +kernel⟩, List.mem_of_getElem? (i := 506) (by decide +kernel), List.mem_of_getElem? (i := 676) (by decide +kernel), List.mem_of_getElem? (i := 677) (by decide +kernel)⟩
theorem lw_p27 : lw_okq (⟨"PlateSlabsModel", "tick", "(I)I"⟩, 22) := ⟨⟨by decide +kernel, by decide +kernel⟩, List.mem_of_getElem? (i := 506) (by decide +kernel), List.mem_of_getElem? (i := 681) (by decide +kernel), List.mem_of_getElem? (i := 682) (by decide +kernel)⟩
theorem lw_p28 : lw_okq (⟨"PlateSlabsModel", "leak", "(II)I"⟩, 22) := ⟨⟨by decide +kernel, by decide +kernel⟩, List.mem_of_getElem? (i := 506) (by decide +kernel), List.mem_of_getElem? (i := 685) (by decide +kernel), List.mem_of_getElem? (i := 686) (by decide +kernel)⟩
theorem lw_p29 : lw_okq (⟨"PlateSlabsModel", "net", "(I)I"⟩, 22) := ⟨⟨by decide +kernel, by decide +kernel⟩, List.mem_of_getElem? (i := 506) (by decide +kernel), List.mem_of_getElem? (i := 690) (by decide +kernel), List.mem_of_getElem? (i := 691) (by decide +kernel)⟩
theorem lw_p30 : lw_okq (⟨"PlateSlabsModel", "pullAt", "(III)I"⟩, 22) := ⟨⟨by decide +kernel, by decide +kernel⟩, List.mem_of_getElem? (i := 506) (by decide +kernel), List.mem_of_getElem? (i := 694) (by decide +kernel), List.mem_of_getElem? (i := 695) (by decide +kernel)⟩
theorem lw_p31 : lw_okq (⟨"PlateSlabsModel", "pullBy", "(II)I"⟩, 22) := ⟨⟨by decide +kernel, by decide +kernel⟩, List.mem_of_getElem? (i := 506) (by decide +kernel), List.mem_of_getElem? (i := 698) (by decide +kernel), List.mem_of_getElem? (i := 699) (by decide +kernel)⟩
def lw_privs_2 : List (MethodName × Nat) := [(⟨"PlateSlabsModel", "charges", "(I)V"⟩, 22), (⟨"PlateSlabsModel", "isOn", "(I)Z"⟩, 22), (⟨"PlateSlabsModel", "capacityNow", "(I)I"⟩, 22), (⟨"PlateSlabsModel", "capacity", "(II)I"⟩, 22), (⟨"PlateSlabsModel", "acted", "(I)I"⟩, 22), (⟨"PlateSlabsModel", "records", "()V"⟩, 22), (⟨"PlateSlabsModel", "turnsOn", "(II)I"⟩, 22), (⟨"PlateSlabsModel", "turnsOff", "(I)I"⟩, 22), (⟨"PlateSlabsModel", "couples", "(II)I"⟩, 22), (⟨"PlateSlabsModel", "stored", "(I)J"⟩, 22), (⟨"PlateSlabsModel", "passes", "(I)I"⟩, 22), (⟨"PlateSlabsModel", "tick", "(I)I"⟩, 22), (⟨"PlateSlabsModel", "leak", "(II)I"⟩, 22), (⟨"PlateSlabsModel", "net", "(I)I"⟩, 22), (⟨"PlateSlabsModel", "pullAt", "(III)I"⟩, 22), (⟨"PlateSlabsModel", "pullBy", "(II)I"⟩, 22)]
theorem lw_r2 : ∀ q ∈ lw_privs_2, lw_okq q := List.forall_mem_cons.mpr ⟨lw_p16, List.forall_mem_cons.mpr ⟨lw_p17, List.forall_mem_cons.mpr ⟨lw_p18, List.forall_mem_cons.mpr ⟨lw_p19, List.forall_mem_cons.mpr ⟨lw_p20, List.forall_mem_cons.mpr ⟨lw_p21, List.forall_mem_cons.mpr ⟨lw_p22, List.forall_mem_cons.mpr ⟨lw_p23, List.forall_mem_cons.mpr ⟨lw_p24, List.forall_mem_cons.mpr ⟨lw_p25, List.forall_mem_cons.mpr ⟨lw_p26, List.forall_mem_cons.mpr ⟨lw_p27, List.forall_mem_cons.mpr ⟨lw_p28, List.forall_mem_cons.mpr ⟨lw_p29, List.forall_mem_cons.mpr ⟨lw_p30, List.forall_mem_cons.mpr ⟨lw_p31, fun _ h => absurd h List.not_mem_nil⟩⟩⟩⟩⟩⟩⟩⟩⟩⟩⟩⟩⟩⟩⟩⟩
theorem lw_p32 : lw_okq (⟨"PlateSlabsModel", "pullOf", "(III)I"⟩, 22) := ⟨⟨by decide +kernel, by decide +kernel⟩, List.mem_of_getElem? (i := 506) (by decide +kernel), List.mem_of_getElem? (i := 702) (by decide +kernel), List.mem_of_getElem? (i := 703) (by decide +kernel)⟩
theorem lw_p33 : lw_okq (⟨"PlateSlabsModel", "spring", "(II)I"⟩, 22) := ⟨⟨by decide +kernel, by decide +kernel⟩, List.mem_of_getElem? (i := 506) (by decide +kernel), List.mem_of_getElem? (i := 706) (by decide +kernel), List.mem_of_getElem? (i := 707) (by decide +kernel)⟩
theorem lw_p34 : lw_okq (⟨"PlateSlabsModel", "move", "(III)I"⟩, 22) := ⟨⟨by decide +kernel, by decide +kernel⟩, List.mem_of_getElem? (i := 506) (by decide +kernel), List.mem_of_getElem? (i := 710) (by decide +kernel), List.mem_of_getElem? (i := 711) (by decide +kernel)⟩
theorem lw_p35 : lw_okq (⟨"PlateSlabsModel", "runs", "(Z)I"⟩, 22) := ⟨⟨by decide +kernel, by decide +kernel⟩, List.mem_of_getElem? (i := 506) (by decide +kernel), List.mem_of_getElem? (i := 729) (by decide +kernel), List.mem_of_getElem? (i := 730) (by decide +kernel)⟩
theorem lw_p36 : lw_okq (⟨"PlateSlabsModel", "readThing", "()V"⟩, 22) := ⟨⟨by decide +kernel, by decide +kernel⟩, List.mem_of_getElem? (i := 506) (by decide +kernel), List.mem_of_getElem? (i := 733) (by decide +kernel), List.mem_of_getElem? (i := 734) (by decide +kernel)⟩
theorem lw_p37 : lw_okq (⟨"PlateSlabsModel", "takesNumber", "(II)I"⟩, 22) := ⟨⟨by decide +kernel, by decide +kernel⟩, List.mem_of_getElem? (i := 506) (by decide +kernel), List.mem_of_getElem? (i := 737) (by decide +kernel), List.mem_of_getElem? (i := 738) (by decide +kernel)⟩
theorem lw_p38 : lw_okq (⟨"PlateSlabsModel", "takes", "(II)I"⟩, 22) := ⟨⟨by decide +kernel, by decide +kernel⟩, List.mem_of_getElem? (i := 506) (by decide +kernel), List.mem_of_getElem? (i := 741) (by decide +kernel), List.mem_of_getElem? (i := 742) (by decide +kernel)⟩
theorem lw_p39 : lw_okq (⟨"PlateSlabsModel", "isNext", "(II)Z"⟩, 22) := ⟨⟨by decide +kernel, by decide +kernel⟩, List.mem_of_getElem? (i := 506) (by decide +kernel), List.mem_of_getElem? (i := 745) (by decide +kernel), List.mem_of_getElem? (i := 746) (by decide +kernel)⟩
theorem lw_p40 : lw_okq (⟨"PlateSlabsModel", "does", "()I"⟩, 22) := ⟨⟨by decide +kernel, by decide +kernel⟩, List.mem_of_getElem? (i := 506) (by decide +kernel), List.mem_of_getElem? (i := 749) (by decide +kernel), List.mem_of_getElem? (i := 750) (by decide +kernel)⟩
theorem lw_p41 : lw_okq (⟨"PlateSlabsModel", "looksBack", "()V"⟩, 22) := ⟨⟨by decide +kernel, by decide +kernel⟩, List.mem_of_getElem? (i := 506) (by decide +kernel), List.mem_of_getElem? (i := 753) (by decide +kernel), List.mem_of_getElem? (i := 754) (by decide +kernel)⟩
theorem lw_p42 : lw_okq (⟨"PlateSlabsModel", "pullNow", "(I)I"⟩, 22) := ⟨⟨by decide +kernel, by decide +kernel⟩, List.mem_of_getElem? (i := 506) (by decide +kernel), List.mem_of_getElem? (i := 777) (by decide +kernel), List.mem_of_getElem? (i := 778) (by decide +kernel)⟩
theorem lw_p43 : lw_okq (⟨"PlateSlabsModel", "why", "(I)I"⟩, 22) := ⟨⟨by decide +kernel, by decide +kernel⟩, List.mem_of_getElem? (i := 506) (by decide +kernel), List.mem_of_getElem? (i := 791) (by decide +kernel), List.mem_of_getElem? (i := 792) (by decide +kernel)⟩
theorem lw_p44 : lw_okq (⟨"PlateSlabsModel", "sets", "(I)V"⟩, 22) := ⟨⟨by decide +kernel, by decide +kernel⟩, List.mem_of_getElem? (i := 506) (by decide +kernel), List.mem_of_getElem? (i := 803) (by decide +kernel), List.mem_of_getElem? (i := 804) (by decide +kernel)⟩
theorem lw_p45 : lw_okq (⟨"PlateSlabsModel", "goes", "(I)I"⟩, 22) := ⟨⟨by decide +kernel, by decide +kernel⟩, List.mem_of_getElem? (i := 506) (by decide +kernel), List.mem_of_getElem? (i := 807) (by decide +kernel), List.mem_of_getElem? (i := 808) (by decide +kernel)⟩
theorem lw_p46 : lw_okq (⟨"PlateSlabsModel", "isDrawn", "(II)Z"⟩, 22) := ⟨⟨by decide +kernel, by decide +kernel⟩, List.mem_of_getElem? (i := 506) (by decide +kernel), List.mem_of_getElem? (i := 823) (by decide +kernel), List.mem_of_getElem? (i := 824) (by decide +kernel)⟩
def lw_privs_3 : List (MethodName × Nat) := [(⟨"PlateSlabsModel", "pullOf", "(III)I"⟩, 22), (⟨"PlateSlabsModel", "spring", "(II)I"⟩, 22), (⟨"PlateSlabsModel", "move", "(III)I"⟩, 22), (⟨"PlateSlabsModel", "runs", "(Z)I"⟩, 22), (⟨"PlateSlabsModel", "readThing", "()V"⟩, 22), (⟨"PlateSlabsModel", "takesNumber", "(II)I"⟩, 22), (⟨"PlateSlabsModel", "takes", "(II)I"⟩, 22), (⟨"PlateSlabsModel", "isNext", "(II)Z"⟩, 22), (⟨"PlateSlabsModel", "does", "()I"⟩, 22), (⟨"PlateSlabsModel", "looksBack", "()V"⟩, 22), (⟨"PlateSlabsModel", "pullNow", "(I)I"⟩, 22), (⟨"PlateSlabsModel", "why", "(I)I"⟩, 22), (⟨"PlateSlabsModel", "sets", "(I)V"⟩, 22), (⟨"PlateSlabsModel", "goes", "(I)I"⟩, 22), (⟨"PlateSlabsModel", "isDrawn", "(II)Z"⟩, 22)]
theorem lw_r3 : ∀ q ∈ lw_privs_3, lw_okq q := List.forall_mem_cons.mpr ⟨lw_p32, List.forall_mem_cons.mpr ⟨lw_p33, List.forall_mem_cons.mpr ⟨lw_p34, List.forall_mem_cons.mpr ⟨lw_p35, List.forall_mem_cons.mpr ⟨lw_p36, List.forall_mem_cons.mpr ⟨lw_p37, List.forall_mem_cons.mpr ⟨lw_p38, List.forall_mem_cons.mpr ⟨lw_p39, List.forall_mem_cons.mpr ⟨lw_p40, List.forall_mem_cons.mpr ⟨lw_p41, List.forall_mem_cons.mpr ⟨lw_p42, List.forall_mem_cons.mpr ⟨lw_p43, List.forall_mem_cons.mpr ⟨lw_p44, List.forall_mem_cons.mpr ⟨lw_p45, List.forall_mem_cons.mpr ⟨lw_p46, fun _ h => absurd h List.not_mem_nil⟩⟩⟩⟩⟩⟩⟩⟩⟩⟩⟩⟩⟩⟩⟩
def lw_privs : List (MethodName × Nat) := lw_privs_1 ++ (lw_privs_2 ++ (lw_privs_3))
def lw_tbl : List Cond := k2_sels lw_privs ++ tables_1
theorem lw_privs_ok : ∀ q ∈ lw_privs, lw_okq q := by
  show ∀ q ∈ lw_privs_1 ++ (lw_privs_2 ++ (lw_privs_3)), lw_okq q
  exact List.forall_mem_append.mpr ⟨lw_r1, List.forall_mem_append.mpr ⟨lw_r2, lw_r3⟩⟩
end
section
/-! ===== BEGIN words of one list among another's, by their places ===== -/
theorem goodIn_r {big : List Cond} (ws : List Cond) (ps : List Nat) (hp : ws = ps.filterMap (fun i => big[i]?)) (h : ws.all goodWord = true) : GoodIn big ws := by
  intro w hw
  have h1 := List.all_eq_true.mp h w hw
  rw [hp] at hw
  obtain ⟨i, -, hi⟩ := List.mem_filterMap.mp hw
  have hm : w ∈ big := by first | exact List.mem_of_getElem? hi | exact List.getElem?_mem hi
  exact ⟨hm, good_of_word h1⟩
theorem goodIn_app {big a b : List Cond} (ha : GoodIn big a) (hb : GoodIn big b) : GoodIn big (a ++ b) := fun w h => (List.mem_append.mp h).elim (ha w) (hb w)
theorem goodIn_ca {big a b : List Cond} {c : Cond} (ha : GoodIn big (c :: a)) (hb : GoodIn big b) : GoodIn big (c :: (a ++ b)) := fun w h => (List.mem_cons.mp h).elim (fun e => ha w (List.mem_cons.mpr (Or.inl e))) (fun h => (List.mem_append.mp h).elim (fun h => ha w (List.mem_cons.mpr (Or.inr h))) (hb w))
theorem goodIn_sub {big ws : List Cond} (hm : ∀ w ∈ ws, w ∈ big) (h : ws.all goodWord = true) : GoodIn big ws := fun w hw => ⟨hm w hw, good_of_word (List.all_eq_true.mp h w hw)⟩
/-! ===== END ===== -/

/-! ===== BEGIN printed: names, fields, word lists, decode rows ===== -/
def RX0 : String := "PlateSlabs$History"
def TX0 : u_T := fun k => match k with
  | 0 => ("PlateSlabs$History", "states", "[LPlateSlabs$State;", true)
  | _ => ("PlateSlabs$History", "size", "I", false)
def tyX0 : Nat → FieldType := fun k => match k with
  | 0 => .array (.object "PlateSlabs$State")
  | _ => .int
abbrev wsX00 : List Cond := u_ws RX0 TX0 2
theorem nmX0 : ∀ a, a < 2 → ∀ b, b < 2 → a ≠ b → (TX0 a).2.1 ≠ (TX0 b).2.1 := by decide +kernel
theorem tyX0_ok : ∀ k, k < 2 → parseFieldDescriptor (TX0 k).2.2.1 = some (tyX0 k) := by decide +kernel
abbrev cX0_init : ByteArray := prog_2_method_1_code
def yX0_init : MethodName := ⟨RX0, "<init>", "()V"⟩
abbrev cX0_push : ByteArray := prog_2_method_2_code
def yX0_push : MethodName := ⟨RX0, "push", "(LPlateSlabs$State;)V"⟩
abbrev cX0_dropOldest : ByteArray := prog_2_method_3_code
def yX0_dropOldest : MethodName := ⟨RX0, "dropOldest", "()V"⟩
abbrev cX0_popInto : ByteArray := prog_2_method_4_code
def yX0_popInto : MethodName := ⟨RX0, "popInto", "(LPlateSlabs$State;)I"⟩
def RX1 : String := "PlateSlabs$Plates"
def TX1 : u_T := fun k => match k with
  | 0 => ("PlateSlabs$Plates", "settings", "[I", true)
  | 1 => ("PlateSlabs$Plates", "depth", "I", false)
  | 2 => ("PlateSlabs$Plates", "charge", "I", false)
  | 3 => ("PlateSlabs$Plates", "voltage", "I", false)
  | 4 => ("PlateSlabs$Plates", "isOn", "Z", false)
  | 5 => ("PlateSlabs$Plates", "gave", "J", false)
  | 6 => ("PlateSlabs$Plates", "leaked", "J", false)
  | _ => ("PlateSlabs$Plates", "sparked", "J", false)
def tyX1 : Nat → FieldType := fun k => match k with
  | 0 => .array .int
  | 1 => .int
  | 2 => .int
  | 3 => .int
  | 4 => .boolean
  | 5 => .long
  | 6 => .long
  | _ => .long
abbrev wsX10 : List Cond := u_ws RX1 TX1 8
theorem nmX1 : ∀ a, a < 8 → ∀ b, b < 8 → a ≠ b → (TX1 a).2.1 ≠ (TX1 b).2.1 := by decide +kernel
theorem tyX1_ok : ∀ k, k < 8 → parseFieldDescriptor (TX1 k).2.2.1 = some (tyX1 k) := by decide +kernel
abbrev cX1_init : ByteArray := prog_3_method_1_code
def yX1_init : MethodName := ⟨RX1, "<init>", "()V"⟩
abbrev cX1_isSetting : ByteArray := prog_3_method_2_code
def yX1_isSetting : MethodName := ⟨RX1, "isSetting", "(I)Z"⟩
abbrev cX1_isInRange : ByteArray := prog_3_method_3_code
def yX1_isInRange : MethodName := ⟨RX1, "isInRange", "(II)Z"⟩
abbrev cX1_copyFrom : ByteArray := prog_3_method_4_code
def yX1_copyFrom : MethodName := ⟨RX1, "copyFrom", "(LPlateSlabs$Plates;)V"⟩
abbrev cX1_capacityAt : ByteArray := prog_3_method_5_code
def yX1_capacityAt : MethodName := ⟨RX1, "capacityAt", "(I)I"⟩
abbrev cX1_stored : ByteArray := prog_3_method_6_code
def yX1_stored : MethodName := ⟨RX1, "stored", "()J"⟩
abbrev cX1_pullOf : ByteArray := prog_3_method_7_code
def yX1_pullOf : MethodName := ⟨RX1, "pullOf", "(I)I"⟩
abbrev cX1_pullAt : ByteArray := prog_3_method_8_code
def yX1_pullAt : MethodName := ⟨RX1, "pullAt", "(I)I"⟩
abbrev cX1_drawnBackAt : ByteArray := prog_3_method_9_code
def yX1_drawnBackAt : MethodName := ⟨RX1, "drawnBackAt", "(I)I"⟩
abbrev cX1_netAt : ByteArray := prog_3_method_10_code
def yX1_netAt : MethodName := ⟨RX1, "netAt", "(I)I"⟩
abbrev cX1_stepBy : ByteArray := prog_3_method_11_code
def yX1_stepBy : MethodName := ⟨RX1, "stepBy", "(I)I"⟩
abbrev cX1_reasonNow : ByteArray := prog_3_method_12_code
def yX1_reasonNow : MethodName := ⟨RX1, "reasonNow", "()I"⟩
abbrev cX1_isDrawnInAt : ByteArray := prog_3_method_13_code
def yX1_isDrawnInAt : MethodName := ⟨RX1, "isDrawnInAt", "(II)Z"⟩
abbrev cX1_isDrawnAllTheWayIn : ByteArray := prog_3_method_14_code
def yX1_isDrawnAllTheWayIn : MethodName := ⟨RX1, "isDrawnAllTheWayIn", "(I)Z"⟩
abbrev cX1_movesInTick : ByteArray := prog_3_method_15_code
def yX1_movesInTick : MethodName := ⟨RX1, "movesInTick", "()Z"⟩
abbrev cX1_leakAway : ByteArray := prog_3_method_16_code
def yX1_leakAway : MethodName := ⟨RX1, "leakAway", "()V"⟩
abbrev cX1_holdVoltage : ByteArray := prog_3_method_17_code
def yX1_holdVoltage : MethodName := ⟨RX1, "holdVoltage", "()V"⟩
def RX2 : String := "PlateSlabs$State"
def TX2 : u_T := fun k => match k with
  | 0 => ("PlateSlabs$State", "pairs", "[LPlateSlabs$Plates;", true)
  | 1 => ("PlateSlabs$State", "tick", "I", false)
  | 2 => ("PlateSlabs$State", "couplings", "I", false)
  | _ => ("PlateSlabs$State", "steps", "I", false)
def tyX2 : Nat → FieldType := fun k => match k with
  | 0 => .array (.object "PlateSlabs$Plates")
  | 1 => .int
  | 2 => .int
  | _ => .int
abbrev wsX20 : List Cond := u_ws RX2 TX2 4
theorem nmX2 : ∀ a, a < 4 → ∀ b, b < 4 → a ≠ b → (TX2 a).2.1 ≠ (TX2 b).2.1 := by decide +kernel
theorem tyX2_ok : ∀ k, k < 4 → parseFieldDescriptor (TX2 k).2.2.1 = some (tyX2 k) := by decide +kernel
abbrev cX2_init : ByteArray := prog_4_method_1_code
def yX2_init : MethodName := ⟨RX2, "<init>", "()V"⟩
abbrev cX2_copyFrom : ByteArray := prog_4_method_2_code
def yX2_copyFrom : MethodName := ⟨RX2, "copyFrom", "(LPlateSlabs$State;)V"⟩
abbrev cX2_change : ByteArray := prog_4_method_3_code
def yX2_change : MethodName := ⟨RX2, "change", "(III)I"⟩
abbrev cX2_connect : ByteArray := prog_4_method_4_code
def yX2_connect : MethodName := ⟨RX2, "connect", "(II)I"⟩
abbrev cX2_disconnect : ByteArray := prog_4_method_5_code
def yX2_disconnect : MethodName := ⟨RX2, "disconnect", "(I)I"⟩
abbrev cX2_putSlab : ByteArray := prog_4_method_6_code
def yX2_putSlab : MethodName := ⟨RX2, "putSlab", "(II)I"⟩
abbrev cX2_share : ByteArray := prog_4_method_7_code
def yX2_share : MethodName := ⟨RX2, "share", "(II)I"⟩
abbrev cX2_shareOf : ByteArray := prog_4_method_8_code
def yX2_shareOf : MethodName := ⟨RX2, "shareOf", "(III)I"⟩
abbrev cX2_moveCharges : ByteArray := prog_4_method_9_code
def yX2_moveCharges : MethodName := ⟨RX2, "moveCharges", "(LPlateSlabs$Plates;LPlateSlabs$Plates;I)V"⟩
abbrev cX2_letPass : ByteArray := prog_4_method_10_code
def yX2_letPass : MethodName := ⟨RX2, "letPass", "(I)I"⟩
def RX3 : String := "PlateSlabs$Text"
def TX3 : u_T := fun k => match k with
  | 0 => ("PlateSlabs$Text", "signs", "[C", true)
  | _ => ("PlateSlabs$Text", "length", "I", false)
def tyX3 : Nat → FieldType := fun k => match k with
  | 0 => .array .char
  | _ => .int
abbrev wsX30 : List Cond := u_ws RX3 TX3 2
theorem nmX3 : ∀ a, a < 2 → ∀ b, b < 2 → a ≠ b → (TX3 a).2.1 ≠ (TX3 b).2.1 := by decide +kernel
theorem tyX3_ok : ∀ k, k < 2 → parseFieldDescriptor (TX3 k).2.2.1 = some (tyX3 k) := by decide +kernel
abbrev cX3_init : ByteArray := prog_5_method_1_code
def yX3_init : MethodName := ⟨RX3, "<init>", "()V"⟩
abbrev cX3_append : ByteArray := prog_5_method_2_code
def yX3_append : MethodName := ⟨RX3, "append", "(C)I"⟩
abbrev cX3_empty : ByteArray := prog_5_method_3_code
def yX3_empty : MethodName := ⟨RX3, "empty", "()I"⟩
abbrev cX3_signAt : ByteArray := prog_5_method_4_code
def yX3_signAt : MethodName := ⟨RX3, "signAt", "(I)C"⟩
def RX4 : String := "PlateSlabs$Trial"
def TX4 : u_T := fun k => match k with
  | 0 => ("PlateSlabs$Trial", "text", "LPlateSlabs$Text;", true)
  | 1 => ("PlateSlabs$Trial", "kinds", "[I", true)
  | 2 => ("PlateSlabs$Trial", "pairs", "[I", true)
  | 3 => ("PlateSlabs$Trial", "values", "[I", true)
  | 4 => ("PlateSlabs$Trial", "things", "I", false)
  | 5 => ("PlateSlabs$Trial", "at", "I", false)
  | 6 => ("PlateSlabs$Trial", "pair", "I", false)
  | _ => ("PlateSlabs$Trial", "value", "I", false)
def tyX4 : Nat → FieldType := fun k => match k with
  | 0 => .object "PlateSlabs$Text"
  | 1 => .array .int
  | 2 => .array .int
  | 3 => .array .int
  | 4 => .int
  | 5 => .int
  | 6 => .int
  | _ => .int
abbrev wsX40 : List Cond := u_ws RX4 TX4 8
theorem nmX4 : ∀ a, a < 8 → ∀ b, b < 8 → a ≠ b → (TX4 a).2.1 ≠ (TX4 b).2.1 := by decide +kernel
theorem tyX4_ok : ∀ k, k < 8 → parseFieldDescriptor (TX4 k).2.2.1 = some (tyX4 k) := by decide +kernel
abbrev cX4_init : ByteArray := prog_6_method_1_code
def yX4_init : MethodName := ⟨RX4, "<init>", "()V"⟩
abbrev cX4_kindOf : ByteArray := prog_6_method_2_code
def yX4_kindOf : MethodName := ⟨RX4, "kindOf", "(I)I"⟩
abbrev cX4_pairOf : ByteArray := prog_6_method_3_code
def yX4_pairOf : MethodName := ⟨RX4, "pairOf", "(I)I"⟩
abbrev cX4_valueOf : ByteArray := prog_6_method_4_code
def yX4_valueOf : MethodName := ⟨RX4, "valueOf", "(I)I"⟩
abbrev cX4_isThing : ByteArray := prog_6_method_5_code
def yX4_isThing : MethodName := ⟨RX4, "isThing", "(I)Z"⟩
abbrev cX4_read : ByteArray := prog_6_method_6_code
def yX4_read : MethodName := ⟨RX4, "read", "()I"⟩
abbrev cX4_readThing : ByteArray := prog_6_method_7_code
def yX4_readThing : MethodName := ⟨RX4, "readThing", "(I)Z"⟩
abbrev cX4_readSign : ByteArray := prog_6_method_8_code
def yX4_readSign : MethodName := ⟨RX4, "readSign", "(C)Z"⟩
abbrev cX4_readPair : ByteArray := prog_6_method_9_code
def yX4_readPair : MethodName := ⟨RX4, "readPair", "()Z"⟩
abbrev cX4_readOther : ByteArray := prog_6_method_10_code
def yX4_readOther : MethodName := ⟨RX4, "readOther", "()Z"⟩
abbrev cX4_readNumber : ByteArray := prog_6_method_11_code
def yX4_readNumber : MethodName := ⟨RX4, "readNumber", "(II)Z"⟩
abbrev cX4_digitAt : ByteArray := prog_6_method_12_code
def yX4_digitAt : MethodName := ⟨RX4, "digitAt", "(I)I"⟩
def RX5 : String := "PlateSlabs"
def TX5 : u_T := fun k => match k with
  | 0 => ("PlateSlabs", "now", "LPlateSlabs$State;", true)
  | 1 => ("PlateSlabs", "before", "LPlateSlabs$State;", true)
  | 2 => ("PlateSlabs", "snapshot", "LPlateSlabs$State;", true)
  | 3 => ("PlateSlabs", "isKept", "Z", false)
  | 4 => ("PlateSlabs", "history", "LPlateSlabs$History;", true)
  | 5 => ("PlateSlabs", "guess", "LPlateSlabs$Plates;", true)
  | 6 => ("PlateSlabs", "trial", "LPlateSlabs$Trial;", true)
  | 7 => ("PlateSlabs", "wasStopped", "Z", false)
  | 8 => ("PlateSlabs", "stopNumber", "I", false)
  | _ => ("PlateSlabs", "stopError", "I", false)
def tyX5 : Nat → FieldType := fun k => match k with
  | 0 => .object "PlateSlabs$State"
  | 1 => .object "PlateSlabs$State"
  | 2 => .object "PlateSlabs$State"
  | 3 => .boolean
  | 4 => .object "PlateSlabs$History"
  | 5 => .object "PlateSlabs$Plates"
  | 6 => .object "PlateSlabs$Trial"
  | 7 => .boolean
  | 8 => .int
  | _ => .int
abbrev wsX50 : List Cond := u_ws RX5 TX5 10
theorem nmX5 : ∀ a, a < 10 → ∀ b, b < 10 → a ≠ b → (TX5 a).2.1 ≠ (TX5 b).2.1 := by decide +kernel
theorem tyX5_ok : ∀ k, k < 10 → parseFieldDescriptor (TX5 k).2.2.1 = some (tyX5 k) := by decide +kernel
abbrev cX5_init : ByteArray := prog_1_method_1_code
def yX5_init : MethodName := ⟨RX5, "<init>", "()V"⟩
abbrev cX5_set : ByteArray := prog_1_method_2_code
def yX5_set : MethodName := ⟨RX5, "set", "(III)I"⟩
abbrev cX5_turnOn : ByteArray := prog_1_method_3_code
def yX5_turnOn : MethodName := ⟨RX5, "turnOn", "(II)I"⟩
abbrev cX5_turnOff : ByteArray := prog_1_method_4_code
def yX5_turnOff : MethodName := ⟨RX5, "turnOff", "(I)I"⟩
abbrev cX5_put : ByteArray := prog_1_method_5_code
def yX5_put : MethodName := ⟨RX5, "put", "(II)I"⟩
abbrev cX5_couple : ByteArray := prog_1_method_6_code
def yX5_couple : MethodName := ⟨RX5, "couple", "(II)I"⟩
abbrev cX5_pass : ByteArray := prog_1_method_7_code
def yX5_pass : MethodName := ⟨RX5, "pass", "(I)I"⟩
abbrev cX5_recorded : ByteArray := prog_1_method_8_code
def yX5_recorded : MethodName := ⟨RX5, "recorded", "(I)I"⟩
abbrev cX5_type : ByteArray := prog_1_method_9_code
def yX5_type : MethodName := ⟨RX5, "type", "(C)I"⟩
abbrev cX5_clearText : ByteArray := prog_1_method_10_code
def yX5_clearText : MethodName := ⟨RX5, "clearText", "()I"⟩
abbrev cX5_perform : ByteArray := prog_1_method_11_code
def yX5_perform : MethodName := ⟨RX5, "perform", "()I"⟩
abbrev cX5_doThing : ByteArray := prog_1_method_12_code
def yX5_doThing : MethodName := ⟨RX5, "doThing", "(I)I"⟩
abbrev cX5_stopAt : ByteArray := prog_1_method_13_code
def yX5_stopAt : MethodName := ⟨RX5, "stopAt", "(II)V"⟩
abbrev cX5_stopped : ByteArray := prog_1_method_14_code
def yX5_stopped : MethodName := ⟨RX5, "stopped", "(I)I"⟩
abbrev cX5_undo : ByteArray := prog_1_method_15_code
def yX5_undo : MethodName := ⟨RX5, "undo", "()I"⟩
abbrev cX5_keep : ByteArray := prog_1_method_16_code
def yX5_keep : MethodName := ⟨RX5, "keep", "()I"⟩
abbrev cX5_restore : ByteArray := prog_1_method_17_code
def yX5_restore : MethodName := ⟨RX5, "restore", "()I"⟩
abbrev cX5_pair : ByteArray := prog_1_method_18_code
def yX5_pair : MethodName := ⟨RX5, "pair", "(II)I"⟩
abbrev cX5_book : ByteArray := prog_1_method_19_code
def yX5_book : MethodName := ⟨RX5, "book", "(II)J"⟩
abbrev cX5_reason : ByteArray := prog_1_method_20_code
def yX5_reason : MethodName := ⟨RX5, "reason", "(I)I"⟩
abbrev cX5_force : ByteArray := prog_1_method_21_code
def yX5_force : MethodName := ⟨RX5, "force", "(II)I"⟩
abbrev cX5_restsIn : ByteArray := prog_1_method_22_code
def yX5_restsIn : MethodName := ⟨RX5, "restsIn", "(I)I"⟩
abbrev cX5_depthIn : ByteArray := prog_1_method_23_code
def yX5_depthIn : MethodName := ⟨RX5, "depthIn", "(II)I"⟩
abbrev cX5_leastVoltage : ByteArray := prog_1_method_24_code
def yX5_leastVoltage : MethodName := ⟨RX5, "leastVoltage", "(I)I"⟩
abbrev cX5_drawingVoltage : ByteArray := prog_1_method_25_code
def yX5_drawingVoltage : MethodName := ⟨RX5, "drawingVoltage", "(I)I"⟩
abbrev cX5_strongest : ByteArray := prog_1_method_26_code
def yX5_strongest : MethodName := ⟨RX5, "strongest", "()I"⟩
abbrev cX5_count : ByteArray := prog_1_method_27_code
def yX5_count : MethodName := ⟨RX5, "count", "(I)I"⟩
abbrev cX5_sumOfPairs : ByteArray := prog_1_method_28_code
def yX5_sumOfPairs : MethodName := ⟨RX5, "sumOfPairs", "(I)I"⟩
abbrev cX5_partOfCount : ByteArray := prog_1_method_29_code
def yX5_partOfCount : MethodName := ⟨RX5, "partOfCount", "(LPlateSlabs$Plates;I)I"⟩
abbrev cX5_isPair : ByteArray := prog_1_method_30_code
def yX5_isPair : MethodName := ⟨RX5, "isPair", "(I)Z"⟩
abbrev cX5_isDepth : ByteArray := prog_1_method_31_code
def yX5_isDepth : MethodName := ⟨RX5, "isDepth", "(I)Z"⟩
def RX6 : String := "PlateSlabsModel"
def TX6 : u_T := fun k => match k with
  | 0 => ("PlateSlabsModel", "s", "[I", true)
  | 1 => ("PlateSlabsModel", "e", "[J", true)
  | 2 => ("PlateSlabsModel", "ahead", "[I", true)
  | 3 => ("PlateSlabsModel", "eAhead", "[J", true)
  | 4 => ("PlateSlabsModel", "snapshot", "[I", true)
  | 5 => ("PlateSlabsModel", "eSnapshot", "[J", true)
  | 6 => ("PlateSlabsModel", "isKept", "Z", false)
  | 7 => ("PlateSlabsModel", "before", "[I", true)
  | 8 => ("PlateSlabsModel", "eBefore", "[J", true)
  | 9 => ("PlateSlabsModel", "known", "I", false)
  | 10 => ("PlateSlabsModel", "text", "[I", true)
  | 11 => ("PlateSlabsModel", "length", "I", false)
  | 12 => ("PlateSlabsModel", "stopAt", "I", false)
  | 13 => ("PlateSlabsModel", "stopBy", "I", false)
  | 14 => ("PlateSlabsModel", "position", "I", false)
  | 15 => ("PlateSlabsModel", "isWrong", "Z", false)
  | 16 => ("PlateSlabsModel", "letter", "I", false)
  | 17 => ("PlateSlabsModel", "first", "I", false)
  | 18 => ("PlateSlabsModel", "second", "I", false)
  | 19 => ("PlateSlabsModel", "stop", "I", false)
  | 20 => ("PlateSlabsModel", "goneTo", "I", false)
  | _ => ("PlateSlabsModel", "leftOver", "I", false)
def tyX6 : Nat → FieldType := fun k => match k with
  | 0 => .array .int
  | 1 => .array .long
  | 2 => .array .int
  | 3 => .array .long
  | 4 => .array .int
  | 5 => .array .long
  | 6 => .boolean
  | 7 => .array .int
  | 8 => .array .long
  | 9 => .int
  | 10 => .array .int
  | 11 => .int
  | 12 => .int
  | 13 => .int
  | 14 => .int
  | 15 => .boolean
  | 16 => .int
  | 17 => .int
  | 18 => .int
  | 19 => .int
  | 20 => .int
  | _ => .int
abbrev wsX60 : List Cond := u_ws RX6 TX6 22
theorem nmX6 : ∀ a, a < 22 → ∀ b, b < 22 → a ≠ b → (TX6 a).2.1 ≠ (TX6 b).2.1 := by decide +kernel
theorem tyX6_ok : ∀ k, k < 22 → parseFieldDescriptor (TX6 k).2.2.1 = some (tyX6 k) := by decide +kernel
abbrev cX6_init : ByteArray := prog_8_method_1_code
def yX6_init : MethodName := ⟨RX6, "<init>", "()V"⟩
abbrev cX6_in : ByteArray := prog_8_method_3_code
def yX6_in : MethodName := ⟨RX6, "in", "(III)Z"⟩
abbrev cX6_isPair : ByteArray := prog_8_method_4_code
def yX6_isPair : MethodName := ⟨RX6, "isPair", "(I)Z"⟩
abbrev cX6_at : ByteArray := prog_8_method_5_code
def yX6_at : MethodName := ⟨RX6, "at", "(II)I"⟩
abbrev cX6_of : ByteArray := prog_8_method_6_code
def yX6_of : MethodName := ⟨RX6, "of", "(II)I"⟩
abbrev cX6_isOn : ByteArray := prog_8_method_7_code
def yX6_isOn : MethodName := ⟨RX6, "isOn", "(I)Z"⟩
abbrev cX6_looks : ByteArray := prog_8_method_8_code
def yX6_looks : MethodName := ⟨RX6, "looks", "()V"⟩
abbrev cX6_looksBack : ByteArray := prog_8_method_9_code
def yX6_looksBack : MethodName := ⟨RX6, "looksBack", "()V"⟩
abbrev cX6_records : ByteArray := prog_8_method_10_code
def yX6_records : MethodName := ⟨RX6, "records", "()V"⟩
abbrev cX6_capacity : ByteArray := prog_8_method_11_code
def yX6_capacity : MethodName := ⟨RX6, "capacity", "(II)I"⟩
abbrev cX6_capacityNow : ByteArray := prog_8_method_12_code
def yX6_capacityNow : MethodName := ⟨RX6, "capacityNow", "(I)I"⟩
abbrev cX6_stored : ByteArray := prog_8_method_13_code
def yX6_stored : MethodName := ⟨RX6, "stored", "(I)J"⟩
abbrev cX6_pullBy : ByteArray := prog_8_method_14_code
def yX6_pullBy : MethodName := ⟨RX6, "pullBy", "(II)I"⟩
abbrev cX6_pullOf : ByteArray := prog_8_method_15_code
def yX6_pullOf : MethodName := ⟨RX6, "pullOf", "(III)I"⟩
abbrev cX6_pullAt : ByteArray := prog_8_method_16_code
def yX6_pullAt : MethodName := ⟨RX6, "pullAt", "(III)I"⟩
abbrev cX6_spring : ByteArray := prog_8_method_17_code
def yX6_spring : MethodName := ⟨RX6, "spring", "(II)I"⟩
abbrev cX6_net : ByteArray := prog_8_method_18_code
def yX6_net : MethodName := ⟨RX6, "net", "(I)I"⟩
abbrev cX6_size : ByteArray := prog_8_method_19_code
def yX6_size : MethodName := ⟨RX6, "size", "(I)I"⟩
abbrev cX6_move : ByteArray := prog_8_method_20_code
def yX6_move : MethodName := ⟨RX6, "move", "(III)I"⟩
abbrev cX6_leak : ByteArray := prog_8_method_21_code
def yX6_leak : MethodName := ⟨RX6, "leak", "(II)I"⟩
abbrev cX6_charges : ByteArray := prog_8_method_22_code
def yX6_charges : MethodName := ⟨RX6, "charges", "(I)V"⟩
abbrev cX6_tick : ByteArray := prog_8_method_23_code
def yX6_tick : MethodName := ⟨RX6, "tick", "(I)I"⟩
abbrev cX6_passes : ByteArray := prog_8_method_24_code
def yX6_passes : MethodName := ⟨RX6, "passes", "(I)I"⟩
abbrev cX6_turnsOn : ByteArray := prog_8_method_25_code
def yX6_turnsOn : MethodName := ⟨RX6, "turnsOn", "(II)I"⟩
abbrev cX6_turnsOff : ByteArray := prog_8_method_26_code
def yX6_turnsOff : MethodName := ⟨RX6, "turnsOff", "(I)I"⟩
abbrev cX6_lays : ByteArray := prog_8_method_27_code
def yX6_lays : MethodName := ⟨RX6, "lays", "(III)I"⟩
abbrev cX6_half : ByteArray := prog_8_method_28_code
def yX6_half : MethodName := ⟨RX6, "half", "(J)J"⟩
abbrev cX6_couples : ByteArray := prog_8_method_29_code
def yX6_couples : MethodName := ⟨RX6, "couples", "(II)I"⟩
abbrev cX6_acted : ByteArray := prog_8_method_30_code
def yX6_acted : MethodName := ⟨RX6, "acted", "(I)I"⟩
abbrev cX6_least : ByteArray := prog_8_method_31_code
def yX6_least : MethodName := ⟨RX6, "least", "(I)I"⟩
abbrev cX6_most : ByteArray := prog_8_method_32_code
def yX6_most : MethodName := ⟨RX6, "most", "(I)I"⟩
abbrev cX6_set : ByteArray := prog_8_method_33_code
def yX6_set : MethodName := ⟨RX6, "set", "(III)I"⟩
abbrev cX6_turnOn : ByteArray := prog_8_method_34_code
def yX6_turnOn : MethodName := ⟨RX6, "turnOn", "(II)I"⟩
abbrev cX6_turnOff : ByteArray := prog_8_method_35_code
def yX6_turnOff : MethodName := ⟨RX6, "turnOff", "(I)I"⟩
abbrev cX6_put : ByteArray := prog_8_method_36_code
def yX6_put : MethodName := ⟨RX6, "put", "(II)I"⟩
abbrev cX6_couple : ByteArray := prog_8_method_37_code
def yX6_couple : MethodName := ⟨RX6, "couple", "(II)I"⟩
abbrev cX6_pass : ByteArray := prog_8_method_38_code
def yX6_pass : MethodName := ⟨RX6, "pass", "(I)I"⟩
abbrev cX6_type : ByteArray := prog_8_method_39_code
def yX6_type : MethodName := ⟨RX6, "type", "(C)I"⟩
abbrev cX6_clearText : ByteArray := prog_8_method_40_code
def yX6_clearText : MethodName := ⟨RX6, "clearText", "()I"⟩
abbrev cX6_isNext : ByteArray := prog_8_method_41_code
def yX6_isNext : MethodName := ⟨RX6, "isNext", "(II)Z"⟩
abbrev cX6_takes : ByteArray := prog_8_method_42_code
def yX6_takes : MethodName := ⟨RX6, "takes", "(II)I"⟩
abbrev cX6_takesNumber : ByteArray := prog_8_method_43_code
def yX6_takesNumber : MethodName := ⟨RX6, "takesNumber", "(II)I"⟩
abbrev cX6_readThing : ByteArray := prog_8_method_44_code
def yX6_readThing : MethodName := ⟨RX6, "readThing", "()V"⟩
abbrev cX6_does : ByteArray := prog_8_method_45_code
def yX6_does : MethodName := ⟨RX6, "does", "()I"⟩
abbrev cX6_runs : ByteArray := prog_8_method_46_code
def yX6_runs : MethodName := ⟨RX6, "runs", "(Z)I"⟩
abbrev cX6_perform : ByteArray := prog_8_method_47_code
def yX6_perform : MethodName := ⟨RX6, "perform", "()I"⟩
abbrev cX6_stopped : ByteArray := prog_8_method_48_code
def yX6_stopped : MethodName := ⟨RX6, "stopped", "(I)I"⟩
abbrev cX6_undo : ByteArray := prog_8_method_49_code
def yX6_undo : MethodName := ⟨RX6, "undo", "()I"⟩
abbrev cX6_keep : ByteArray := prog_8_method_50_code
def yX6_keep : MethodName := ⟨RX6, "keep", "()I"⟩
abbrev cX6_restore : ByteArray := prog_8_method_51_code
def yX6_restore : MethodName := ⟨RX6, "restore", "()I"⟩
abbrev cX6_pullNow : ByteArray := prog_8_method_52_code
def yX6_pullNow : MethodName := ⟨RX6, "pullNow", "(I)I"⟩
abbrev cX6_pair : ByteArray := prog_8_method_53_code
def yX6_pair : MethodName := ⟨RX6, "pair", "(II)I"⟩
abbrev cX6_book : ByteArray := prog_8_method_54_code
def yX6_book : MethodName := ⟨RX6, "book", "(II)J"⟩
abbrev cX6_why : ByteArray := prog_8_method_55_code
def yX6_why : MethodName := ⟨RX6, "why", "(I)I"⟩
abbrev cX6_reason : ByteArray := prog_8_method_56_code
def yX6_reason : MethodName := ⟨RX6, "reason", "(I)I"⟩
abbrev cX6_force : ByteArray := prog_8_method_57_code
def yX6_force : MethodName := ⟨RX6, "force", "(II)I"⟩
abbrev cX6_goes : ByteArray := prog_8_method_58_code
def yX6_goes : MethodName := ⟨RX6, "goes", "(I)I"⟩
abbrev cX6_sets : ByteArray := prog_8_method_59_code
def yX6_sets : MethodName := ⟨RX6, "sets", "(I)V"⟩
abbrev cX6_restsIn : ByteArray := prog_8_method_60_code
def yX6_restsIn : MethodName := ⟨RX6, "restsIn", "(I)I"⟩
abbrev cX6_depthIn : ByteArray := prog_8_method_61_code
def yX6_depthIn : MethodName := ⟨RX6, "depthIn", "(II)I"⟩
abbrev cX6_leastVoltage : ByteArray := prog_8_method_62_code
def yX6_leastVoltage : MethodName := ⟨RX6, "leastVoltage", "(I)I"⟩
abbrev cX6_isDrawn : ByteArray := prog_8_method_63_code
def yX6_isDrawn : MethodName := ⟨RX6, "isDrawn", "(II)Z"⟩
abbrev cX6_drawingVoltage : ByteArray := prog_8_method_64_code
def yX6_drawingVoltage : MethodName := ⟨RX6, "drawingVoltage", "(I)I"⟩
abbrev cX6_strongest : ByteArray := prog_8_method_65_code
def yX6_strongest : MethodName := ⟨RX6, "strongest", "()I"⟩
abbrev cX6_count : ByteArray := prog_8_method_66_code
def yX6_count : MethodName := ⟨RX6, "count", "(I)I"⟩
def RJ9 : String := "java/lang/Math"
def TJ9 : u_T := fun k => match k with
  | _ => ("", "", "", false)
def tyJ9 : Nat → FieldType := fun k => match k with
  | _ => .int
abbrev wsJ90 : List Cond := u_ws RJ9 TJ9 0
theorem nmJ9 : ∀ a, a < 0 → ∀ b, b < 0 → a ≠ b → (TJ9 a).2.1 ≠ (TJ9 b).2.1 := by decide +kernel
theorem tyJ9_ok : ∀ k, k < 0 → parseFieldDescriptor (TJ9 k).2.2.1 = some (tyJ9 k) := by decide +kernel
abbrev cJ9_floorDiv_f86c9 : ByteArray := prog_9_method_49_code
def yJ9_floorDiv_f86c9 : MethodName := ⟨RJ9, "floorDiv", "(JJ)J"⟩
abbrev cJ9_abs_0f7a4 : ByteArray := prog_9_method_59_code
def yJ9_abs_0f7a4 : MethodName := ⟨RJ9, "abs", "(I)I"⟩
def RJ10 : String := "java/lang/System"
def TJ10 : u_T := fun k => match k with
  | _ => ("", "", "", false)
def tyJ10 : Nat → FieldType := fun k => match k with
  | _ => .int
abbrev wsJ100 : List Cond := u_ws RJ10 TJ10 0
theorem nmJ10 : ∀ a, a < 0 → ∀ b, b < 0 → a ≠ b → (TJ10 a).2.1 ≠ (TJ10 b).2.1 := by decide +kernel
theorem tyJ10_ok : ∀ k, k < 0 → parseFieldDescriptor (TJ10 k).2.2.1 = some (tyJ10 k) := by decide +kernel
def RL : String := "PlateSlabsLaw"
abbrev cL_law : ByteArray := code
def yL_law : MethodName := ⟨RL, "law", "([I)Z"⟩
def wsX1_init : List Cond := .code yX1_init cX1_init 1 none :: ([.methodLink RX1 3 objectInit, .instanceMethod objectInit, .code objectInit ⟨#[0xb1]⟩ 1 none, .arrayClass .int, .fieldLink RX1 9 "PlateSlabs$Plates" "settings" "[I", .fieldLink RX1 15 "PlateSlabs$Plates" "voltage" "I"] ++ wsX10)
def wsX2_init : List Cond := .code yX2_init cX2_init 2 none :: ([.methodLink RX2 3 objectInit, .instanceMethod objectInit, .code objectInit ⟨#[0xb1]⟩ 1 none, .classLink RX2 9 RX1, .fieldLink RX2 11 "PlateSlabs$State" "pairs" "[LPlateSlabs$Plates;", .instantiable RX1 8, .initialized RX1, .instanceMethod yX1_init, .code yX1_init cX1_init 1 none, .methodLink RX1 3 objectInit, .arrayClass .int, .fieldLink RX1 9 "PlateSlabs$Plates" "settings" "[I", .fieldLink RX1 15 "PlateSlabs$Plates" "voltage" "I"] ++ wsX20 ++ wsX10)
def wsX0_init : List Cond := .code yX0_init cX0_init 2 none :: ([.methodLink RX0 3 objectInit, .instanceMethod objectInit, .code objectInit ⟨#[0xb1]⟩ 1 none, .classLink RX0 9 RX2, .fieldLink RX0 11 "PlateSlabs$History" "states" "[LPlateSlabs$State;", .instantiable RX2 4, .initialized RX2, .methodLink RX0 17 yX2_init, .instanceMethod yX2_init, .code yX2_init cX2_init 2 none, .methodLink RX2 3 objectInit, .classLink RX2 9 RX1, .fieldLink RX2 11 "PlateSlabs$State" "pairs" "[LPlateSlabs$Plates;", .instantiable RX1 8, .initialized RX1, .instanceMethod yX1_init, .code yX1_init cX1_init 1 none, .methodLink RX1 3 objectInit, .arrayClass .int, .fieldLink RX1 9 "PlateSlabs$Plates" "settings" "[I", .fieldLink RX1 15 "PlateSlabs$Plates" "voltage" "I"] ++ wsX00 ++ wsX20 ++ wsX10)
def wsX0_dropOldest : List Cond := .code yX0_dropOldest cX0_dropOldest 3 none :: ([.fieldLink RX0 11 "PlateSlabs$History" "states" "[LPlateSlabs$State;", .fieldLink RX0 18 "PlateSlabs$History" "size" "I"] ++ wsX00)
def wsX1_copyFrom : List Cond := .code yX1_copyFrom cX1_copyFrom 2 none :: ([.fieldLink RX1 9 "PlateSlabs$Plates" "settings" "[I", .methodLink RX1 29 arraycopyName, .native arraycopyName, .static arraycopyName, .initialized "java/lang/System", .fieldLink RX1 35 "PlateSlabs$Plates" "depth" "I", .fieldLink RX1 38 "PlateSlabs$Plates" "charge" "I", .fieldLink RX1 15 "PlateSlabs$Plates" "voltage" "I", .fieldLink RX1 41 "PlateSlabs$Plates" "isOn" "Z", .fieldLink RX1 45 "PlateSlabs$Plates" "gave" "J", .fieldLink RX1 49 "PlateSlabs$Plates" "leaked" "J", .fieldLink RX1 52 "PlateSlabs$Plates" "sparked" "J"] ++ wsX10)
def wsX2_copyFrom : List Cond := .code yX2_copyFrom cX2_copyFrom 3 none :: ([.fieldLink RX2 11 "PlateSlabs$State" "pairs" "[LPlateSlabs$Plates;", .fieldLink RX2 22 "PlateSlabs$State" "tick" "I", .fieldLink RX2 26 "PlateSlabs$State" "couplings" "I", .fieldLink RX2 29 "PlateSlabs$State" "steps" "I", .methodLink RX2 18 yX1_copyFrom, .instanceMethod yX1_copyFrom, .selects RX1 yX1_copyFrom yX1_copyFrom, .initialized RX1, .code yX1_copyFrom cX1_copyFrom 2 none, .fieldLink RX1 9 "PlateSlabs$Plates" "settings" "[I", .methodLink RX1 29 arraycopyName, .native arraycopyName, .static arraycopyName, .initialized "java/lang/System", .fieldLink RX1 35 "PlateSlabs$Plates" "depth" "I", .fieldLink RX1 38 "PlateSlabs$Plates" "charge" "I", .fieldLink RX1 15 "PlateSlabs$Plates" "voltage" "I", .fieldLink RX1 41 "PlateSlabs$Plates" "isOn" "Z", .fieldLink RX1 45 "PlateSlabs$Plates" "gave" "J", .fieldLink RX1 49 "PlateSlabs$Plates" "leaked" "J", .fieldLink RX1 52 "PlateSlabs$Plates" "sparked" "J"] ++ wsX20 ++ wsX10)
def wsX0_push_r1 : List Cond := [Cond.fieldLink RX0 18 "PlateSlabs$History" "size" "I", Cond.fieldLink RX0 11 "PlateSlabs$History" "states" "[LPlateSlabs$State;", Cond.methodLink RX0 22 yX0_dropOldest, Cond.instanceMethod yX0_dropOldest, Cond.selects RX0 yX0_dropOldest yX0_dropOldest, Cond.initialized RX0, Cond.code yX0_dropOldest cX0_dropOldest 3 none, Cond.methodLink RX0 25 yX2_copyFrom, Cond.instanceMethod yX2_copyFrom, Cond.selects RX2 yX2_copyFrom yX2_copyFrom, Cond.initialized RX2, Cond.code yX2_copyFrom cX2_copyFrom 3 none, Cond.fieldLink RX2 11 "PlateSlabs$State" "pairs" "[LPlateSlabs$Plates;", Cond.fieldLink RX2 22 "PlateSlabs$State" "tick" "I", Cond.fieldLink RX2 26 "PlateSlabs$State" "couplings" "I", Cond.fieldLink RX2 29 "PlateSlabs$State" "steps" "I", Cond.methodLink RX2 18 yX1_copyFrom, Cond.instanceMethod yX1_copyFrom, Cond.selects RX1 yX1_copyFrom yX1_copyFrom, Cond.initialized RX1, Cond.code yX1_copyFrom cX1_copyFrom 2 none, Cond.fieldLink RX1 9 "PlateSlabs$Plates" "settings" "[I", Cond.methodLink RX1 29 arraycopyName, Cond.native arraycopyName]
def wsX0_push_r2 : List Cond := [Cond.static arraycopyName, Cond.initialized "java/lang/System", Cond.fieldLink RX1 35 "PlateSlabs$Plates" "depth" "I", Cond.fieldLink RX1 38 "PlateSlabs$Plates" "charge" "I", Cond.fieldLink RX1 15 "PlateSlabs$Plates" "voltage" "I", Cond.fieldLink RX1 41 "PlateSlabs$Plates" "isOn" "Z", Cond.fieldLink RX1 45 "PlateSlabs$Plates" "gave" "J", Cond.fieldLink RX1 49 "PlateSlabs$Plates" "leaked" "J", Cond.fieldLink RX1 52 "PlateSlabs$Plates" "sparked" "J"]
def wsX0_push : List Cond := .code yX0_push cX0_push 2 none :: ((wsX0_push_r1 ++ wsX0_push_r2) ++ wsX00 ++ wsX20 ++ wsX10)
def wsX0_popInto_r1 : List Cond := [Cond.fieldLink RX0 18 "PlateSlabs$History" "size" "I", Cond.fieldLink RX0 11 "PlateSlabs$History" "states" "[LPlateSlabs$State;", Cond.methodLink RX0 25 yX2_copyFrom, Cond.instanceMethod yX2_copyFrom, Cond.selects RX2 yX2_copyFrom yX2_copyFrom, Cond.initialized RX2, Cond.code yX2_copyFrom cX2_copyFrom 3 none, Cond.fieldLink RX2 11 "PlateSlabs$State" "pairs" "[LPlateSlabs$Plates;", Cond.fieldLink RX2 22 "PlateSlabs$State" "tick" "I", Cond.fieldLink RX2 26 "PlateSlabs$State" "couplings" "I", Cond.fieldLink RX2 29 "PlateSlabs$State" "steps" "I", Cond.methodLink RX2 18 yX1_copyFrom, Cond.instanceMethod yX1_copyFrom, Cond.selects RX1 yX1_copyFrom yX1_copyFrom, Cond.initialized RX1, Cond.code yX1_copyFrom cX1_copyFrom 2 none, Cond.fieldLink RX1 9 "PlateSlabs$Plates" "settings" "[I", Cond.methodLink RX1 29 arraycopyName, Cond.native arraycopyName, Cond.static arraycopyName, Cond.initialized "java/lang/System", Cond.fieldLink RX1 35 "PlateSlabs$Plates" "depth" "I", Cond.fieldLink RX1 38 "PlateSlabs$Plates" "charge" "I", Cond.fieldLink RX1 15 "PlateSlabs$Plates" "voltage" "I"]
def wsX0_popInto_r2 : List Cond := [Cond.fieldLink RX1 41 "PlateSlabs$Plates" "isOn" "Z", Cond.fieldLink RX1 45 "PlateSlabs$Plates" "gave" "J", Cond.fieldLink RX1 49 "PlateSlabs$Plates" "leaked" "J", Cond.fieldLink RX1 52 "PlateSlabs$Plates" "sparked" "J"]
def wsX0_popInto : List Cond := .code yX0_popInto cX0_popInto 2 (some .int) :: ((wsX0_popInto_r1 ++ wsX0_popInto_r2) ++ wsX00 ++ wsX20 ++ wsX10)
def wsX1_isSetting : List Cond := .code yX1_isSetting cX1_isSetting 1 (some .boolean) :: ([])
def wsX1_isInRange : List Cond := .code yX1_isInRange cX1_isInRange 2 (some .boolean) :: ([.fieldLink RX1 23 "PlateSlabs$Plates" "LEAST" "[I", .fieldLink RX1 26 "PlateSlabs$Plates" "GREATEST" "[I", .methodLink RX1 19 yX1_isSetting, .static yX1_isSetting, .initialized RX1, .code yX1_isSetting cX1_isSetting 1 (some .boolean)])
def wsX1_capacityAt : List Cond := .code yX1_capacityAt cX1_capacityAt 2 (some .int) :: ([.fieldLink RX1 9 "PlateSlabs$Plates" "settings" "[I"] ++ wsX10)
def wsX1_stored : List Cond := .code yX1_stored cX1_stored 3 (some .long) :: ([.fieldLink RX1 41 "PlateSlabs$Plates" "isOn" "Z", .fieldLink RX1 15 "PlateSlabs$Plates" "voltage" "I", .fieldLink RX1 38 "PlateSlabs$Plates" "charge" "I", .fieldLink RX1 35 "PlateSlabs$Plates" "depth" "I", .methodLink RX1 55 yX1_capacityAt, .instanceMethod yX1_capacityAt, .selects RX1 yX1_capacityAt yX1_capacityAt, .initialized RX1, .code yX1_capacityAt cX1_capacityAt 2 (some .int), .fieldLink RX1 9 "PlateSlabs$Plates" "settings" "[I"] ++ wsX10)
def wsX1_pullOf : List Cond := .code yX1_pullOf cX1_pullOf 2 (some .int) :: ([.fieldLink RX1 9 "PlateSlabs$Plates" "settings" "[I"] ++ wsX10)
def wsX1_pullAt : List Cond := .code yX1_pullAt cX1_pullAt 6 (some .int) :: ([.fieldLink RX1 41 "PlateSlabs$Plates" "isOn" "Z", .fieldLink RX1 15 "PlateSlabs$Plates" "voltage" "I", .fieldLink RX1 9 "PlateSlabs$Plates" "settings" "[I", .fieldLink RX1 38 "PlateSlabs$Plates" "charge" "I", .methodLink RX1 59 yX1_pullOf, .instanceMethod yX1_pullOf, .selects RX1 yX1_pullOf yX1_pullOf, .initialized RX1, .code yX1_pullOf cX1_pullOf 2 (some .int), .methodLink RX1 55 yX1_capacityAt, .instanceMethod yX1_capacityAt, .selects RX1 yX1_capacityAt yX1_capacityAt, .code yX1_capacityAt cX1_capacityAt 2 (some .int)] ++ wsX10)
def wsX1_drawnBackAt : List Cond := .code yX1_drawnBackAt cX1_drawnBackAt 2 (some .int) :: ([.fieldLink RX1 9 "PlateSlabs$Plates" "settings" "[I"] ++ wsX10)
def wsX1_netAt : List Cond := .code yX1_netAt cX1_netAt 2 (some .int) :: ([.methodLink RX1 62 yX1_pullAt, .instanceMethod yX1_pullAt, .selects RX1 yX1_pullAt yX1_pullAt, .initialized RX1, .code yX1_pullAt cX1_pullAt 6 (some .int), .fieldLink RX1 41 "PlateSlabs$Plates" "isOn" "Z", .fieldLink RX1 15 "PlateSlabs$Plates" "voltage" "I", .fieldLink RX1 9 "PlateSlabs$Plates" "settings" "[I", .fieldLink RX1 38 "PlateSlabs$Plates" "charge" "I", .methodLink RX1 59 yX1_pullOf, .instanceMethod yX1_pullOf, .selects RX1 yX1_pullOf yX1_pullOf, .code yX1_pullOf cX1_pullOf 2 (some .int), .methodLink RX1 55 yX1_capacityAt, .instanceMethod yX1_capacityAt, .selects RX1 yX1_capacityAt yX1_capacityAt, .code yX1_capacityAt cX1_capacityAt 2 (some .int), .methodLink RX1 65 yX1_drawnBackAt, .instanceMethod yX1_drawnBackAt, .selects RX1 yX1_drawnBackAt yX1_drawnBackAt, .code yX1_drawnBackAt cX1_drawnBackAt 2 (some .int)] ++ wsX10)
def wsX1_stepBy : List Cond := .code yX1_stepBy cX1_stepBy 2 (some .int) :: ([.methodLink RX1 68 Lib.Math.abs.name, .static Lib.Math.abs.name, .initialized "java/lang/Math", .code Lib.Math.abs.name Lib.Math.abs.code 1 (some .int), .fieldLink RX1 9 "PlateSlabs$Plates" "settings" "[I", .fieldLink RX1 35 "PlateSlabs$Plates" "depth" "I"] ++ wsX10)
def wsX1_reasonNow_r1 : List Cond := [Cond.fieldLink RX1 35 "PlateSlabs$Plates" "depth" "I", Cond.methodLink RX1 68 Lib.Math.abs.name, Cond.static Lib.Math.abs.name, Cond.initialized "java/lang/Math", Cond.code Lib.Math.abs.name Lib.Math.abs.code 1 (some .int), Cond.fieldLink RX1 9 "PlateSlabs$Plates" "settings" "[I", Cond.methodLink RX1 73 yX1_netAt, Cond.instanceMethod yX1_netAt, Cond.selects RX1 yX1_netAt yX1_netAt, Cond.initialized RX1, Cond.code yX1_netAt cX1_netAt 2 (some .int), Cond.methodLink RX1 62 yX1_pullAt, Cond.instanceMethod yX1_pullAt, Cond.selects RX1 yX1_pullAt yX1_pullAt, Cond.code yX1_pullAt cX1_pullAt 6 (some .int), Cond.fieldLink RX1 41 "PlateSlabs$Plates" "isOn" "Z", Cond.fieldLink RX1 15 "PlateSlabs$Plates" "voltage" "I", Cond.fieldLink RX1 38 "PlateSlabs$Plates" "charge" "I", Cond.methodLink RX1 59 yX1_pullOf, Cond.instanceMethod yX1_pullOf, Cond.selects RX1 yX1_pullOf yX1_pullOf, Cond.code yX1_pullOf cX1_pullOf 2 (some .int), Cond.methodLink RX1 55 yX1_capacityAt, Cond.instanceMethod yX1_capacityAt]
def wsX1_reasonNow_r2 : List Cond := [Cond.selects RX1 yX1_capacityAt yX1_capacityAt, Cond.code yX1_capacityAt cX1_capacityAt 2 (some .int), Cond.methodLink RX1 65 yX1_drawnBackAt, Cond.instanceMethod yX1_drawnBackAt, Cond.selects RX1 yX1_drawnBackAt yX1_drawnBackAt, Cond.code yX1_drawnBackAt cX1_drawnBackAt 2 (some .int), Cond.methodLink RX1 76 yX1_stepBy, Cond.instanceMethod yX1_stepBy, Cond.selects RX1 yX1_stepBy yX1_stepBy, Cond.code yX1_stepBy cX1_stepBy 2 (some .int)]
def wsX1_reasonNow : List Cond := .code yX1_reasonNow cX1_reasonNow 2 (some .int) :: ((wsX1_reasonNow_r1 ++ wsX1_reasonNow_r2) ++ wsX10)
def wsX1_isDrawnInAt : List Cond := .code yX1_isDrawnInAt cX1_isDrawnInAt 3 (some .boolean) :: ([.fieldLink RX1 9 "PlateSlabs$Plates" "settings" "[I", .methodLink RX1 59 yX1_pullOf, .instanceMethod yX1_pullOf, .selects RX1 yX1_pullOf yX1_pullOf, .initialized RX1, .code yX1_pullOf cX1_pullOf 2 (some .int), .methodLink RX1 65 yX1_drawnBackAt, .instanceMethod yX1_drawnBackAt, .selects RX1 yX1_drawnBackAt yX1_drawnBackAt, .code yX1_drawnBackAt cX1_drawnBackAt 2 (some .int)] ++ wsX10)
def wsX1_isDrawnAllTheWayIn : List Cond := .code yX1_isDrawnAllTheWayIn cX1_isDrawnAllTheWayIn 3 (some .boolean) :: ([.fieldLink RX1 35 "PlateSlabs$Plates" "depth" "I", .methodLink RX1 79 yX1_isDrawnInAt, .instanceMethod yX1_isDrawnInAt, .selects RX1 yX1_isDrawnInAt yX1_isDrawnInAt, .initialized RX1, .code yX1_isDrawnInAt cX1_isDrawnInAt 3 (some .boolean), .fieldLink RX1 9 "PlateSlabs$Plates" "settings" "[I", .methodLink RX1 59 yX1_pullOf, .instanceMethod yX1_pullOf, .selects RX1 yX1_pullOf yX1_pullOf, .code yX1_pullOf cX1_pullOf 2 (some .int), .methodLink RX1 65 yX1_drawnBackAt, .instanceMethod yX1_drawnBackAt, .selects RX1 yX1_drawnBackAt yX1_drawnBackAt, .code yX1_drawnBackAt cX1_drawnBackAt 2 (some .int)] ++ wsX10)
def wsX1_leakAway : List Cond := .code yX1_leakAway cX1_leakAway 3 none :: ([.fieldLink RX1 41 "PlateSlabs$Plates" "isOn" "Z", .fieldLink RX1 38 "PlateSlabs$Plates" "charge" "I", .fieldLink RX1 9 "PlateSlabs$Plates" "settings" "[I", .fieldLink RX1 49 "PlateSlabs$Plates" "leaked" "J", .methodLink RX1 89 yX1_stored, .instanceMethod yX1_stored, .selects RX1 yX1_stored yX1_stored, .initialized RX1, .code yX1_stored cX1_stored 3 (some .long), .fieldLink RX1 15 "PlateSlabs$Plates" "voltage" "I", .fieldLink RX1 35 "PlateSlabs$Plates" "depth" "I", .methodLink RX1 55 yX1_capacityAt, .instanceMethod yX1_capacityAt, .selects RX1 yX1_capacityAt yX1_capacityAt, .code yX1_capacityAt cX1_capacityAt 2 (some .int)] ++ wsX10)
def wsX1_holdVoltage : List Cond := .code yX1_holdVoltage cX1_holdVoltage 2 none :: ([.fieldLink RX1 41 "PlateSlabs$Plates" "isOn" "Z", .fieldLink RX1 35 "PlateSlabs$Plates" "depth" "I", .fieldLink RX1 15 "PlateSlabs$Plates" "voltage" "I", .fieldLink RX1 45 "PlateSlabs$Plates" "gave" "J", .constantLong RX1 93 (2), .fieldLink RX1 38 "PlateSlabs$Plates" "charge" "I", .methodLink RX1 55 yX1_capacityAt, .instanceMethod yX1_capacityAt, .selects RX1 yX1_capacityAt yX1_capacityAt, .initialized RX1, .code yX1_capacityAt cX1_capacityAt 2 (some .int), .fieldLink RX1 9 "PlateSlabs$Plates" "settings" "[I"] ++ wsX10)
def wsX1_movesInTick_r1 : List Cond := [Cond.fieldLink RX1 35 "PlateSlabs$Plates" "depth" "I", Cond.methodLink RX1 83 yX1_leakAway, Cond.instanceMethod yX1_leakAway, Cond.selects RX1 yX1_leakAway yX1_leakAway, Cond.initialized RX1, Cond.code yX1_leakAway cX1_leakAway 3 none, Cond.fieldLink RX1 41 "PlateSlabs$Plates" "isOn" "Z", Cond.fieldLink RX1 38 "PlateSlabs$Plates" "charge" "I", Cond.fieldLink RX1 9 "PlateSlabs$Plates" "settings" "[I", Cond.fieldLink RX1 49 "PlateSlabs$Plates" "leaked" "J", Cond.methodLink RX1 89 yX1_stored, Cond.instanceMethod yX1_stored, Cond.selects RX1 yX1_stored yX1_stored, Cond.code yX1_stored cX1_stored 3 (some .long), Cond.fieldLink RX1 15 "PlateSlabs$Plates" "voltage" "I", Cond.methodLink RX1 55 yX1_capacityAt, Cond.instanceMethod yX1_capacityAt, Cond.selects RX1 yX1_capacityAt yX1_capacityAt, Cond.code yX1_capacityAt cX1_capacityAt 2 (some .int), Cond.methodLink RX1 73 yX1_netAt, Cond.instanceMethod yX1_netAt, Cond.selects RX1 yX1_netAt yX1_netAt, Cond.code yX1_netAt cX1_netAt 2 (some .int), Cond.methodLink RX1 62 yX1_pullAt]
def wsX1_movesInTick_r2 : List Cond := [Cond.instanceMethod yX1_pullAt, Cond.selects RX1 yX1_pullAt yX1_pullAt, Cond.code yX1_pullAt cX1_pullAt 6 (some .int), Cond.methodLink RX1 59 yX1_pullOf, Cond.instanceMethod yX1_pullOf, Cond.selects RX1 yX1_pullOf yX1_pullOf, Cond.code yX1_pullOf cX1_pullOf 2 (some .int), Cond.methodLink RX1 65 yX1_drawnBackAt, Cond.instanceMethod yX1_drawnBackAt, Cond.selects RX1 yX1_drawnBackAt yX1_drawnBackAt, Cond.code yX1_drawnBackAt cX1_drawnBackAt 2 (some .int), Cond.methodLink RX1 76 yX1_stepBy, Cond.instanceMethod yX1_stepBy, Cond.selects RX1 yX1_stepBy yX1_stepBy, Cond.code yX1_stepBy cX1_stepBy 2 (some .int), Cond.methodLink RX1 68 Lib.Math.abs.name, Cond.static Lib.Math.abs.name, Cond.initialized "java/lang/Math", Cond.code Lib.Math.abs.name Lib.Math.abs.code 1 (some .int), Cond.methodLink RX1 86 yX1_holdVoltage, Cond.instanceMethod yX1_holdVoltage, Cond.selects RX1 yX1_holdVoltage yX1_holdVoltage, Cond.code yX1_holdVoltage cX1_holdVoltage 2 none, Cond.fieldLink RX1 45 "PlateSlabs$Plates" "gave" "J"]
def wsX1_movesInTick_r3 : List Cond := [Cond.constantLong RX1 93 (2)]
def wsX1_movesInTick : List Cond := .code yX1_movesInTick cX1_movesInTick 2 (some .boolean) :: ((wsX1_movesInTick_r1 ++ (wsX1_movesInTick_r2 ++ wsX1_movesInTick_r3)) ++ wsX10)
def wsX5_isPair : List Cond := .code yX5_isPair cX5_isPair 1 (some .boolean) :: ([])
def wsX2_change_r1 : List Cond := [Cond.fieldLink RX2 11 "PlateSlabs$State" "pairs" "[LPlateSlabs$Plates;", Cond.fieldLink RX2 43 "PlateSlabs$Plates" "settings" "[I", Cond.static yX5_isPair, Cond.initialized RX5, Cond.code yX5_isPair cX5_isPair 1 (some .boolean), Cond.methodLink RX2 36 yX1_isSetting, Cond.static yX1_isSetting, Cond.initialized RX1, Cond.code yX1_isSetting cX1_isSetting 1 (some .boolean), Cond.methodLink RX2 39 yX1_isInRange, Cond.static yX1_isInRange, Cond.code yX1_isInRange cX1_isInRange 2 (some .boolean), Cond.fieldLink RX1 23 "PlateSlabs$Plates" "LEAST" "[I", Cond.fieldLink RX1 26 "PlateSlabs$Plates" "GREATEST" "[I", Cond.methodLink RX1 19 yX1_isSetting, Cond.methodLink RX2 47 yX1_holdVoltage, Cond.instanceMethod yX1_holdVoltage, Cond.selects RX1 yX1_holdVoltage yX1_holdVoltage, Cond.code yX1_holdVoltage cX1_holdVoltage 2 none, Cond.fieldLink RX1 41 "PlateSlabs$Plates" "isOn" "Z", Cond.fieldLink RX1 35 "PlateSlabs$Plates" "depth" "I", Cond.fieldLink RX1 15 "PlateSlabs$Plates" "voltage" "I", Cond.fieldLink RX1 45 "PlateSlabs$Plates" "gave" "J", Cond.constantLong RX1 93 (2)]
def wsX2_change_r2 : List Cond := [Cond.fieldLink RX1 38 "PlateSlabs$Plates" "charge" "I", Cond.methodLink RX1 55 yX1_capacityAt, Cond.instanceMethod yX1_capacityAt, Cond.selects RX1 yX1_capacityAt yX1_capacityAt, Cond.code yX1_capacityAt cX1_capacityAt 2 (some .int), Cond.fieldLink RX1 9 "PlateSlabs$Plates" "settings" "[I"]
def wsX2_change : List Cond := .code yX2_change cX2_change 6 (some .int) :: ((wsX2_change_r1 ++ wsX2_change_r2) ++ wsX20 ++ wsX10)
def wsX2_connect : List Cond := .code yX2_connect cX2_connect 4 (some .int) :: ([.fieldLink RX2 11 "PlateSlabs$State" "pairs" "[LPlateSlabs$Plates;", .fieldLink RX2 50 "PlateSlabs$Plates" "isOn" "Z", .fieldLink RX2 54 "PlateSlabs$Plates" "voltage" "I", .fieldLink RX2 57 "PlateSlabs$Plates" "charge" "I", .static yX5_isPair, .initialized RX5, .code yX5_isPair cX5_isPair 1 (some .boolean), .methodLink RX2 47 yX1_holdVoltage, .instanceMethod yX1_holdVoltage, .selects RX1 yX1_holdVoltage yX1_holdVoltage, .initialized RX1, .code yX1_holdVoltage cX1_holdVoltage 2 none, .fieldLink RX1 41 "PlateSlabs$Plates" "isOn" "Z", .fieldLink RX1 35 "PlateSlabs$Plates" "depth" "I", .fieldLink RX1 15 "PlateSlabs$Plates" "voltage" "I", .fieldLink RX1 45 "PlateSlabs$Plates" "gave" "J", .constantLong RX1 93 (2), .fieldLink RX1 38 "PlateSlabs$Plates" "charge" "I", .methodLink RX1 55 yX1_capacityAt, .instanceMethod yX1_capacityAt, .selects RX1 yX1_capacityAt yX1_capacityAt, .code yX1_capacityAt cX1_capacityAt 2 (some .int), .fieldLink RX1 9 "PlateSlabs$Plates" "settings" "[I"] ++ wsX20 ++ wsX10)
def wsX2_disconnect : List Cond := .code yX2_disconnect cX2_disconnect 3 (some .int) :: ([.fieldLink RX2 11 "PlateSlabs$State" "pairs" "[LPlateSlabs$Plates;", .fieldLink RX2 50 "PlateSlabs$Plates" "isOn" "Z", .fieldLink RX2 57 "PlateSlabs$Plates" "charge" "I", .static yX5_isPair, .initialized RX5, .code yX5_isPair cX5_isPair 1 (some .boolean)] ++ wsX20 ++ wsX10)
def wsX5_isDepth : List Cond := .code yX5_isDepth cX5_isDepth 1 (some .boolean) :: ([])
def wsX2_putSlab : List Cond := .code yX2_putSlab cX2_putSlab 5 (some .int) :: ([.fieldLink RX2 11 "PlateSlabs$State" "pairs" "[LPlateSlabs$Plates;", .fieldLink RX2 63 "PlateSlabs$Plates" "depth" "I", .static yX5_isPair, .initialized RX5, .code yX5_isPair cX5_isPair 1 (some .boolean), .static yX5_isDepth, .code yX5_isDepth cX5_isDepth 1 (some .boolean), .methodLink RX2 47 yX1_holdVoltage, .instanceMethod yX1_holdVoltage, .selects RX1 yX1_holdVoltage yX1_holdVoltage, .initialized RX1, .code yX1_holdVoltage cX1_holdVoltage 2 none, .fieldLink RX1 41 "PlateSlabs$Plates" "isOn" "Z", .fieldLink RX1 35 "PlateSlabs$Plates" "depth" "I", .fieldLink RX1 15 "PlateSlabs$Plates" "voltage" "I", .fieldLink RX1 45 "PlateSlabs$Plates" "gave" "J", .constantLong RX1 93 (2), .fieldLink RX1 38 "PlateSlabs$Plates" "charge" "I", .methodLink RX1 55 yX1_capacityAt, .instanceMethod yX1_capacityAt, .selects RX1 yX1_capacityAt yX1_capacityAt, .code yX1_capacityAt cX1_capacityAt 2 (some .int), .fieldLink RX1 9 "PlateSlabs$Plates" "settings" "[I"] ++ wsX20 ++ wsX10)
def wsX2_shareOf : List Cond := .code yX2_shareOf cX2_shareOf 4 (some .int) :: ([])
def wsJ9_floorDiv_f86c9 : List Cond := .code yJ9_floorDiv_f86c9 cJ9_floorDiv_f86c9 6 (some .long) :: ([])
def wsX2_moveCharges : List Cond := .code yX2_moveCharges cX2_moveCharges 9 none :: ([.fieldLink RX2 57 "PlateSlabs$Plates" "charge" "I", .constantLong RX2 83 (2), .fieldLink RX2 91 "PlateSlabs$Plates" "sparked" "J", .methodLink RX2 79 yX1_stored, .instanceMethod yX1_stored, .selects RX1 yX1_stored yX1_stored, .initialized RX1, .code yX1_stored cX1_stored 3 (some .long), .fieldLink RX1 41 "PlateSlabs$Plates" "isOn" "Z", .fieldLink RX1 15 "PlateSlabs$Plates" "voltage" "I", .fieldLink RX1 38 "PlateSlabs$Plates" "charge" "I", .fieldLink RX1 35 "PlateSlabs$Plates" "depth" "I", .methodLink RX1 55 yX1_capacityAt, .instanceMethod yX1_capacityAt, .selects RX1 yX1_capacityAt yX1_capacityAt, .code yX1_capacityAt cX1_capacityAt 2 (some .int), .fieldLink RX1 9 "PlateSlabs$Plates" "settings" "[I", .methodLink RX2 85 yJ9_floorDiv_f86c9, .static yJ9_floorDiv_f86c9, .initialized RJ9, .code yJ9_floorDiv_f86c9 cJ9_floorDiv_f86c9 6 (some .long)] ++ wsX10)
def wsX2_share_r1 : List Cond := [Cond.fieldLink RX2 11 "PlateSlabs$State" "pairs" "[LPlateSlabs$Plates;", Cond.fieldLink RX2 50 "PlateSlabs$Plates" "isOn" "Z", Cond.fieldLink RX2 57 "PlateSlabs$Plates" "charge" "I", Cond.fieldLink RX2 63 "PlateSlabs$Plates" "depth" "I", Cond.constant RX2 74 (200000), Cond.fieldLink RX2 26 "PlateSlabs$State" "couplings" "I", Cond.static yX5_isPair, Cond.initialized RX5, Cond.code yX5_isPair cX5_isPair 1 (some .boolean), Cond.methodLink RX2 66 yX1_capacityAt, Cond.instanceMethod yX1_capacityAt, Cond.selects RX1 yX1_capacityAt yX1_capacityAt, Cond.initialized RX1, Cond.code yX1_capacityAt cX1_capacityAt 2 (some .int), Cond.fieldLink RX1 9 "PlateSlabs$Plates" "settings" "[I", Cond.methodLink RX2 70 yX2_shareOf, Cond.static yX2_shareOf, Cond.initialized RX2, Cond.code yX2_shareOf cX2_shareOf 4 (some .int), Cond.methodLink RX2 75 yX2_moveCharges, Cond.static yX2_moveCharges, Cond.code yX2_moveCharges cX2_moveCharges 9 none, Cond.constantLong RX2 83 (2), Cond.fieldLink RX2 91 "PlateSlabs$Plates" "sparked" "J"]
def wsX2_share_r2 : List Cond := [Cond.methodLink RX2 79 yX1_stored, Cond.instanceMethod yX1_stored, Cond.selects RX1 yX1_stored yX1_stored, Cond.code yX1_stored cX1_stored 3 (some .long), Cond.fieldLink RX1 41 "PlateSlabs$Plates" "isOn" "Z", Cond.fieldLink RX1 15 "PlateSlabs$Plates" "voltage" "I", Cond.fieldLink RX1 38 "PlateSlabs$Plates" "charge" "I", Cond.fieldLink RX1 35 "PlateSlabs$Plates" "depth" "I", Cond.methodLink RX1 55 yX1_capacityAt, Cond.methodLink RX2 85 yJ9_floorDiv_f86c9, Cond.static yJ9_floorDiv_f86c9, Cond.initialized RJ9, Cond.code yJ9_floorDiv_f86c9 cJ9_floorDiv_f86c9 6 (some .long)]
def wsX2_share : List Cond := .code yX2_share cX2_share 7 (some .int) :: ((wsX2_share_r1 ++ wsX2_share_r2) ++ wsX20 ++ wsX10)
def wsX2_letPass_r1 : List Cond := [Cond.fieldLink RX2 22 "PlateSlabs$State" "tick" "I", Cond.constant RX2 95 (99999), Cond.fieldLink RX2 11 "PlateSlabs$State" "pairs" "[LPlateSlabs$Plates;", Cond.fieldLink RX2 29 "PlateSlabs$State" "steps" "I", Cond.methodLink RX2 96 yX1_movesInTick, Cond.instanceMethod yX1_movesInTick, Cond.selects RX1 yX1_movesInTick yX1_movesInTick, Cond.initialized RX1, Cond.code yX1_movesInTick cX1_movesInTick 2 (some .boolean), Cond.fieldLink RX1 35 "PlateSlabs$Plates" "depth" "I", Cond.methodLink RX1 83 yX1_leakAway, Cond.instanceMethod yX1_leakAway, Cond.selects RX1 yX1_leakAway yX1_leakAway, Cond.code yX1_leakAway cX1_leakAway 3 none, Cond.fieldLink RX1 41 "PlateSlabs$Plates" "isOn" "Z", Cond.fieldLink RX1 38 "PlateSlabs$Plates" "charge" "I", Cond.fieldLink RX1 9 "PlateSlabs$Plates" "settings" "[I", Cond.fieldLink RX1 49 "PlateSlabs$Plates" "leaked" "J", Cond.methodLink RX1 89 yX1_stored, Cond.instanceMethod yX1_stored, Cond.selects RX1 yX1_stored yX1_stored, Cond.code yX1_stored cX1_stored 3 (some .long), Cond.fieldLink RX1 15 "PlateSlabs$Plates" "voltage" "I", Cond.methodLink RX1 55 yX1_capacityAt]
def wsX2_letPass_r2 : List Cond := [Cond.instanceMethod yX1_capacityAt, Cond.selects RX1 yX1_capacityAt yX1_capacityAt, Cond.code yX1_capacityAt cX1_capacityAt 2 (some .int), Cond.methodLink RX1 73 yX1_netAt, Cond.instanceMethod yX1_netAt, Cond.selects RX1 yX1_netAt yX1_netAt, Cond.code yX1_netAt cX1_netAt 2 (some .int), Cond.methodLink RX1 62 yX1_pullAt, Cond.instanceMethod yX1_pullAt, Cond.selects RX1 yX1_pullAt yX1_pullAt, Cond.code yX1_pullAt cX1_pullAt 6 (some .int), Cond.methodLink RX1 59 yX1_pullOf, Cond.instanceMethod yX1_pullOf, Cond.selects RX1 yX1_pullOf yX1_pullOf, Cond.code yX1_pullOf cX1_pullOf 2 (some .int), Cond.methodLink RX1 65 yX1_drawnBackAt, Cond.instanceMethod yX1_drawnBackAt, Cond.selects RX1 yX1_drawnBackAt yX1_drawnBackAt, Cond.code yX1_drawnBackAt cX1_drawnBackAt 2 (some .int), Cond.methodLink RX1 76 yX1_stepBy, Cond.instanceMethod yX1_stepBy, Cond.selects RX1 yX1_stepBy yX1_stepBy, Cond.code yX1_stepBy cX1_stepBy 2 (some .int), Cond.methodLink RX1 68 Lib.Math.abs.name]
def wsX2_letPass_r3 : List Cond := [Cond.static Lib.Math.abs.name, Cond.initialized "java/lang/Math", Cond.code Lib.Math.abs.name Lib.Math.abs.code 1 (some .int), Cond.methodLink RX1 86 yX1_holdVoltage, Cond.instanceMethod yX1_holdVoltage, Cond.selects RX1 yX1_holdVoltage yX1_holdVoltage, Cond.code yX1_holdVoltage cX1_holdVoltage 2 none, Cond.fieldLink RX1 45 "PlateSlabs$Plates" "gave" "J", Cond.constantLong RX1 93 (2)]
def wsX2_letPass : List Cond := .code yX2_letPass cX2_letPass 5 (some .int) :: ((wsX2_letPass_r1 ++ (wsX2_letPass_r2 ++ wsX2_letPass_r3)) ++ wsX20 ++ wsX10)
def wsX3_init : List Cond := .code yX3_init cX3_init 1 none :: ([.methodLink RX3 3 objectInit, .instanceMethod objectInit, .code objectInit ⟨#[0xb1]⟩ 1 none, .arrayClass .char, .fieldLink RX3 9 "PlateSlabs$Text" "signs" "[C"] ++ wsX30)
def wsX3_append : List Cond := .code yX3_append cX3_append 2 (some .int) :: ([.fieldLink RX3 15 "PlateSlabs$Text" "length" "I", .fieldLink RX3 9 "PlateSlabs$Text" "signs" "[C"] ++ wsX30)
def wsX3_empty : List Cond := .code yX3_empty cX3_empty 2 (some .int) :: ([.fieldLink RX3 15 "PlateSlabs$Text" "length" "I"] ++ wsX30)
def wsX3_signAt : List Cond := .code yX3_signAt cX3_signAt 2 (some .char) :: ([.fieldLink RX3 15 "PlateSlabs$Text" "length" "I", .fieldLink RX3 9 "PlateSlabs$Text" "signs" "[C"] ++ wsX30)
def wsX4_init : List Cond := .code yX4_init cX4_init 1 none :: ([.methodLink RX4 3 objectInit, .instanceMethod objectInit, .code objectInit ⟨#[0xb1]⟩ 1 none, .classLink RX4 9 RX3, .instantiable RX3 2, .initialized RX3, .fieldLink RX4 12 "PlateSlabs$Trial" "text" "LPlateSlabs$Text;", .arrayClass .int, .fieldLink RX4 18 "PlateSlabs$Trial" "kinds" "[I", .fieldLink RX4 22 "PlateSlabs$Trial" "pairs" "[I", .fieldLink RX4 25 "PlateSlabs$Trial" "values" "[I", .instanceMethod yX3_init, .code yX3_init cX3_init 1 none, .methodLink RX3 3 objectInit, .arrayClass .char, .fieldLink RX3 9 "PlateSlabs$Text" "signs" "[C"] ++ wsX30 ++ wsX40)
def wsX4_isThing : List Cond := .code yX4_isThing cX4_isThing 2 (some .boolean) :: ([.fieldLink RX4 32 "PlateSlabs$Trial" "things" "I"] ++ wsX40)
def wsX4_kindOf : List Cond := .code yX4_kindOf cX4_kindOf 2 (some .int) :: ([.fieldLink RX4 18 "PlateSlabs$Trial" "kinds" "[I", .methodLink RX4 28 yX4_isThing, .instanceMethod yX4_isThing, .selects RX4 yX4_isThing yX4_isThing, .initialized RX4, .code yX4_isThing cX4_isThing 2 (some .boolean), .fieldLink RX4 32 "PlateSlabs$Trial" "things" "I"] ++ wsX40)
def wsX4_pairOf : List Cond := .code yX4_pairOf cX4_pairOf 2 (some .int) :: ([.fieldLink RX4 22 "PlateSlabs$Trial" "pairs" "[I", .methodLink RX4 28 yX4_isThing, .instanceMethod yX4_isThing, .selects RX4 yX4_isThing yX4_isThing, .initialized RX4, .code yX4_isThing cX4_isThing 2 (some .boolean), .fieldLink RX4 32 "PlateSlabs$Trial" "things" "I"] ++ wsX40)
def wsX4_valueOf : List Cond := .code yX4_valueOf cX4_valueOf 2 (some .int) :: ([.fieldLink RX4 25 "PlateSlabs$Trial" "values" "[I", .methodLink RX4 28 yX4_isThing, .instanceMethod yX4_isThing, .selects RX4 yX4_isThing yX4_isThing, .initialized RX4, .code yX4_isThing cX4_isThing 2 (some .boolean), .fieldLink RX4 32 "PlateSlabs$Trial" "things" "I"] ++ wsX40)
def wsX4_readSign : List Cond := .code yX4_readSign cX4_readSign 2 (some .boolean) :: ([.fieldLink RX4 12 "PlateSlabs$Trial" "text" "LPlateSlabs$Text;", .fieldLink RX4 36 "PlateSlabs$Trial" "at" "I", .methodLink RX4 39 yX3_signAt, .instanceMethod yX3_signAt, .selects RX3 yX3_signAt yX3_signAt, .initialized RX3, .code yX3_signAt cX3_signAt 2 (some .char), .fieldLink RX3 15 "PlateSlabs$Text" "length" "I", .fieldLink RX3 9 "PlateSlabs$Text" "signs" "[C"] ++ wsX40 ++ wsX30)
def wsX4_digitAt : List Cond := .code yX4_digitAt cX4_digitAt 3 (some .int) :: ([.fieldLink RX4 12 "PlateSlabs$Trial" "text" "LPlateSlabs$Text;", .methodLink RX4 39 yX3_signAt, .instanceMethod yX3_signAt, .selects RX3 yX3_signAt yX3_signAt, .initialized RX3, .code yX3_signAt cX3_signAt 2 (some .char), .fieldLink RX3 15 "PlateSlabs$Text" "length" "I", .fieldLink RX3 9 "PlateSlabs$Text" "signs" "[C"] ++ wsX40 ++ wsX30)
def wsX4_readPair : List Cond := .code yX4_readPair cX4_readPair 1 (some .boolean) :: ([.fieldLink RX4 36 "PlateSlabs$Trial" "at" "I", .fieldLink RX4 46 "PlateSlabs$Trial" "pair" "I", .methodLink RX4 70 yX4_digitAt, .instanceMethod yX4_digitAt, .selects RX4 yX4_digitAt yX4_digitAt, .initialized RX4, .code yX4_digitAt cX4_digitAt 3 (some .int), .fieldLink RX4 12 "PlateSlabs$Trial" "text" "LPlateSlabs$Text;", .methodLink RX4 39 yX3_signAt, .instanceMethod yX3_signAt, .selects RX3 yX3_signAt yX3_signAt, .initialized RX3, .code yX3_signAt cX3_signAt 2 (some .char), .fieldLink RX3 15 "PlateSlabs$Text" "length" "I", .fieldLink RX3 9 "PlateSlabs$Text" "signs" "[C", .static yX5_isPair, .initialized RX5, .code yX5_isPair cX5_isPair 1 (some .boolean)] ++ wsX40 ++ wsX30)
def wsX4_readNumber : List Cond := .code yX4_readNumber cX4_readNumber 4 (some .boolean) :: ([.fieldLink RX4 36 "PlateSlabs$Trial" "at" "I", .fieldLink RX4 49 "PlateSlabs$Trial" "value" "I", .methodLink RX4 70 yX4_digitAt, .instanceMethod yX4_digitAt, .selects RX4 yX4_digitAt yX4_digitAt, .initialized RX4, .code yX4_digitAt cX4_digitAt 3 (some .int), .fieldLink RX4 12 "PlateSlabs$Trial" "text" "LPlateSlabs$Text;", .methodLink RX4 39 yX3_signAt, .instanceMethod yX3_signAt, .selects RX3 yX3_signAt yX3_signAt, .initialized RX3, .code yX3_signAt cX3_signAt 2 (some .char), .fieldLink RX3 15 "PlateSlabs$Text" "length" "I", .fieldLink RX3 9 "PlateSlabs$Text" "signs" "[C"] ++ wsX40 ++ wsX30)
def wsX4_readOther : List Cond := .code yX4_readOther cX4_readOther 1 (some .boolean) :: ([.fieldLink RX4 36 "PlateSlabs$Trial" "at" "I", .fieldLink RX4 49 "PlateSlabs$Trial" "value" "I", .methodLink RX4 70 yX4_digitAt, .instanceMethod yX4_digitAt, .selects RX4 yX4_digitAt yX4_digitAt, .initialized RX4, .code yX4_digitAt cX4_digitAt 3 (some .int), .fieldLink RX4 12 "PlateSlabs$Trial" "text" "LPlateSlabs$Text;", .methodLink RX4 39 yX3_signAt, .instanceMethod yX3_signAt, .selects RX3 yX3_signAt yX3_signAt, .initialized RX3, .code yX3_signAt cX3_signAt 2 (some .char), .fieldLink RX3 15 "PlateSlabs$Text" "length" "I", .fieldLink RX3 9 "PlateSlabs$Text" "signs" "[C", .static yX5_isPair, .initialized RX5, .code yX5_isPair cX5_isPair 1 (some .boolean)] ++ wsX40 ++ wsX30)
def wsX4_readThing_r1 : List Cond := [Cond.fieldLink RX4 46 "PlateSlabs$Trial" "pair" "I", Cond.fieldLink RX4 49 "PlateSlabs$Trial" "value" "I", Cond.methodLink RX4 55 yX4_readSign, Cond.instanceMethod yX4_readSign, Cond.selects RX4 yX4_readSign yX4_readSign, Cond.initialized RX4, Cond.code yX4_readSign cX4_readSign 2 (some .boolean), Cond.fieldLink RX4 12 "PlateSlabs$Trial" "text" "LPlateSlabs$Text;", Cond.fieldLink RX4 36 "PlateSlabs$Trial" "at" "I", Cond.methodLink RX4 39 yX3_signAt, Cond.instanceMethod yX3_signAt, Cond.selects RX3 yX3_signAt yX3_signAt, Cond.initialized RX3, Cond.code yX3_signAt cX3_signAt 2 (some .char), Cond.fieldLink RX3 15 "PlateSlabs$Text" "length" "I", Cond.fieldLink RX3 9 "PlateSlabs$Text" "signs" "[C", Cond.methodLink RX4 59 yX4_readPair, Cond.instanceMethod yX4_readPair, Cond.selects RX4 yX4_readPair yX4_readPair, Cond.code yX4_readPair cX4_readPair 1 (some .boolean), Cond.methodLink RX4 70 yX4_digitAt, Cond.instanceMethod yX4_digitAt, Cond.selects RX4 yX4_digitAt yX4_digitAt, Cond.code yX4_digitAt cX4_digitAt 3 (some .int)]
def wsX4_readThing_r2 : List Cond := [Cond.static yX5_isPair, Cond.initialized RX5, Cond.code yX5_isPair cX5_isPair 1 (some .boolean), Cond.methodLink RX4 63 yX4_readNumber, Cond.instanceMethod yX4_readNumber, Cond.selects RX4 yX4_readNumber yX4_readNumber, Cond.code yX4_readNumber cX4_readNumber 4 (some .boolean), Cond.methodLink RX4 67 yX4_readOther, Cond.instanceMethod yX4_readOther, Cond.selects RX4 yX4_readOther yX4_readOther, Cond.code yX4_readOther cX4_readOther 1 (some .boolean)]
def wsX4_readThing : List Cond := .code yX4_readThing cX4_readThing 2 (some .boolean) :: ((wsX4_readThing_r1 ++ wsX4_readThing_r2) ++ wsX40 ++ wsX30)
def wsX4_read_r1 : List Cond := [Cond.fieldLink RX4 36 "PlateSlabs$Trial" "at" "I", Cond.fieldLink RX4 32 "PlateSlabs$Trial" "things" "I", Cond.fieldLink RX4 12 "PlateSlabs$Trial" "text" "LPlateSlabs$Text;", Cond.fieldLink RX4 18 "PlateSlabs$Trial" "kinds" "[I", Cond.fieldLink RX4 22 "PlateSlabs$Trial" "pairs" "[I", Cond.fieldLink RX4 46 "PlateSlabs$Trial" "pair" "I", Cond.fieldLink RX4 25 "PlateSlabs$Trial" "values" "[I", Cond.fieldLink RX4 49 "PlateSlabs$Trial" "value" "I", Cond.fieldLink RX4 52 "PlateSlabs$Text" "length" "I", Cond.methodLink RX4 39 yX3_signAt, Cond.instanceMethod yX3_signAt, Cond.selects RX3 yX3_signAt yX3_signAt, Cond.initialized RX3, Cond.code yX3_signAt cX3_signAt 2 (some .char), Cond.fieldLink RX3 15 "PlateSlabs$Text" "length" "I", Cond.fieldLink RX3 9 "PlateSlabs$Text" "signs" "[C", Cond.methodLink RX4 43 yX4_readThing, Cond.instanceMethod yX4_readThing, Cond.selects RX4 yX4_readThing yX4_readThing, Cond.initialized RX4, Cond.code yX4_readThing cX4_readThing 2 (some .boolean), Cond.methodLink RX4 55 yX4_readSign, Cond.instanceMethod yX4_readSign, Cond.selects RX4 yX4_readSign yX4_readSign]
def wsX4_read_r2 : List Cond := [Cond.code yX4_readSign cX4_readSign 2 (some .boolean), Cond.methodLink RX4 59 yX4_readPair, Cond.instanceMethod yX4_readPair, Cond.selects RX4 yX4_readPair yX4_readPair, Cond.code yX4_readPair cX4_readPair 1 (some .boolean), Cond.methodLink RX4 70 yX4_digitAt, Cond.instanceMethod yX4_digitAt, Cond.selects RX4 yX4_digitAt yX4_digitAt, Cond.code yX4_digitAt cX4_digitAt 3 (some .int), Cond.static yX5_isPair, Cond.initialized RX5, Cond.code yX5_isPair cX5_isPair 1 (some .boolean), Cond.methodLink RX4 63 yX4_readNumber, Cond.instanceMethod yX4_readNumber, Cond.selects RX4 yX4_readNumber yX4_readNumber, Cond.code yX4_readNumber cX4_readNumber 4 (some .boolean), Cond.methodLink RX4 67 yX4_readOther, Cond.instanceMethod yX4_readOther, Cond.selects RX4 yX4_readOther yX4_readOther, Cond.code yX4_readOther cX4_readOther 1 (some .boolean)]
def wsX4_read : List Cond := .code yX4_read cX4_read 2 (some .int) :: ((wsX4_read_r1 ++ wsX4_read_r2) ++ wsX40 ++ wsX30)
def wsX5_init_r1 : List Cond := [Cond.methodLink RX5 1 objectInit, Cond.instanceMethod objectInit, Cond.code objectInit ⟨#[0xb1]⟩ 1 none, Cond.classLink RX5 7 RX2, Cond.instantiable RX2 4, Cond.initialized RX2, Cond.fieldLink RX5 10 "PlateSlabs" "now" "LPlateSlabs$State;", Cond.fieldLink RX5 16 "PlateSlabs" "before" "LPlateSlabs$State;", Cond.fieldLink RX5 19 "PlateSlabs" "snapshot" "LPlateSlabs$State;", Cond.classLink RX5 22 RX0, Cond.instantiable RX0 2, Cond.initialized RX0, Cond.fieldLink RX5 25 "PlateSlabs" "history" "LPlateSlabs$History;", Cond.classLink RX5 29 RX1, Cond.instantiable RX1 8, Cond.initialized RX1, Cond.fieldLink RX5 32 "PlateSlabs" "guess" "LPlateSlabs$Plates;", Cond.classLink RX5 36 RX4, Cond.instantiable RX4 8, Cond.initialized RX4, Cond.fieldLink RX5 39 "PlateSlabs" "trial" "LPlateSlabs$Trial;", Cond.methodLink RX5 9 yX2_init, Cond.instanceMethod yX2_init, Cond.code yX2_init cX2_init 2 none]
def wsX5_init_r2 : List Cond := [Cond.methodLink RX2 3 objectInit, Cond.classLink RX2 9 RX1, Cond.fieldLink RX2 11 "PlateSlabs$State" "pairs" "[LPlateSlabs$Plates;", Cond.instanceMethod yX1_init, Cond.code yX1_init cX1_init 1 none, Cond.methodLink RX1 3 objectInit, Cond.arrayClass .int, Cond.fieldLink RX1 9 "PlateSlabs$Plates" "settings" "[I", Cond.fieldLink RX1 15 "PlateSlabs$Plates" "voltage" "I", Cond.methodLink RX5 24 yX0_init, Cond.instanceMethod yX0_init, Cond.code yX0_init cX0_init 2 none, Cond.methodLink RX0 3 objectInit, Cond.classLink RX0 9 RX2, Cond.fieldLink RX0 11 "PlateSlabs$History" "states" "[LPlateSlabs$State;", Cond.methodLink RX0 17 yX2_init, Cond.instanceMethod yX4_init, Cond.code yX4_init cX4_init 1 none, Cond.methodLink RX4 3 objectInit, Cond.classLink RX4 9 RX3, Cond.instantiable RX3 2, Cond.initialized RX3, Cond.fieldLink RX4 12 "PlateSlabs$Trial" "text" "LPlateSlabs$Text;", Cond.fieldLink RX4 18 "PlateSlabs$Trial" "kinds" "[I"]
def wsX5_init_r3 : List Cond := [Cond.fieldLink RX4 22 "PlateSlabs$Trial" "pairs" "[I", Cond.fieldLink RX4 25 "PlateSlabs$Trial" "values" "[I", Cond.instanceMethod yX3_init, Cond.code yX3_init cX3_init 1 none, Cond.methodLink RX3 3 objectInit, Cond.arrayClass .char, Cond.fieldLink RX3 9 "PlateSlabs$Text" "signs" "[C"]
def wsX5_init : List Cond := .code yX5_init cX5_init 1 none :: ((wsX5_init_r1 ++ (wsX5_init_r2 ++ wsX5_init_r3)) ++ wsX20 ++ wsX50 ++ wsX00 ++ wsX10 ++ wsX40 ++ wsX30)
def wsX5_recorded_r1 : List Cond := [Cond.fieldLink RX5 25 "PlateSlabs" "history" "LPlateSlabs$History;", Cond.fieldLink RX5 16 "PlateSlabs" "before" "LPlateSlabs$State;", Cond.methodLink RX5 71 yX0_push, Cond.instanceMethod yX0_push, Cond.selects RX0 yX0_push yX0_push, Cond.initialized RX0, Cond.code yX0_push cX0_push 2 none, Cond.fieldLink RX0 18 "PlateSlabs$History" "size" "I", Cond.fieldLink RX0 11 "PlateSlabs$History" "states" "[LPlateSlabs$State;", Cond.methodLink RX0 22 yX0_dropOldest, Cond.instanceMethod yX0_dropOldest, Cond.selects RX0 yX0_dropOldest yX0_dropOldest, Cond.code yX0_dropOldest cX0_dropOldest 3 none, Cond.methodLink RX0 25 yX2_copyFrom, Cond.instanceMethod yX2_copyFrom, Cond.selects RX2 yX2_copyFrom yX2_copyFrom, Cond.initialized RX2, Cond.code yX2_copyFrom cX2_copyFrom 3 none, Cond.fieldLink RX2 11 "PlateSlabs$State" "pairs" "[LPlateSlabs$Plates;", Cond.fieldLink RX2 22 "PlateSlabs$State" "tick" "I", Cond.fieldLink RX2 26 "PlateSlabs$State" "couplings" "I", Cond.fieldLink RX2 29 "PlateSlabs$State" "steps" "I", Cond.methodLink RX2 18 yX1_copyFrom, Cond.instanceMethod yX1_copyFrom]
def wsX5_recorded_r2 : List Cond := [Cond.selects RX1 yX1_copyFrom yX1_copyFrom, Cond.initialized RX1, Cond.code yX1_copyFrom cX1_copyFrom 2 none, Cond.fieldLink RX1 9 "PlateSlabs$Plates" "settings" "[I", Cond.methodLink RX1 29 arraycopyName, Cond.native arraycopyName, Cond.static arraycopyName, Cond.initialized "java/lang/System", Cond.fieldLink RX1 35 "PlateSlabs$Plates" "depth" "I", Cond.fieldLink RX1 38 "PlateSlabs$Plates" "charge" "I", Cond.fieldLink RX1 15 "PlateSlabs$Plates" "voltage" "I", Cond.fieldLink RX1 41 "PlateSlabs$Plates" "isOn" "Z", Cond.fieldLink RX1 45 "PlateSlabs$Plates" "gave" "J", Cond.fieldLink RX1 49 "PlateSlabs$Plates" "leaked" "J", Cond.fieldLink RX1 52 "PlateSlabs$Plates" "sparked" "J"]
def wsX5_recorded : List Cond := .code yX5_recorded cX5_recorded 2 (some .int) :: ((wsX5_recorded_r1 ++ wsX5_recorded_r2) ++ wsX50 ++ wsX00 ++ wsX20 ++ wsX10)
def wsX5_set_r1 : List Cond := [Cond.fieldLink RX5 16 "PlateSlabs" "before" "LPlateSlabs$State;", Cond.fieldLink RX5 10 "PlateSlabs" "now" "LPlateSlabs$State;", Cond.methodLink RX5 43 yX2_copyFrom, Cond.instanceMethod yX2_copyFrom, Cond.selects RX2 yX2_copyFrom yX2_copyFrom, Cond.initialized RX2, Cond.code yX2_copyFrom cX2_copyFrom 3 none, Cond.fieldLink RX2 11 "PlateSlabs$State" "pairs" "[LPlateSlabs$Plates;", Cond.fieldLink RX2 22 "PlateSlabs$State" "tick" "I", Cond.fieldLink RX2 26 "PlateSlabs$State" "couplings" "I", Cond.fieldLink RX2 29 "PlateSlabs$State" "steps" "I", Cond.methodLink RX2 18 yX1_copyFrom, Cond.instanceMethod yX1_copyFrom, Cond.selects RX1 yX1_copyFrom yX1_copyFrom, Cond.initialized RX1, Cond.code yX1_copyFrom cX1_copyFrom 2 none, Cond.fieldLink RX1 9 "PlateSlabs$Plates" "settings" "[I", Cond.methodLink RX1 29 arraycopyName, Cond.native arraycopyName, Cond.static arraycopyName, Cond.initialized "java/lang/System", Cond.fieldLink RX1 35 "PlateSlabs$Plates" "depth" "I", Cond.fieldLink RX1 38 "PlateSlabs$Plates" "charge" "I", Cond.fieldLink RX1 15 "PlateSlabs$Plates" "voltage" "I"]
def wsX5_set_r2 : List Cond := [Cond.fieldLink RX1 41 "PlateSlabs$Plates" "isOn" "Z", Cond.fieldLink RX1 45 "PlateSlabs$Plates" "gave" "J", Cond.fieldLink RX1 49 "PlateSlabs$Plates" "leaked" "J", Cond.fieldLink RX1 52 "PlateSlabs$Plates" "sparked" "J", Cond.methodLink RX5 47 yX2_change, Cond.instanceMethod yX2_change, Cond.selects RX2 yX2_change yX2_change, Cond.code yX2_change cX2_change 6 (some .int), Cond.fieldLink RX2 43 "PlateSlabs$Plates" "settings" "[I", Cond.static yX5_isPair, Cond.initialized RX5, Cond.code yX5_isPair cX5_isPair 1 (some .boolean), Cond.methodLink RX2 36 yX1_isSetting, Cond.static yX1_isSetting, Cond.code yX1_isSetting cX1_isSetting 1 (some .boolean), Cond.methodLink RX2 39 yX1_isInRange, Cond.static yX1_isInRange, Cond.code yX1_isInRange cX1_isInRange 2 (some .boolean), Cond.fieldLink RX1 23 "PlateSlabs$Plates" "LEAST" "[I", Cond.fieldLink RX1 26 "PlateSlabs$Plates" "GREATEST" "[I", Cond.methodLink RX1 19 yX1_isSetting, Cond.methodLink RX2 47 yX1_holdVoltage, Cond.instanceMethod yX1_holdVoltage, Cond.selects RX1 yX1_holdVoltage yX1_holdVoltage]
def wsX5_set_r3 : List Cond := [Cond.code yX1_holdVoltage cX1_holdVoltage 2 none, Cond.constantLong RX1 93 (2), Cond.methodLink RX1 55 yX1_capacityAt, Cond.instanceMethod yX1_capacityAt, Cond.selects RX1 yX1_capacityAt yX1_capacityAt, Cond.code yX1_capacityAt cX1_capacityAt 2 (some .int), Cond.methodLink RX5 51 yX5_recorded, Cond.instanceMethod yX5_recorded, Cond.selects RX5 yX5_recorded yX5_recorded, Cond.code yX5_recorded cX5_recorded 2 (some .int), Cond.fieldLink RX5 25 "PlateSlabs" "history" "LPlateSlabs$History;", Cond.methodLink RX5 71 yX0_push, Cond.instanceMethod yX0_push, Cond.selects RX0 yX0_push yX0_push, Cond.initialized RX0, Cond.code yX0_push cX0_push 2 none, Cond.fieldLink RX0 18 "PlateSlabs$History" "size" "I", Cond.fieldLink RX0 11 "PlateSlabs$History" "states" "[LPlateSlabs$State;", Cond.methodLink RX0 22 yX0_dropOldest, Cond.instanceMethod yX0_dropOldest, Cond.selects RX0 yX0_dropOldest yX0_dropOldest, Cond.code yX0_dropOldest cX0_dropOldest 3 none, Cond.methodLink RX0 25 yX2_copyFrom]
def wsX5_set : List Cond := .code yX5_set cX5_set 4 (some .int) :: ((wsX5_set_r1 ++ (wsX5_set_r2 ++ wsX5_set_r3)) ++ wsX50 ++ wsX20 ++ wsX10 ++ wsX00)
def wsX5_turnOn_r1 : List Cond := [Cond.fieldLink RX5 16 "PlateSlabs" "before" "LPlateSlabs$State;", Cond.fieldLink RX5 10 "PlateSlabs" "now" "LPlateSlabs$State;", Cond.methodLink RX5 43 yX2_copyFrom, Cond.instanceMethod yX2_copyFrom, Cond.selects RX2 yX2_copyFrom yX2_copyFrom, Cond.initialized RX2, Cond.code yX2_copyFrom cX2_copyFrom 3 none, Cond.fieldLink RX2 11 "PlateSlabs$State" "pairs" "[LPlateSlabs$Plates;", Cond.fieldLink RX2 22 "PlateSlabs$State" "tick" "I", Cond.fieldLink RX2 26 "PlateSlabs$State" "couplings" "I", Cond.fieldLink RX2 29 "PlateSlabs$State" "steps" "I", Cond.methodLink RX2 18 yX1_copyFrom, Cond.instanceMethod yX1_copyFrom, Cond.selects RX1 yX1_copyFrom yX1_copyFrom, Cond.initialized RX1, Cond.code yX1_copyFrom cX1_copyFrom 2 none, Cond.fieldLink RX1 9 "PlateSlabs$Plates" "settings" "[I", Cond.methodLink RX1 29 arraycopyName, Cond.native arraycopyName, Cond.static arraycopyName, Cond.initialized "java/lang/System", Cond.fieldLink RX1 35 "PlateSlabs$Plates" "depth" "I", Cond.fieldLink RX1 38 "PlateSlabs$Plates" "charge" "I", Cond.fieldLink RX1 15 "PlateSlabs$Plates" "voltage" "I"]
def wsX5_turnOn_r2 : List Cond := [Cond.fieldLink RX1 41 "PlateSlabs$Plates" "isOn" "Z", Cond.fieldLink RX1 45 "PlateSlabs$Plates" "gave" "J", Cond.fieldLink RX1 49 "PlateSlabs$Plates" "leaked" "J", Cond.fieldLink RX1 52 "PlateSlabs$Plates" "sparked" "J", Cond.methodLink RX5 55 yX2_connect, Cond.instanceMethod yX2_connect, Cond.selects RX2 yX2_connect yX2_connect, Cond.code yX2_connect cX2_connect 4 (some .int), Cond.fieldLink RX2 50 "PlateSlabs$Plates" "isOn" "Z", Cond.fieldLink RX2 54 "PlateSlabs$Plates" "voltage" "I", Cond.fieldLink RX2 57 "PlateSlabs$Plates" "charge" "I", Cond.static yX5_isPair, Cond.initialized RX5, Cond.code yX5_isPair cX5_isPair 1 (some .boolean), Cond.methodLink RX2 47 yX1_holdVoltage, Cond.instanceMethod yX1_holdVoltage, Cond.selects RX1 yX1_holdVoltage yX1_holdVoltage, Cond.code yX1_holdVoltage cX1_holdVoltage 2 none, Cond.constantLong RX1 93 (2), Cond.methodLink RX1 55 yX1_capacityAt, Cond.instanceMethod yX1_capacityAt, Cond.selects RX1 yX1_capacityAt yX1_capacityAt, Cond.code yX1_capacityAt cX1_capacityAt 2 (some .int), Cond.methodLink RX5 51 yX5_recorded]
def wsX5_turnOn_r3 : List Cond := [Cond.instanceMethod yX5_recorded, Cond.selects RX5 yX5_recorded yX5_recorded, Cond.code yX5_recorded cX5_recorded 2 (some .int), Cond.fieldLink RX5 25 "PlateSlabs" "history" "LPlateSlabs$History;", Cond.methodLink RX5 71 yX0_push, Cond.instanceMethod yX0_push, Cond.selects RX0 yX0_push yX0_push, Cond.initialized RX0, Cond.code yX0_push cX0_push 2 none, Cond.fieldLink RX0 18 "PlateSlabs$History" "size" "I", Cond.fieldLink RX0 11 "PlateSlabs$History" "states" "[LPlateSlabs$State;", Cond.methodLink RX0 22 yX0_dropOldest, Cond.instanceMethod yX0_dropOldest, Cond.selects RX0 yX0_dropOldest yX0_dropOldest, Cond.code yX0_dropOldest cX0_dropOldest 3 none, Cond.methodLink RX0 25 yX2_copyFrom]
def wsX5_turnOn : List Cond := .code yX5_turnOn cX5_turnOn 3 (some .int) :: ((wsX5_turnOn_r1 ++ (wsX5_turnOn_r2 ++ wsX5_turnOn_r3)) ++ wsX50 ++ wsX20 ++ wsX10 ++ wsX00)
def wsX5_turnOff_r1 : List Cond := [Cond.fieldLink RX5 16 "PlateSlabs" "before" "LPlateSlabs$State;", Cond.fieldLink RX5 10 "PlateSlabs" "now" "LPlateSlabs$State;", Cond.methodLink RX5 43 yX2_copyFrom, Cond.instanceMethod yX2_copyFrom, Cond.selects RX2 yX2_copyFrom yX2_copyFrom, Cond.initialized RX2, Cond.code yX2_copyFrom cX2_copyFrom 3 none, Cond.fieldLink RX2 11 "PlateSlabs$State" "pairs" "[LPlateSlabs$Plates;", Cond.fieldLink RX2 22 "PlateSlabs$State" "tick" "I", Cond.fieldLink RX2 26 "PlateSlabs$State" "couplings" "I", Cond.fieldLink RX2 29 "PlateSlabs$State" "steps" "I", Cond.methodLink RX2 18 yX1_copyFrom, Cond.instanceMethod yX1_copyFrom, Cond.selects RX1 yX1_copyFrom yX1_copyFrom, Cond.initialized RX1, Cond.code yX1_copyFrom cX1_copyFrom 2 none, Cond.fieldLink RX1 9 "PlateSlabs$Plates" "settings" "[I", Cond.methodLink RX1 29 arraycopyName, Cond.native arraycopyName, Cond.static arraycopyName, Cond.initialized "java/lang/System", Cond.fieldLink RX1 35 "PlateSlabs$Plates" "depth" "I", Cond.fieldLink RX1 38 "PlateSlabs$Plates" "charge" "I", Cond.fieldLink RX1 15 "PlateSlabs$Plates" "voltage" "I"]
def wsX5_turnOff_r2 : List Cond := [Cond.fieldLink RX1 41 "PlateSlabs$Plates" "isOn" "Z", Cond.fieldLink RX1 45 "PlateSlabs$Plates" "gave" "J", Cond.fieldLink RX1 49 "PlateSlabs$Plates" "leaked" "J", Cond.fieldLink RX1 52 "PlateSlabs$Plates" "sparked" "J", Cond.methodLink RX5 59 yX2_disconnect, Cond.instanceMethod yX2_disconnect, Cond.selects RX2 yX2_disconnect yX2_disconnect, Cond.code yX2_disconnect cX2_disconnect 3 (some .int), Cond.fieldLink RX2 50 "PlateSlabs$Plates" "isOn" "Z", Cond.fieldLink RX2 57 "PlateSlabs$Plates" "charge" "I", Cond.static yX5_isPair, Cond.initialized RX5, Cond.code yX5_isPair cX5_isPair 1 (some .boolean), Cond.methodLink RX5 51 yX5_recorded, Cond.instanceMethod yX5_recorded, Cond.selects RX5 yX5_recorded yX5_recorded, Cond.code yX5_recorded cX5_recorded 2 (some .int), Cond.fieldLink RX5 25 "PlateSlabs" "history" "LPlateSlabs$History;", Cond.methodLink RX5 71 yX0_push, Cond.instanceMethod yX0_push, Cond.selects RX0 yX0_push yX0_push, Cond.initialized RX0, Cond.code yX0_push cX0_push 2 none, Cond.fieldLink RX0 18 "PlateSlabs$History" "size" "I"]
def wsX5_turnOff_r3 : List Cond := [Cond.fieldLink RX0 11 "PlateSlabs$History" "states" "[LPlateSlabs$State;", Cond.methodLink RX0 22 yX0_dropOldest, Cond.instanceMethod yX0_dropOldest, Cond.selects RX0 yX0_dropOldest yX0_dropOldest, Cond.code yX0_dropOldest cX0_dropOldest 3 none, Cond.methodLink RX0 25 yX2_copyFrom]
def wsX5_turnOff : List Cond := .code yX5_turnOff cX5_turnOff 2 (some .int) :: ((wsX5_turnOff_r1 ++ (wsX5_turnOff_r2 ++ wsX5_turnOff_r3)) ++ wsX50 ++ wsX20 ++ wsX10 ++ wsX00)
def wsX5_put_r1 : List Cond := [Cond.fieldLink RX5 16 "PlateSlabs" "before" "LPlateSlabs$State;", Cond.fieldLink RX5 10 "PlateSlabs" "now" "LPlateSlabs$State;", Cond.methodLink RX5 43 yX2_copyFrom, Cond.instanceMethod yX2_copyFrom, Cond.selects RX2 yX2_copyFrom yX2_copyFrom, Cond.initialized RX2, Cond.code yX2_copyFrom cX2_copyFrom 3 none, Cond.fieldLink RX2 11 "PlateSlabs$State" "pairs" "[LPlateSlabs$Plates;", Cond.fieldLink RX2 22 "PlateSlabs$State" "tick" "I", Cond.fieldLink RX2 26 "PlateSlabs$State" "couplings" "I", Cond.fieldLink RX2 29 "PlateSlabs$State" "steps" "I", Cond.methodLink RX2 18 yX1_copyFrom, Cond.instanceMethod yX1_copyFrom, Cond.selects RX1 yX1_copyFrom yX1_copyFrom, Cond.initialized RX1, Cond.code yX1_copyFrom cX1_copyFrom 2 none, Cond.fieldLink RX1 9 "PlateSlabs$Plates" "settings" "[I", Cond.methodLink RX1 29 arraycopyName, Cond.native arraycopyName, Cond.static arraycopyName, Cond.initialized "java/lang/System", Cond.fieldLink RX1 35 "PlateSlabs$Plates" "depth" "I", Cond.fieldLink RX1 38 "PlateSlabs$Plates" "charge" "I", Cond.fieldLink RX1 15 "PlateSlabs$Plates" "voltage" "I"]
def wsX5_put_r2 : List Cond := [Cond.fieldLink RX1 41 "PlateSlabs$Plates" "isOn" "Z", Cond.fieldLink RX1 45 "PlateSlabs$Plates" "gave" "J", Cond.fieldLink RX1 49 "PlateSlabs$Plates" "leaked" "J", Cond.fieldLink RX1 52 "PlateSlabs$Plates" "sparked" "J", Cond.methodLink RX5 62 yX2_putSlab, Cond.instanceMethod yX2_putSlab, Cond.selects RX2 yX2_putSlab yX2_putSlab, Cond.code yX2_putSlab cX2_putSlab 5 (some .int), Cond.fieldLink RX2 63 "PlateSlabs$Plates" "depth" "I", Cond.static yX5_isPair, Cond.initialized RX5, Cond.code yX5_isPair cX5_isPair 1 (some .boolean), Cond.static yX5_isDepth, Cond.code yX5_isDepth cX5_isDepth 1 (some .boolean), Cond.methodLink RX2 47 yX1_holdVoltage, Cond.instanceMethod yX1_holdVoltage, Cond.selects RX1 yX1_holdVoltage yX1_holdVoltage, Cond.code yX1_holdVoltage cX1_holdVoltage 2 none, Cond.constantLong RX1 93 (2), Cond.methodLink RX1 55 yX1_capacityAt, Cond.instanceMethod yX1_capacityAt, Cond.selects RX1 yX1_capacityAt yX1_capacityAt, Cond.code yX1_capacityAt cX1_capacityAt 2 (some .int), Cond.methodLink RX5 51 yX5_recorded]
def wsX5_put_r3 : List Cond := [Cond.instanceMethod yX5_recorded, Cond.selects RX5 yX5_recorded yX5_recorded, Cond.code yX5_recorded cX5_recorded 2 (some .int), Cond.fieldLink RX5 25 "PlateSlabs" "history" "LPlateSlabs$History;", Cond.methodLink RX5 71 yX0_push, Cond.instanceMethod yX0_push, Cond.selects RX0 yX0_push yX0_push, Cond.initialized RX0, Cond.code yX0_push cX0_push 2 none, Cond.fieldLink RX0 18 "PlateSlabs$History" "size" "I", Cond.fieldLink RX0 11 "PlateSlabs$History" "states" "[LPlateSlabs$State;", Cond.methodLink RX0 22 yX0_dropOldest, Cond.instanceMethod yX0_dropOldest, Cond.selects RX0 yX0_dropOldest yX0_dropOldest, Cond.code yX0_dropOldest cX0_dropOldest 3 none, Cond.methodLink RX0 25 yX2_copyFrom]
def wsX5_put : List Cond := .code yX5_put cX5_put 3 (some .int) :: ((wsX5_put_r1 ++ (wsX5_put_r2 ++ wsX5_put_r3)) ++ wsX50 ++ wsX20 ++ wsX10 ++ wsX00)
def wsX5_couple_r1 : List Cond := [Cond.fieldLink RX5 16 "PlateSlabs" "before" "LPlateSlabs$State;", Cond.fieldLink RX5 10 "PlateSlabs" "now" "LPlateSlabs$State;", Cond.methodLink RX5 43 yX2_copyFrom, Cond.instanceMethod yX2_copyFrom, Cond.selects RX2 yX2_copyFrom yX2_copyFrom, Cond.initialized RX2, Cond.code yX2_copyFrom cX2_copyFrom 3 none, Cond.fieldLink RX2 11 "PlateSlabs$State" "pairs" "[LPlateSlabs$Plates;", Cond.fieldLink RX2 22 "PlateSlabs$State" "tick" "I", Cond.fieldLink RX2 26 "PlateSlabs$State" "couplings" "I", Cond.fieldLink RX2 29 "PlateSlabs$State" "steps" "I", Cond.methodLink RX2 18 yX1_copyFrom, Cond.instanceMethod yX1_copyFrom, Cond.selects RX1 yX1_copyFrom yX1_copyFrom, Cond.initialized RX1, Cond.code yX1_copyFrom cX1_copyFrom 2 none, Cond.fieldLink RX1 9 "PlateSlabs$Plates" "settings" "[I", Cond.methodLink RX1 29 arraycopyName, Cond.native arraycopyName, Cond.static arraycopyName, Cond.initialized "java/lang/System", Cond.fieldLink RX1 35 "PlateSlabs$Plates" "depth" "I", Cond.fieldLink RX1 38 "PlateSlabs$Plates" "charge" "I", Cond.fieldLink RX1 15 "PlateSlabs$Plates" "voltage" "I"]
def wsX5_couple_r2 : List Cond := [Cond.fieldLink RX1 41 "PlateSlabs$Plates" "isOn" "Z", Cond.fieldLink RX1 45 "PlateSlabs$Plates" "gave" "J", Cond.fieldLink RX1 49 "PlateSlabs$Plates" "leaked" "J", Cond.fieldLink RX1 52 "PlateSlabs$Plates" "sparked" "J", Cond.methodLink RX5 65 yX2_share, Cond.instanceMethod yX2_share, Cond.selects RX2 yX2_share yX2_share, Cond.code yX2_share cX2_share 7 (some .int), Cond.fieldLink RX2 50 "PlateSlabs$Plates" "isOn" "Z", Cond.fieldLink RX2 57 "PlateSlabs$Plates" "charge" "I", Cond.fieldLink RX2 63 "PlateSlabs$Plates" "depth" "I", Cond.constant RX2 74 (200000), Cond.static yX5_isPair, Cond.initialized RX5, Cond.code yX5_isPair cX5_isPair 1 (some .boolean), Cond.methodLink RX2 66 yX1_capacityAt, Cond.instanceMethod yX1_capacityAt, Cond.selects RX1 yX1_capacityAt yX1_capacityAt, Cond.code yX1_capacityAt cX1_capacityAt 2 (some .int), Cond.methodLink RX2 70 yX2_shareOf, Cond.static yX2_shareOf, Cond.code yX2_shareOf cX2_shareOf 4 (some .int), Cond.methodLink RX2 75 yX2_moveCharges, Cond.static yX2_moveCharges]
def wsX5_couple_r3 : List Cond := [Cond.code yX2_moveCharges cX2_moveCharges 9 none, Cond.constantLong RX2 83 (2), Cond.fieldLink RX2 91 "PlateSlabs$Plates" "sparked" "J", Cond.methodLink RX2 79 yX1_stored, Cond.instanceMethod yX1_stored, Cond.selects RX1 yX1_stored yX1_stored, Cond.code yX1_stored cX1_stored 3 (some .long), Cond.methodLink RX1 55 yX1_capacityAt, Cond.methodLink RX2 85 yJ9_floorDiv_f86c9, Cond.static yJ9_floorDiv_f86c9, Cond.initialized RJ9, Cond.code yJ9_floorDiv_f86c9 cJ9_floorDiv_f86c9 6 (some .long), Cond.methodLink RX5 51 yX5_recorded, Cond.instanceMethod yX5_recorded, Cond.selects RX5 yX5_recorded yX5_recorded, Cond.code yX5_recorded cX5_recorded 2 (some .int), Cond.fieldLink RX5 25 "PlateSlabs" "history" "LPlateSlabs$History;", Cond.methodLink RX5 71 yX0_push, Cond.instanceMethod yX0_push, Cond.selects RX0 yX0_push yX0_push, Cond.initialized RX0, Cond.code yX0_push cX0_push 2 none, Cond.fieldLink RX0 18 "PlateSlabs$History" "size" "I", Cond.fieldLink RX0 11 "PlateSlabs$History" "states" "[LPlateSlabs$State;"]
def wsX5_couple_r4 : List Cond := [Cond.methodLink RX0 22 yX0_dropOldest, Cond.instanceMethod yX0_dropOldest, Cond.selects RX0 yX0_dropOldest yX0_dropOldest, Cond.code yX0_dropOldest cX0_dropOldest 3 none, Cond.methodLink RX0 25 yX2_copyFrom]
def wsX5_couple : List Cond := .code yX5_couple cX5_couple 3 (some .int) :: ((wsX5_couple_r1 ++ (wsX5_couple_r2 ++ (wsX5_couple_r3 ++ wsX5_couple_r4))) ++ wsX50 ++ wsX20 ++ wsX10 ++ wsX00)
def wsX5_pass_r1 : List Cond := [Cond.fieldLink RX5 16 "PlateSlabs" "before" "LPlateSlabs$State;", Cond.fieldLink RX5 10 "PlateSlabs" "now" "LPlateSlabs$State;", Cond.methodLink RX5 43 yX2_copyFrom, Cond.instanceMethod yX2_copyFrom, Cond.selects RX2 yX2_copyFrom yX2_copyFrom, Cond.initialized RX2, Cond.code yX2_copyFrom cX2_copyFrom 3 none, Cond.fieldLink RX2 11 "PlateSlabs$State" "pairs" "[LPlateSlabs$Plates;", Cond.fieldLink RX2 22 "PlateSlabs$State" "tick" "I", Cond.fieldLink RX2 26 "PlateSlabs$State" "couplings" "I", Cond.fieldLink RX2 29 "PlateSlabs$State" "steps" "I", Cond.methodLink RX2 18 yX1_copyFrom, Cond.instanceMethod yX1_copyFrom, Cond.selects RX1 yX1_copyFrom yX1_copyFrom, Cond.initialized RX1, Cond.code yX1_copyFrom cX1_copyFrom 2 none, Cond.fieldLink RX1 9 "PlateSlabs$Plates" "settings" "[I", Cond.methodLink RX1 29 arraycopyName, Cond.native arraycopyName, Cond.static arraycopyName, Cond.initialized "java/lang/System", Cond.fieldLink RX1 35 "PlateSlabs$Plates" "depth" "I", Cond.fieldLink RX1 38 "PlateSlabs$Plates" "charge" "I", Cond.fieldLink RX1 15 "PlateSlabs$Plates" "voltage" "I"]
def wsX5_pass_r2 : List Cond := [Cond.fieldLink RX1 41 "PlateSlabs$Plates" "isOn" "Z", Cond.fieldLink RX1 45 "PlateSlabs$Plates" "gave" "J", Cond.fieldLink RX1 49 "PlateSlabs$Plates" "leaked" "J", Cond.fieldLink RX1 52 "PlateSlabs$Plates" "sparked" "J", Cond.methodLink RX5 68 yX2_letPass, Cond.instanceMethod yX2_letPass, Cond.selects RX2 yX2_letPass yX2_letPass, Cond.code yX2_letPass cX2_letPass 5 (some .int), Cond.constant RX2 95 (99999), Cond.methodLink RX2 96 yX1_movesInTick, Cond.instanceMethod yX1_movesInTick, Cond.selects RX1 yX1_movesInTick yX1_movesInTick, Cond.code yX1_movesInTick cX1_movesInTick 2 (some .boolean), Cond.methodLink RX1 83 yX1_leakAway, Cond.instanceMethod yX1_leakAway, Cond.selects RX1 yX1_leakAway yX1_leakAway, Cond.code yX1_leakAway cX1_leakAway 3 none, Cond.methodLink RX1 89 yX1_stored, Cond.instanceMethod yX1_stored, Cond.selects RX1 yX1_stored yX1_stored, Cond.code yX1_stored cX1_stored 3 (some .long), Cond.methodLink RX1 55 yX1_capacityAt, Cond.instanceMethod yX1_capacityAt, Cond.selects RX1 yX1_capacityAt yX1_capacityAt]
def wsX5_pass_r3 : List Cond := [Cond.code yX1_capacityAt cX1_capacityAt 2 (some .int), Cond.methodLink RX1 73 yX1_netAt, Cond.instanceMethod yX1_netAt, Cond.selects RX1 yX1_netAt yX1_netAt, Cond.code yX1_netAt cX1_netAt 2 (some .int), Cond.methodLink RX1 62 yX1_pullAt, Cond.instanceMethod yX1_pullAt, Cond.selects RX1 yX1_pullAt yX1_pullAt, Cond.code yX1_pullAt cX1_pullAt 6 (some .int), Cond.methodLink RX1 59 yX1_pullOf, Cond.instanceMethod yX1_pullOf, Cond.selects RX1 yX1_pullOf yX1_pullOf, Cond.code yX1_pullOf cX1_pullOf 2 (some .int), Cond.methodLink RX1 65 yX1_drawnBackAt, Cond.instanceMethod yX1_drawnBackAt, Cond.selects RX1 yX1_drawnBackAt yX1_drawnBackAt, Cond.code yX1_drawnBackAt cX1_drawnBackAt 2 (some .int), Cond.methodLink RX1 76 yX1_stepBy, Cond.instanceMethod yX1_stepBy, Cond.selects RX1 yX1_stepBy yX1_stepBy, Cond.code yX1_stepBy cX1_stepBy 2 (some .int), Cond.methodLink RX1 68 Lib.Math.abs.name, Cond.static Lib.Math.abs.name, Cond.initialized "java/lang/Math"]
def wsX5_pass_r4 : List Cond := [Cond.code Lib.Math.abs.name Lib.Math.abs.code 1 (some .int), Cond.methodLink RX1 86 yX1_holdVoltage, Cond.instanceMethod yX1_holdVoltage, Cond.selects RX1 yX1_holdVoltage yX1_holdVoltage, Cond.code yX1_holdVoltage cX1_holdVoltage 2 none, Cond.constantLong RX1 93 (2), Cond.methodLink RX5 51 yX5_recorded, Cond.instanceMethod yX5_recorded, Cond.selects RX5 yX5_recorded yX5_recorded, Cond.initialized RX5, Cond.code yX5_recorded cX5_recorded 2 (some .int), Cond.fieldLink RX5 25 "PlateSlabs" "history" "LPlateSlabs$History;", Cond.methodLink RX5 71 yX0_push, Cond.instanceMethod yX0_push, Cond.selects RX0 yX0_push yX0_push, Cond.initialized RX0, Cond.code yX0_push cX0_push 2 none, Cond.fieldLink RX0 18 "PlateSlabs$History" "size" "I", Cond.fieldLink RX0 11 "PlateSlabs$History" "states" "[LPlateSlabs$State;", Cond.methodLink RX0 22 yX0_dropOldest, Cond.instanceMethod yX0_dropOldest, Cond.selects RX0 yX0_dropOldest yX0_dropOldest, Cond.code yX0_dropOldest cX0_dropOldest 3 none, Cond.methodLink RX0 25 yX2_copyFrom]
def wsX5_pass : List Cond := .code yX5_pass cX5_pass 2 (some .int) :: ((wsX5_pass_r1 ++ (wsX5_pass_r2 ++ (wsX5_pass_r3 ++ wsX5_pass_r4))) ++ wsX50 ++ wsX20 ++ wsX10 ++ wsX00)
def wsX5_type : List Cond := .code yX5_type cX5_type 2 (some .int) :: ([.fieldLink RX5 39 "PlateSlabs" "trial" "LPlateSlabs$Trial;", .fieldLink RX5 74 "PlateSlabs$Trial" "text" "LPlateSlabs$Text;", .methodLink RX5 78 yX3_append, .instanceMethod yX3_append, .selects RX3 yX3_append yX3_append, .initialized RX3, .code yX3_append cX3_append 2 (some .int), .fieldLink RX3 15 "PlateSlabs$Text" "length" "I", .fieldLink RX3 9 "PlateSlabs$Text" "signs" "[C"] ++ wsX50 ++ wsX40 ++ wsX30)
def wsX5_clearText : List Cond := .code yX5_clearText cX5_clearText 1 (some .int) :: ([.fieldLink RX5 39 "PlateSlabs" "trial" "LPlateSlabs$Trial;", .fieldLink RX5 74 "PlateSlabs$Trial" "text" "LPlateSlabs$Text;", .methodLink RX5 84 yX3_empty, .instanceMethod yX3_empty, .selects RX3 yX3_empty yX3_empty, .initialized RX3, .code yX3_empty cX3_empty 2 (some .int), .fieldLink RX3 15 "PlateSlabs$Text" "length" "I"] ++ wsX50 ++ wsX40 ++ wsX30)
def wsX5_doThing_r1 : List Cond := [Cond.fieldLink RX5 39 "PlateSlabs" "trial" "LPlateSlabs$Trial;", Cond.fieldLink RX5 10 "PlateSlabs" "now" "LPlateSlabs$State;", Cond.methodLink RX5 102 yX4_pairOf, Cond.instanceMethod yX4_pairOf, Cond.selects RX4 yX4_pairOf yX4_pairOf, Cond.initialized RX4, Cond.code yX4_pairOf cX4_pairOf 2 (some .int), Cond.fieldLink RX4 22 "PlateSlabs$Trial" "pairs" "[I", Cond.methodLink RX4 28 yX4_isThing, Cond.instanceMethod yX4_isThing, Cond.selects RX4 yX4_isThing yX4_isThing, Cond.code yX4_isThing cX4_isThing 2 (some .boolean), Cond.fieldLink RX4 32 "PlateSlabs$Trial" "things" "I", Cond.methodLink RX5 105 yX4_valueOf, Cond.instanceMethod yX4_valueOf, Cond.selects RX4 yX4_valueOf yX4_valueOf, Cond.code yX4_valueOf cX4_valueOf 2 (some .int), Cond.fieldLink RX4 25 "PlateSlabs$Trial" "values" "[I", Cond.methodLink RX5 108 yX4_kindOf, Cond.instanceMethod yX4_kindOf, Cond.selects RX4 yX4_kindOf yX4_kindOf, Cond.code yX4_kindOf cX4_kindOf 2 (some .int), Cond.fieldLink RX4 18 "PlateSlabs$Trial" "kinds" "[I", Cond.methodLink RX5 55 yX2_connect]
def wsX5_doThing_r2 : List Cond := [Cond.instanceMethod yX2_connect, Cond.selects RX2 yX2_connect yX2_connect, Cond.initialized RX2, Cond.code yX2_connect cX2_connect 4 (some .int), Cond.fieldLink RX2 11 "PlateSlabs$State" "pairs" "[LPlateSlabs$Plates;", Cond.fieldLink RX2 50 "PlateSlabs$Plates" "isOn" "Z", Cond.fieldLink RX2 54 "PlateSlabs$Plates" "voltage" "I", Cond.fieldLink RX2 57 "PlateSlabs$Plates" "charge" "I", Cond.static yX5_isPair, Cond.initialized RX5, Cond.code yX5_isPair cX5_isPair 1 (some .boolean), Cond.methodLink RX2 47 yX1_holdVoltage, Cond.instanceMethod yX1_holdVoltage, Cond.selects RX1 yX1_holdVoltage yX1_holdVoltage, Cond.initialized RX1, Cond.code yX1_holdVoltage cX1_holdVoltage 2 none, Cond.fieldLink RX1 41 "PlateSlabs$Plates" "isOn" "Z", Cond.fieldLink RX1 35 "PlateSlabs$Plates" "depth" "I", Cond.fieldLink RX1 15 "PlateSlabs$Plates" "voltage" "I", Cond.fieldLink RX1 45 "PlateSlabs$Plates" "gave" "J", Cond.constantLong RX1 93 (2), Cond.fieldLink RX1 38 "PlateSlabs$Plates" "charge" "I", Cond.methodLink RX1 55 yX1_capacityAt, Cond.instanceMethod yX1_capacityAt]
def wsX5_doThing_r3 : List Cond := [Cond.selects RX1 yX1_capacityAt yX1_capacityAt, Cond.code yX1_capacityAt cX1_capacityAt 2 (some .int), Cond.fieldLink RX1 9 "PlateSlabs$Plates" "settings" "[I", Cond.methodLink RX5 59 yX2_disconnect, Cond.instanceMethod yX2_disconnect, Cond.selects RX2 yX2_disconnect yX2_disconnect, Cond.code yX2_disconnect cX2_disconnect 3 (some .int), Cond.methodLink RX5 62 yX2_putSlab, Cond.instanceMethod yX2_putSlab, Cond.selects RX2 yX2_putSlab yX2_putSlab, Cond.code yX2_putSlab cX2_putSlab 5 (some .int), Cond.fieldLink RX2 63 "PlateSlabs$Plates" "depth" "I", Cond.static yX5_isDepth, Cond.code yX5_isDepth cX5_isDepth 1 (some .boolean), Cond.methodLink RX5 65 yX2_share, Cond.instanceMethod yX2_share, Cond.selects RX2 yX2_share yX2_share, Cond.code yX2_share cX2_share 7 (some .int), Cond.constant RX2 74 (200000), Cond.fieldLink RX2 26 "PlateSlabs$State" "couplings" "I", Cond.methodLink RX2 66 yX1_capacityAt, Cond.methodLink RX2 70 yX2_shareOf, Cond.static yX2_shareOf, Cond.code yX2_shareOf cX2_shareOf 4 (some .int)]
def wsX5_doThing_r4 : List Cond := [Cond.methodLink RX2 75 yX2_moveCharges, Cond.static yX2_moveCharges, Cond.code yX2_moveCharges cX2_moveCharges 9 none, Cond.constantLong RX2 83 (2), Cond.fieldLink RX2 91 "PlateSlabs$Plates" "sparked" "J", Cond.methodLink RX2 79 yX1_stored, Cond.instanceMethod yX1_stored, Cond.selects RX1 yX1_stored yX1_stored, Cond.code yX1_stored cX1_stored 3 (some .long), Cond.methodLink RX2 85 yJ9_floorDiv_f86c9, Cond.static yJ9_floorDiv_f86c9, Cond.initialized RJ9, Cond.code yJ9_floorDiv_f86c9 cJ9_floorDiv_f86c9 6 (some .long), Cond.methodLink RX5 68 yX2_letPass, Cond.instanceMethod yX2_letPass, Cond.selects RX2 yX2_letPass yX2_letPass, Cond.code yX2_letPass cX2_letPass 5 (some .int), Cond.fieldLink RX2 22 "PlateSlabs$State" "tick" "I", Cond.constant RX2 95 (99999), Cond.fieldLink RX2 29 "PlateSlabs$State" "steps" "I", Cond.methodLink RX2 96 yX1_movesInTick, Cond.instanceMethod yX1_movesInTick, Cond.selects RX1 yX1_movesInTick yX1_movesInTick, Cond.code yX1_movesInTick cX1_movesInTick 2 (some .boolean)]
def wsX5_doThing_r5 : List Cond := [Cond.methodLink RX1 83 yX1_leakAway, Cond.instanceMethod yX1_leakAway, Cond.selects RX1 yX1_leakAway yX1_leakAway, Cond.code yX1_leakAway cX1_leakAway 3 none, Cond.fieldLink RX1 49 "PlateSlabs$Plates" "leaked" "J", Cond.methodLink RX1 89 yX1_stored, Cond.methodLink RX1 73 yX1_netAt, Cond.instanceMethod yX1_netAt, Cond.selects RX1 yX1_netAt yX1_netAt, Cond.code yX1_netAt cX1_netAt 2 (some .int), Cond.methodLink RX1 62 yX1_pullAt, Cond.instanceMethod yX1_pullAt, Cond.selects RX1 yX1_pullAt yX1_pullAt, Cond.code yX1_pullAt cX1_pullAt 6 (some .int), Cond.methodLink RX1 59 yX1_pullOf, Cond.instanceMethod yX1_pullOf, Cond.selects RX1 yX1_pullOf yX1_pullOf, Cond.code yX1_pullOf cX1_pullOf 2 (some .int), Cond.methodLink RX1 65 yX1_drawnBackAt, Cond.instanceMethod yX1_drawnBackAt, Cond.selects RX1 yX1_drawnBackAt yX1_drawnBackAt, Cond.code yX1_drawnBackAt cX1_drawnBackAt 2 (some .int), Cond.methodLink RX1 76 yX1_stepBy, Cond.instanceMethod yX1_stepBy]
def wsX5_doThing_r6 : List Cond := [Cond.selects RX1 yX1_stepBy yX1_stepBy, Cond.code yX1_stepBy cX1_stepBy 2 (some .int), Cond.methodLink RX1 68 Lib.Math.abs.name, Cond.static Lib.Math.abs.name, Cond.initialized "java/lang/Math", Cond.code Lib.Math.abs.name Lib.Math.abs.code 1 (some .int), Cond.methodLink RX1 86 yX1_holdVoltage]
def wsX5_doThing : List Cond := .code yX5_doThing cX5_doThing 4 (some .int) :: ((wsX5_doThing_r1 ++ (wsX5_doThing_r2 ++ (wsX5_doThing_r3 ++ (wsX5_doThing_r4 ++ (wsX5_doThing_r5 ++ wsX5_doThing_r6))))) ++ wsX50 ++ wsX40 ++ wsX20 ++ wsX10)
def wsX5_stopAt_r1 : List Cond := [Cond.fieldLink RX5 10 "PlateSlabs" "now" "LPlateSlabs$State;", Cond.fieldLink RX5 16 "PlateSlabs" "before" "LPlateSlabs$State;", Cond.fieldLink RX5 111 "PlateSlabs" "wasStopped" "Z", Cond.fieldLink RX5 115 "PlateSlabs" "stopNumber" "I", Cond.fieldLink RX5 118 "PlateSlabs" "stopError" "I", Cond.methodLink RX5 43 yX2_copyFrom, Cond.instanceMethod yX2_copyFrom, Cond.selects RX2 yX2_copyFrom yX2_copyFrom, Cond.initialized RX2, Cond.code yX2_copyFrom cX2_copyFrom 3 none, Cond.fieldLink RX2 11 "PlateSlabs$State" "pairs" "[LPlateSlabs$Plates;", Cond.fieldLink RX2 22 "PlateSlabs$State" "tick" "I", Cond.fieldLink RX2 26 "PlateSlabs$State" "couplings" "I", Cond.fieldLink RX2 29 "PlateSlabs$State" "steps" "I", Cond.methodLink RX2 18 yX1_copyFrom, Cond.instanceMethod yX1_copyFrom, Cond.selects RX1 yX1_copyFrom yX1_copyFrom, Cond.initialized RX1, Cond.code yX1_copyFrom cX1_copyFrom 2 none, Cond.fieldLink RX1 9 "PlateSlabs$Plates" "settings" "[I", Cond.methodLink RX1 29 arraycopyName, Cond.native arraycopyName, Cond.static arraycopyName, Cond.initialized "java/lang/System"]
def wsX5_stopAt_r2 : List Cond := [Cond.fieldLink RX1 35 "PlateSlabs$Plates" "depth" "I", Cond.fieldLink RX1 38 "PlateSlabs$Plates" "charge" "I", Cond.fieldLink RX1 15 "PlateSlabs$Plates" "voltage" "I", Cond.fieldLink RX1 41 "PlateSlabs$Plates" "isOn" "Z", Cond.fieldLink RX1 45 "PlateSlabs$Plates" "gave" "J", Cond.fieldLink RX1 49 "PlateSlabs$Plates" "leaked" "J", Cond.fieldLink RX1 52 "PlateSlabs$Plates" "sparked" "J"]
def wsX5_stopAt : List Cond := .code yX5_stopAt cX5_stopAt 3 none :: ((wsX5_stopAt_r1 ++ wsX5_stopAt_r2) ++ wsX50 ++ wsX20 ++ wsX10)
def wsX5_perform_r1 : List Cond := [Cond.fieldLink RX5 39 "PlateSlabs" "trial" "LPlateSlabs$Trial;", Cond.fieldLink RX5 16 "PlateSlabs" "before" "LPlateSlabs$State;", Cond.fieldLink RX5 10 "PlateSlabs" "now" "LPlateSlabs$State;", Cond.fieldLink RX5 91 "PlateSlabs$Trial" "things" "I", Cond.methodLink RX5 88 yX4_read, Cond.instanceMethod yX4_read, Cond.selects RX4 yX4_read yX4_read, Cond.initialized RX4, Cond.code yX4_read cX4_read 2 (some .int), Cond.fieldLink RX4 36 "PlateSlabs$Trial" "at" "I", Cond.fieldLink RX4 32 "PlateSlabs$Trial" "things" "I", Cond.fieldLink RX4 12 "PlateSlabs$Trial" "text" "LPlateSlabs$Text;", Cond.fieldLink RX4 18 "PlateSlabs$Trial" "kinds" "[I", Cond.fieldLink RX4 22 "PlateSlabs$Trial" "pairs" "[I", Cond.fieldLink RX4 46 "PlateSlabs$Trial" "pair" "I", Cond.fieldLink RX4 25 "PlateSlabs$Trial" "values" "[I", Cond.fieldLink RX4 49 "PlateSlabs$Trial" "value" "I", Cond.fieldLink RX4 52 "PlateSlabs$Text" "length" "I", Cond.methodLink RX4 39 yX3_signAt, Cond.instanceMethod yX3_signAt, Cond.selects RX3 yX3_signAt yX3_signAt, Cond.initialized RX3, Cond.code yX3_signAt cX3_signAt 2 (some .char), Cond.fieldLink RX3 15 "PlateSlabs$Text" "length" "I"]
def wsX5_perform_r2 : List Cond := [Cond.fieldLink RX3 9 "PlateSlabs$Text" "signs" "[C", Cond.methodLink RX4 43 yX4_readThing, Cond.instanceMethod yX4_readThing, Cond.selects RX4 yX4_readThing yX4_readThing, Cond.code yX4_readThing cX4_readThing 2 (some .boolean), Cond.methodLink RX4 55 yX4_readSign, Cond.instanceMethod yX4_readSign, Cond.selects RX4 yX4_readSign yX4_readSign, Cond.code yX4_readSign cX4_readSign 2 (some .boolean), Cond.methodLink RX4 59 yX4_readPair, Cond.instanceMethod yX4_readPair, Cond.selects RX4 yX4_readPair yX4_readPair, Cond.code yX4_readPair cX4_readPair 1 (some .boolean), Cond.methodLink RX4 70 yX4_digitAt, Cond.instanceMethod yX4_digitAt, Cond.selects RX4 yX4_digitAt yX4_digitAt, Cond.code yX4_digitAt cX4_digitAt 3 (some .int), Cond.static yX5_isPair, Cond.initialized RX5, Cond.code yX5_isPair cX5_isPair 1 (some .boolean), Cond.methodLink RX4 63 yX4_readNumber, Cond.instanceMethod yX4_readNumber, Cond.selects RX4 yX4_readNumber yX4_readNumber, Cond.code yX4_readNumber cX4_readNumber 4 (some .boolean)]
def wsX5_perform_r3 : List Cond := [Cond.methodLink RX4 67 yX4_readOther, Cond.instanceMethod yX4_readOther, Cond.selects RX4 yX4_readOther yX4_readOther, Cond.code yX4_readOther cX4_readOther 1 (some .boolean), Cond.methodLink RX5 43 yX2_copyFrom, Cond.instanceMethod yX2_copyFrom, Cond.selects RX2 yX2_copyFrom yX2_copyFrom, Cond.initialized RX2, Cond.code yX2_copyFrom cX2_copyFrom 3 none, Cond.fieldLink RX2 11 "PlateSlabs$State" "pairs" "[LPlateSlabs$Plates;", Cond.fieldLink RX2 22 "PlateSlabs$State" "tick" "I", Cond.fieldLink RX2 26 "PlateSlabs$State" "couplings" "I", Cond.fieldLink RX2 29 "PlateSlabs$State" "steps" "I", Cond.methodLink RX2 18 yX1_copyFrom, Cond.instanceMethod yX1_copyFrom, Cond.selects RX1 yX1_copyFrom yX1_copyFrom, Cond.initialized RX1, Cond.code yX1_copyFrom cX1_copyFrom 2 none, Cond.fieldLink RX1 9 "PlateSlabs$Plates" "settings" "[I", Cond.methodLink RX1 29 arraycopyName, Cond.native arraycopyName, Cond.static arraycopyName, Cond.initialized "java/lang/System", Cond.fieldLink RX1 35 "PlateSlabs$Plates" "depth" "I"]
def wsX5_perform_r4 : List Cond := [Cond.fieldLink RX1 38 "PlateSlabs$Plates" "charge" "I", Cond.fieldLink RX1 15 "PlateSlabs$Plates" "voltage" "I", Cond.fieldLink RX1 41 "PlateSlabs$Plates" "isOn" "Z", Cond.fieldLink RX1 45 "PlateSlabs$Plates" "gave" "J", Cond.fieldLink RX1 49 "PlateSlabs$Plates" "leaked" "J", Cond.fieldLink RX1 52 "PlateSlabs$Plates" "sparked" "J", Cond.methodLink RX5 95 yX5_doThing, Cond.instanceMethod yX5_doThing, Cond.selects RX5 yX5_doThing yX5_doThing, Cond.code yX5_doThing cX5_doThing 4 (some .int), Cond.methodLink RX5 102 yX4_pairOf, Cond.instanceMethod yX4_pairOf, Cond.selects RX4 yX4_pairOf yX4_pairOf, Cond.code yX4_pairOf cX4_pairOf 2 (some .int), Cond.methodLink RX4 28 yX4_isThing, Cond.instanceMethod yX4_isThing, Cond.selects RX4 yX4_isThing yX4_isThing, Cond.code yX4_isThing cX4_isThing 2 (some .boolean), Cond.methodLink RX5 105 yX4_valueOf, Cond.instanceMethod yX4_valueOf, Cond.selects RX4 yX4_valueOf yX4_valueOf, Cond.code yX4_valueOf cX4_valueOf 2 (some .int), Cond.methodLink RX5 108 yX4_kindOf, Cond.instanceMethod yX4_kindOf]
def wsX5_perform_r5 : List Cond := [Cond.selects RX4 yX4_kindOf yX4_kindOf, Cond.code yX4_kindOf cX4_kindOf 2 (some .int), Cond.methodLink RX5 55 yX2_connect, Cond.instanceMethod yX2_connect, Cond.selects RX2 yX2_connect yX2_connect, Cond.code yX2_connect cX2_connect 4 (some .int), Cond.fieldLink RX2 50 "PlateSlabs$Plates" "isOn" "Z", Cond.fieldLink RX2 54 "PlateSlabs$Plates" "voltage" "I", Cond.fieldLink RX2 57 "PlateSlabs$Plates" "charge" "I", Cond.methodLink RX2 47 yX1_holdVoltage, Cond.instanceMethod yX1_holdVoltage, Cond.selects RX1 yX1_holdVoltage yX1_holdVoltage, Cond.code yX1_holdVoltage cX1_holdVoltage 2 none, Cond.constantLong RX1 93 (2), Cond.methodLink RX1 55 yX1_capacityAt, Cond.instanceMethod yX1_capacityAt, Cond.selects RX1 yX1_capacityAt yX1_capacityAt, Cond.code yX1_capacityAt cX1_capacityAt 2 (some .int), Cond.methodLink RX5 59 yX2_disconnect, Cond.instanceMethod yX2_disconnect, Cond.selects RX2 yX2_disconnect yX2_disconnect, Cond.code yX2_disconnect cX2_disconnect 3 (some .int), Cond.methodLink RX5 62 yX2_putSlab, Cond.instanceMethod yX2_putSlab]
def wsX5_perform_r6 : List Cond := [Cond.selects RX2 yX2_putSlab yX2_putSlab, Cond.code yX2_putSlab cX2_putSlab 5 (some .int), Cond.fieldLink RX2 63 "PlateSlabs$Plates" "depth" "I", Cond.static yX5_isDepth, Cond.code yX5_isDepth cX5_isDepth 1 (some .boolean), Cond.methodLink RX5 65 yX2_share, Cond.instanceMethod yX2_share, Cond.selects RX2 yX2_share yX2_share, Cond.code yX2_share cX2_share 7 (some .int), Cond.constant RX2 74 (200000), Cond.methodLink RX2 66 yX1_capacityAt, Cond.methodLink RX2 70 yX2_shareOf, Cond.static yX2_shareOf, Cond.code yX2_shareOf cX2_shareOf 4 (some .int), Cond.methodLink RX2 75 yX2_moveCharges, Cond.static yX2_moveCharges, Cond.code yX2_moveCharges cX2_moveCharges 9 none, Cond.constantLong RX2 83 (2), Cond.fieldLink RX2 91 "PlateSlabs$Plates" "sparked" "J", Cond.methodLink RX2 79 yX1_stored, Cond.instanceMethod yX1_stored, Cond.selects RX1 yX1_stored yX1_stored, Cond.code yX1_stored cX1_stored 3 (some .long), Cond.methodLink RX2 85 yJ9_floorDiv_f86c9]
def wsX5_perform_r7 : List Cond := [Cond.static yJ9_floorDiv_f86c9, Cond.initialized RJ9, Cond.code yJ9_floorDiv_f86c9 cJ9_floorDiv_f86c9 6 (some .long), Cond.methodLink RX5 68 yX2_letPass, Cond.instanceMethod yX2_letPass, Cond.selects RX2 yX2_letPass yX2_letPass, Cond.code yX2_letPass cX2_letPass 5 (some .int), Cond.constant RX2 95 (99999), Cond.methodLink RX2 96 yX1_movesInTick, Cond.instanceMethod yX1_movesInTick, Cond.selects RX1 yX1_movesInTick yX1_movesInTick, Cond.code yX1_movesInTick cX1_movesInTick 2 (some .boolean), Cond.methodLink RX1 83 yX1_leakAway, Cond.instanceMethod yX1_leakAway, Cond.selects RX1 yX1_leakAway yX1_leakAway, Cond.code yX1_leakAway cX1_leakAway 3 none, Cond.methodLink RX1 89 yX1_stored, Cond.methodLink RX1 73 yX1_netAt, Cond.instanceMethod yX1_netAt, Cond.selects RX1 yX1_netAt yX1_netAt, Cond.code yX1_netAt cX1_netAt 2 (some .int), Cond.methodLink RX1 62 yX1_pullAt, Cond.instanceMethod yX1_pullAt, Cond.selects RX1 yX1_pullAt yX1_pullAt]
def wsX5_perform_r8 : List Cond := [Cond.code yX1_pullAt cX1_pullAt 6 (some .int), Cond.methodLink RX1 59 yX1_pullOf, Cond.instanceMethod yX1_pullOf, Cond.selects RX1 yX1_pullOf yX1_pullOf, Cond.code yX1_pullOf cX1_pullOf 2 (some .int), Cond.methodLink RX1 65 yX1_drawnBackAt, Cond.instanceMethod yX1_drawnBackAt, Cond.selects RX1 yX1_drawnBackAt yX1_drawnBackAt, Cond.code yX1_drawnBackAt cX1_drawnBackAt 2 (some .int), Cond.methodLink RX1 76 yX1_stepBy, Cond.instanceMethod yX1_stepBy, Cond.selects RX1 yX1_stepBy yX1_stepBy, Cond.code yX1_stepBy cX1_stepBy 2 (some .int), Cond.methodLink RX1 68 Lib.Math.abs.name, Cond.static Lib.Math.abs.name, Cond.initialized "java/lang/Math", Cond.code Lib.Math.abs.name Lib.Math.abs.code 1 (some .int), Cond.methodLink RX1 86 yX1_holdVoltage, Cond.methodLink RX5 98 yX5_stopAt, Cond.instanceMethod yX5_stopAt, Cond.selects RX5 yX5_stopAt yX5_stopAt, Cond.code yX5_stopAt cX5_stopAt 3 none, Cond.fieldLink RX5 111 "PlateSlabs" "wasStopped" "Z", Cond.fieldLink RX5 115 "PlateSlabs" "stopNumber" "I"]
def wsX5_perform_r9 : List Cond := [Cond.fieldLink RX5 118 "PlateSlabs" "stopError" "I", Cond.methodLink RX5 51 yX5_recorded, Cond.instanceMethod yX5_recorded, Cond.selects RX5 yX5_recorded yX5_recorded, Cond.code yX5_recorded cX5_recorded 2 (some .int), Cond.fieldLink RX5 25 "PlateSlabs" "history" "LPlateSlabs$History;", Cond.methodLink RX5 71 yX0_push, Cond.instanceMethod yX0_push, Cond.selects RX0 yX0_push yX0_push, Cond.initialized RX0, Cond.code yX0_push cX0_push 2 none, Cond.fieldLink RX0 18 "PlateSlabs$History" "size" "I", Cond.fieldLink RX0 11 "PlateSlabs$History" "states" "[LPlateSlabs$State;", Cond.methodLink RX0 22 yX0_dropOldest, Cond.instanceMethod yX0_dropOldest, Cond.selects RX0 yX0_dropOldest yX0_dropOldest, Cond.code yX0_dropOldest cX0_dropOldest 3 none, Cond.methodLink RX0 25 yX2_copyFrom]
def wsX5_perform : List Cond := .code yX5_perform cX5_perform 4 (some .int) :: ((wsX5_perform_r1 ++ (wsX5_perform_r2 ++ (wsX5_perform_r3 ++ (wsX5_perform_r4 ++ (wsX5_perform_r5 ++ (wsX5_perform_r6 ++ (wsX5_perform_r7 ++ (wsX5_perform_r8 ++ wsX5_perform_r9)))))))) ++ wsX50 ++ wsX40 ++ wsX30 ++ wsX20 ++ wsX10 ++ wsX00)
def wsX5_stopped : List Cond := .code yX5_stopped cX5_stopped 2 (some .int) :: ([.fieldLink RX5 111 "PlateSlabs" "wasStopped" "Z", .fieldLink RX5 115 "PlateSlabs" "stopNumber" "I", .fieldLink RX5 118 "PlateSlabs" "stopError" "I"] ++ wsX50)
def wsX5_undo_r1 : List Cond := [Cond.fieldLink RX5 25 "PlateSlabs" "history" "LPlateSlabs$History;", Cond.fieldLink RX5 10 "PlateSlabs" "now" "LPlateSlabs$State;", Cond.methodLink RX5 121 yX0_popInto, Cond.instanceMethod yX0_popInto, Cond.selects RX0 yX0_popInto yX0_popInto, Cond.initialized RX0, Cond.code yX0_popInto cX0_popInto 2 (some .int), Cond.fieldLink RX0 18 "PlateSlabs$History" "size" "I", Cond.fieldLink RX0 11 "PlateSlabs$History" "states" "[LPlateSlabs$State;", Cond.methodLink RX0 25 yX2_copyFrom, Cond.instanceMethod yX2_copyFrom, Cond.selects RX2 yX2_copyFrom yX2_copyFrom, Cond.initialized RX2, Cond.code yX2_copyFrom cX2_copyFrom 3 none, Cond.fieldLink RX2 11 "PlateSlabs$State" "pairs" "[LPlateSlabs$Plates;", Cond.fieldLink RX2 22 "PlateSlabs$State" "tick" "I", Cond.fieldLink RX2 26 "PlateSlabs$State" "couplings" "I", Cond.fieldLink RX2 29 "PlateSlabs$State" "steps" "I", Cond.methodLink RX2 18 yX1_copyFrom, Cond.instanceMethod yX1_copyFrom, Cond.selects RX1 yX1_copyFrom yX1_copyFrom, Cond.initialized RX1, Cond.code yX1_copyFrom cX1_copyFrom 2 none, Cond.fieldLink RX1 9 "PlateSlabs$Plates" "settings" "[I"]
def wsX5_undo_r2 : List Cond := [Cond.methodLink RX1 29 arraycopyName, Cond.native arraycopyName, Cond.static arraycopyName, Cond.initialized "java/lang/System", Cond.fieldLink RX1 35 "PlateSlabs$Plates" "depth" "I", Cond.fieldLink RX1 38 "PlateSlabs$Plates" "charge" "I", Cond.fieldLink RX1 15 "PlateSlabs$Plates" "voltage" "I", Cond.fieldLink RX1 41 "PlateSlabs$Plates" "isOn" "Z", Cond.fieldLink RX1 45 "PlateSlabs$Plates" "gave" "J", Cond.fieldLink RX1 49 "PlateSlabs$Plates" "leaked" "J", Cond.fieldLink RX1 52 "PlateSlabs$Plates" "sparked" "J"]
def wsX5_undo : List Cond := .code yX5_undo cX5_undo 1 (some .int) :: ((wsX5_undo_r1 ++ wsX5_undo_r2) ++ wsX50 ++ wsX00 ++ wsX20 ++ wsX10)
def wsX5_keep_r1 : List Cond := [Cond.fieldLink RX5 19 "PlateSlabs" "snapshot" "LPlateSlabs$State;", Cond.fieldLink RX5 10 "PlateSlabs" "now" "LPlateSlabs$State;", Cond.fieldLink RX5 125 "PlateSlabs" "isKept" "Z", Cond.fieldLink RX5 128 "PlateSlabs$State" "tick" "I", Cond.methodLink RX5 43 yX2_copyFrom, Cond.instanceMethod yX2_copyFrom, Cond.selects RX2 yX2_copyFrom yX2_copyFrom, Cond.initialized RX2, Cond.code yX2_copyFrom cX2_copyFrom 3 none, Cond.fieldLink RX2 11 "PlateSlabs$State" "pairs" "[LPlateSlabs$Plates;", Cond.fieldLink RX2 22 "PlateSlabs$State" "tick" "I", Cond.fieldLink RX2 26 "PlateSlabs$State" "couplings" "I", Cond.fieldLink RX2 29 "PlateSlabs$State" "steps" "I", Cond.methodLink RX2 18 yX1_copyFrom, Cond.instanceMethod yX1_copyFrom, Cond.selects RX1 yX1_copyFrom yX1_copyFrom, Cond.initialized RX1, Cond.code yX1_copyFrom cX1_copyFrom 2 none, Cond.fieldLink RX1 9 "PlateSlabs$Plates" "settings" "[I", Cond.methodLink RX1 29 arraycopyName, Cond.native arraycopyName, Cond.static arraycopyName, Cond.initialized "java/lang/System", Cond.fieldLink RX1 35 "PlateSlabs$Plates" "depth" "I"]
def wsX5_keep_r2 : List Cond := [Cond.fieldLink RX1 38 "PlateSlabs$Plates" "charge" "I", Cond.fieldLink RX1 15 "PlateSlabs$Plates" "voltage" "I", Cond.fieldLink RX1 41 "PlateSlabs$Plates" "isOn" "Z", Cond.fieldLink RX1 45 "PlateSlabs$Plates" "gave" "J", Cond.fieldLink RX1 49 "PlateSlabs$Plates" "leaked" "J", Cond.fieldLink RX1 52 "PlateSlabs$Plates" "sparked" "J"]
def wsX5_keep : List Cond := .code yX5_keep cX5_keep 1 (some .int) :: ((wsX5_keep_r1 ++ wsX5_keep_r2) ++ wsX50 ++ wsX20 ++ wsX10)
def wsX5_restore_r1 : List Cond := [Cond.fieldLink RX5 125 "PlateSlabs" "isKept" "Z", Cond.fieldLink RX5 16 "PlateSlabs" "before" "LPlateSlabs$State;", Cond.fieldLink RX5 10 "PlateSlabs" "now" "LPlateSlabs$State;", Cond.fieldLink RX5 19 "PlateSlabs" "snapshot" "LPlateSlabs$State;", Cond.fieldLink RX5 128 "PlateSlabs$State" "tick" "I", Cond.methodLink RX5 43 yX2_copyFrom, Cond.instanceMethod yX2_copyFrom, Cond.selects RX2 yX2_copyFrom yX2_copyFrom, Cond.initialized RX2, Cond.code yX2_copyFrom cX2_copyFrom 3 none, Cond.fieldLink RX2 11 "PlateSlabs$State" "pairs" "[LPlateSlabs$Plates;", Cond.fieldLink RX2 22 "PlateSlabs$State" "tick" "I", Cond.fieldLink RX2 26 "PlateSlabs$State" "couplings" "I", Cond.fieldLink RX2 29 "PlateSlabs$State" "steps" "I", Cond.methodLink RX2 18 yX1_copyFrom, Cond.instanceMethod yX1_copyFrom, Cond.selects RX1 yX1_copyFrom yX1_copyFrom, Cond.initialized RX1, Cond.code yX1_copyFrom cX1_copyFrom 2 none, Cond.fieldLink RX1 9 "PlateSlabs$Plates" "settings" "[I", Cond.methodLink RX1 29 arraycopyName, Cond.native arraycopyName, Cond.static arraycopyName, Cond.initialized "java/lang/System"]
def wsX5_restore_r2 : List Cond := [Cond.fieldLink RX1 35 "PlateSlabs$Plates" "depth" "I", Cond.fieldLink RX1 38 "PlateSlabs$Plates" "charge" "I", Cond.fieldLink RX1 15 "PlateSlabs$Plates" "voltage" "I", Cond.fieldLink RX1 41 "PlateSlabs$Plates" "isOn" "Z", Cond.fieldLink RX1 45 "PlateSlabs$Plates" "gave" "J", Cond.fieldLink RX1 49 "PlateSlabs$Plates" "leaked" "J", Cond.fieldLink RX1 52 "PlateSlabs$Plates" "sparked" "J", Cond.methodLink RX5 51 yX5_recorded, Cond.instanceMethod yX5_recorded, Cond.selects RX5 yX5_recorded yX5_recorded, Cond.initialized RX5, Cond.code yX5_recorded cX5_recorded 2 (some .int), Cond.fieldLink RX5 25 "PlateSlabs" "history" "LPlateSlabs$History;", Cond.methodLink RX5 71 yX0_push, Cond.instanceMethod yX0_push, Cond.selects RX0 yX0_push yX0_push, Cond.initialized RX0, Cond.code yX0_push cX0_push 2 none, Cond.fieldLink RX0 18 "PlateSlabs$History" "size" "I", Cond.fieldLink RX0 11 "PlateSlabs$History" "states" "[LPlateSlabs$State;", Cond.methodLink RX0 22 yX0_dropOldest, Cond.instanceMethod yX0_dropOldest, Cond.selects RX0 yX0_dropOldest yX0_dropOldest, Cond.code yX0_dropOldest cX0_dropOldest 3 none]
def wsX5_restore_r3 : List Cond := [Cond.methodLink RX0 25 yX2_copyFrom]
def wsX5_restore : List Cond := .code yX5_restore cX5_restore 1 (some .int) :: ((wsX5_restore_r1 ++ (wsX5_restore_r2 ++ wsX5_restore_r3)) ++ wsX50 ++ wsX20 ++ wsX10 ++ wsX00)
def wsX5_pair_r1 : List Cond := [Cond.fieldLink RX5 10 "PlateSlabs" "now" "LPlateSlabs$State;", Cond.fieldLink RX5 135 "PlateSlabs$State" "pairs" "[LPlateSlabs$Plates;", Cond.fieldLink RX5 142 "PlateSlabs$Plates" "settings" "[I", Cond.fieldLink RX5 146 "PlateSlabs$Plates" "depth" "I", Cond.fieldLink RX5 152 "PlateSlabs$Plates" "charge" "I", Cond.fieldLink RX5 155 "PlateSlabs$Plates" "voltage" "I", Cond.fieldLink RX5 158 "PlateSlabs$Plates" "isOn" "Z", Cond.methodLink RX5 167 Lib.Math.abs.name, Cond.static Lib.Math.abs.name, Cond.initialized "java/lang/Math", Cond.code Lib.Math.abs.name Lib.Math.abs.code 1 (some .int), Cond.methodLink RX5 131 yX5_isPair, Cond.static yX5_isPair, Cond.initialized RX5, Cond.code yX5_isPair cX5_isPair 1 (some .boolean), Cond.methodLink RX5 139 yX1_isSetting, Cond.static yX1_isSetting, Cond.initialized RX1, Cond.code yX1_isSetting cX1_isSetting 1 (some .boolean), Cond.methodLink RX5 149 yX1_capacityAt, Cond.instanceMethod yX1_capacityAt, Cond.selects RX1 yX1_capacityAt yX1_capacityAt, Cond.code yX1_capacityAt cX1_capacityAt 2 (some .int), Cond.fieldLink RX1 9 "PlateSlabs$Plates" "settings" "[I"]
def wsX5_pair_r2 : List Cond := [Cond.methodLink RX5 161 yX1_pullAt, Cond.instanceMethod yX1_pullAt, Cond.selects RX1 yX1_pullAt yX1_pullAt, Cond.code yX1_pullAt cX1_pullAt 6 (some .int), Cond.fieldLink RX1 41 "PlateSlabs$Plates" "isOn" "Z", Cond.fieldLink RX1 15 "PlateSlabs$Plates" "voltage" "I", Cond.fieldLink RX1 38 "PlateSlabs$Plates" "charge" "I", Cond.methodLink RX1 59 yX1_pullOf, Cond.instanceMethod yX1_pullOf, Cond.selects RX1 yX1_pullOf yX1_pullOf, Cond.code yX1_pullOf cX1_pullOf 2 (some .int), Cond.methodLink RX1 55 yX1_capacityAt, Cond.methodLink RX5 164 yX1_drawnBackAt, Cond.instanceMethod yX1_drawnBackAt, Cond.selects RX1 yX1_drawnBackAt yX1_drawnBackAt, Cond.code yX1_drawnBackAt cX1_drawnBackAt 2 (some .int)]
def wsX5_pair : List Cond := .code yX5_pair cX5_pair 4 (some .int) :: ((wsX5_pair_r1 ++ wsX5_pair_r2) ++ wsX50 ++ wsX20 ++ wsX10)
def wsX5_book_r1 : List Cond := [Cond.constantLong RX5 172 (-1), Cond.fieldLink RX5 10 "PlateSlabs" "now" "LPlateSlabs$State;", Cond.fieldLink RX5 135 "PlateSlabs$State" "pairs" "[LPlateSlabs$Plates;", Cond.fieldLink RX5 178 "PlateSlabs$Plates" "gave" "J", Cond.fieldLink RX5 182 "PlateSlabs$Plates" "leaked" "J", Cond.fieldLink RX5 185 "PlateSlabs$Plates" "sparked" "J", Cond.constantLong RX5 188 (-2), Cond.methodLink RX5 131 yX5_isPair, Cond.static yX5_isPair, Cond.initialized RX5, Cond.code yX5_isPair cX5_isPair 1 (some .boolean), Cond.methodLink RX5 174 yX1_stored, Cond.instanceMethod yX1_stored, Cond.selects RX1 yX1_stored yX1_stored, Cond.initialized RX1, Cond.code yX1_stored cX1_stored 3 (some .long), Cond.fieldLink RX1 41 "PlateSlabs$Plates" "isOn" "Z", Cond.fieldLink RX1 15 "PlateSlabs$Plates" "voltage" "I", Cond.fieldLink RX1 38 "PlateSlabs$Plates" "charge" "I", Cond.fieldLink RX1 35 "PlateSlabs$Plates" "depth" "I", Cond.methodLink RX1 55 yX1_capacityAt, Cond.instanceMethod yX1_capacityAt, Cond.selects RX1 yX1_capacityAt yX1_capacityAt, Cond.code yX1_capacityAt cX1_capacityAt 2 (some .int)]
def wsX5_book_r2 : List Cond := [Cond.fieldLink RX1 9 "PlateSlabs$Plates" "settings" "[I"]
def wsX5_book : List Cond := .code yX5_book cX5_book 4 (some .long) :: ((wsX5_book_r1 ++ wsX5_book_r2) ++ wsX50 ++ wsX20 ++ wsX10)
def wsX5_reason_r1 : List Cond := [Cond.fieldLink RX5 10 "PlateSlabs" "now" "LPlateSlabs$State;", Cond.fieldLink RX5 135 "PlateSlabs$State" "pairs" "[LPlateSlabs$Plates;", Cond.methodLink RX5 131 yX5_isPair, Cond.static yX5_isPair, Cond.initialized RX5, Cond.code yX5_isPair cX5_isPair 1 (some .boolean), Cond.methodLink RX5 190 yX1_reasonNow, Cond.instanceMethod yX1_reasonNow, Cond.selects RX1 yX1_reasonNow yX1_reasonNow, Cond.initialized RX1, Cond.code yX1_reasonNow cX1_reasonNow 2 (some .int), Cond.fieldLink RX1 35 "PlateSlabs$Plates" "depth" "I", Cond.methodLink RX1 68 Lib.Math.abs.name, Cond.static Lib.Math.abs.name, Cond.initialized "java/lang/Math", Cond.code Lib.Math.abs.name Lib.Math.abs.code 1 (some .int), Cond.fieldLink RX1 9 "PlateSlabs$Plates" "settings" "[I", Cond.methodLink RX1 73 yX1_netAt, Cond.instanceMethod yX1_netAt, Cond.selects RX1 yX1_netAt yX1_netAt, Cond.code yX1_netAt cX1_netAt 2 (some .int), Cond.methodLink RX1 62 yX1_pullAt, Cond.instanceMethod yX1_pullAt, Cond.selects RX1 yX1_pullAt yX1_pullAt]
def wsX5_reason_r2 : List Cond := [Cond.code yX1_pullAt cX1_pullAt 6 (some .int), Cond.fieldLink RX1 41 "PlateSlabs$Plates" "isOn" "Z", Cond.fieldLink RX1 15 "PlateSlabs$Plates" "voltage" "I", Cond.fieldLink RX1 38 "PlateSlabs$Plates" "charge" "I", Cond.methodLink RX1 59 yX1_pullOf, Cond.instanceMethod yX1_pullOf, Cond.selects RX1 yX1_pullOf yX1_pullOf, Cond.code yX1_pullOf cX1_pullOf 2 (some .int), Cond.methodLink RX1 55 yX1_capacityAt, Cond.instanceMethod yX1_capacityAt, Cond.selects RX1 yX1_capacityAt yX1_capacityAt, Cond.code yX1_capacityAt cX1_capacityAt 2 (some .int), Cond.methodLink RX1 65 yX1_drawnBackAt, Cond.instanceMethod yX1_drawnBackAt, Cond.selects RX1 yX1_drawnBackAt yX1_drawnBackAt, Cond.code yX1_drawnBackAt cX1_drawnBackAt 2 (some .int), Cond.methodLink RX1 76 yX1_stepBy, Cond.instanceMethod yX1_stepBy, Cond.selects RX1 yX1_stepBy yX1_stepBy, Cond.code yX1_stepBy cX1_stepBy 2 (some .int)]
def wsX5_reason : List Cond := .code yX5_reason cX5_reason 2 (some .int) :: ((wsX5_reason_r1 ++ wsX5_reason_r2) ++ wsX50 ++ wsX20 ++ wsX10)
def wsX5_force_r1 : List Cond := [Cond.fieldLink RX5 10 "PlateSlabs" "now" "LPlateSlabs$State;", Cond.fieldLink RX5 135 "PlateSlabs$State" "pairs" "[LPlateSlabs$Plates;", Cond.methodLink RX5 167 Lib.Math.abs.name, Cond.static Lib.Math.abs.name, Cond.initialized "java/lang/Math", Cond.code Lib.Math.abs.name Lib.Math.abs.code 1 (some .int), Cond.methodLink RX5 131 yX5_isPair, Cond.static yX5_isPair, Cond.initialized RX5, Cond.code yX5_isPair cX5_isPair 1 (some .boolean), Cond.methodLink RX5 193 yX5_isDepth, Cond.static yX5_isDepth, Cond.code yX5_isDepth cX5_isDepth 1 (some .boolean), Cond.methodLink RX5 196 yX1_netAt, Cond.instanceMethod yX1_netAt, Cond.selects RX1 yX1_netAt yX1_netAt, Cond.initialized RX1, Cond.code yX1_netAt cX1_netAt 2 (some .int), Cond.methodLink RX1 62 yX1_pullAt, Cond.instanceMethod yX1_pullAt, Cond.selects RX1 yX1_pullAt yX1_pullAt, Cond.code yX1_pullAt cX1_pullAt 6 (some .int), Cond.fieldLink RX1 41 "PlateSlabs$Plates" "isOn" "Z", Cond.fieldLink RX1 15 "PlateSlabs$Plates" "voltage" "I"]
def wsX5_force_r2 : List Cond := [Cond.fieldLink RX1 9 "PlateSlabs$Plates" "settings" "[I", Cond.fieldLink RX1 38 "PlateSlabs$Plates" "charge" "I", Cond.methodLink RX1 59 yX1_pullOf, Cond.instanceMethod yX1_pullOf, Cond.selects RX1 yX1_pullOf yX1_pullOf, Cond.code yX1_pullOf cX1_pullOf 2 (some .int), Cond.methodLink RX1 55 yX1_capacityAt, Cond.instanceMethod yX1_capacityAt, Cond.selects RX1 yX1_capacityAt yX1_capacityAt, Cond.code yX1_capacityAt cX1_capacityAt 2 (some .int), Cond.methodLink RX1 65 yX1_drawnBackAt, Cond.instanceMethod yX1_drawnBackAt, Cond.selects RX1 yX1_drawnBackAt yX1_drawnBackAt, Cond.code yX1_drawnBackAt cX1_drawnBackAt 2 (some .int)]
def wsX5_force : List Cond := .code yX5_force cX5_force 3 (some .int) :: ((wsX5_force_r1 ++ wsX5_force_r2) ++ wsX50 ++ wsX20 ++ wsX10)
def wsX5_restsIn_r1 : List Cond := [Cond.fieldLink RX5 32 "PlateSlabs" "guess" "LPlateSlabs$Plates;", Cond.fieldLink RX5 10 "PlateSlabs" "now" "LPlateSlabs$State;", Cond.fieldLink RX5 135 "PlateSlabs$State" "pairs" "[LPlateSlabs$Plates;", Cond.methodLink RX5 131 yX5_isPair, Cond.static yX5_isPair, Cond.initialized RX5, Cond.code yX5_isPair cX5_isPair 1 (some .boolean), Cond.methodLink RX5 199 yX1_copyFrom, Cond.instanceMethod yX1_copyFrom, Cond.selects RX1 yX1_copyFrom yX1_copyFrom, Cond.initialized RX1, Cond.code yX1_copyFrom cX1_copyFrom 2 none, Cond.fieldLink RX1 9 "PlateSlabs$Plates" "settings" "[I", Cond.methodLink RX1 29 arraycopyName, Cond.native arraycopyName, Cond.static arraycopyName, Cond.initialized "java/lang/System", Cond.fieldLink RX1 35 "PlateSlabs$Plates" "depth" "I", Cond.fieldLink RX1 38 "PlateSlabs$Plates" "charge" "I", Cond.fieldLink RX1 15 "PlateSlabs$Plates" "voltage" "I", Cond.fieldLink RX1 41 "PlateSlabs$Plates" "isOn" "Z", Cond.fieldLink RX1 45 "PlateSlabs$Plates" "gave" "J", Cond.fieldLink RX1 49 "PlateSlabs$Plates" "leaked" "J", Cond.fieldLink RX1 52 "PlateSlabs$Plates" "sparked" "J"]
def wsX5_restsIn_r2 : List Cond := [Cond.methodLink RX5 202 yX1_movesInTick, Cond.instanceMethod yX1_movesInTick, Cond.selects RX1 yX1_movesInTick yX1_movesInTick, Cond.code yX1_movesInTick cX1_movesInTick 2 (some .boolean), Cond.methodLink RX1 83 yX1_leakAway, Cond.instanceMethod yX1_leakAway, Cond.selects RX1 yX1_leakAway yX1_leakAway, Cond.code yX1_leakAway cX1_leakAway 3 none, Cond.methodLink RX1 89 yX1_stored, Cond.instanceMethod yX1_stored, Cond.selects RX1 yX1_stored yX1_stored, Cond.code yX1_stored cX1_stored 3 (some .long), Cond.methodLink RX1 55 yX1_capacityAt, Cond.instanceMethod yX1_capacityAt, Cond.selects RX1 yX1_capacityAt yX1_capacityAt, Cond.code yX1_capacityAt cX1_capacityAt 2 (some .int), Cond.methodLink RX1 73 yX1_netAt, Cond.instanceMethod yX1_netAt, Cond.selects RX1 yX1_netAt yX1_netAt, Cond.code yX1_netAt cX1_netAt 2 (some .int), Cond.methodLink RX1 62 yX1_pullAt, Cond.instanceMethod yX1_pullAt, Cond.selects RX1 yX1_pullAt yX1_pullAt, Cond.code yX1_pullAt cX1_pullAt 6 (some .int)]
def wsX5_restsIn_r3 : List Cond := [Cond.methodLink RX1 59 yX1_pullOf, Cond.instanceMethod yX1_pullOf, Cond.selects RX1 yX1_pullOf yX1_pullOf, Cond.code yX1_pullOf cX1_pullOf 2 (some .int), Cond.methodLink RX1 65 yX1_drawnBackAt, Cond.instanceMethod yX1_drawnBackAt, Cond.selects RX1 yX1_drawnBackAt yX1_drawnBackAt, Cond.code yX1_drawnBackAt cX1_drawnBackAt 2 (some .int), Cond.methodLink RX1 76 yX1_stepBy, Cond.instanceMethod yX1_stepBy, Cond.selects RX1 yX1_stepBy yX1_stepBy, Cond.code yX1_stepBy cX1_stepBy 2 (some .int), Cond.methodLink RX1 68 Lib.Math.abs.name, Cond.static Lib.Math.abs.name, Cond.initialized "java/lang/Math", Cond.code Lib.Math.abs.name Lib.Math.abs.code 1 (some .int), Cond.methodLink RX1 86 yX1_holdVoltage, Cond.instanceMethod yX1_holdVoltage, Cond.selects RX1 yX1_holdVoltage yX1_holdVoltage, Cond.code yX1_holdVoltage cX1_holdVoltage 2 none, Cond.constantLong RX1 93 (2)]
def wsX5_restsIn : List Cond := .code yX5_restsIn cX5_restsIn 3 (some .int) :: ((wsX5_restsIn_r1 ++ (wsX5_restsIn_r2 ++ wsX5_restsIn_r3)) ++ wsX50 ++ wsX20 ++ wsX10)
def wsX5_depthIn_r1 : List Cond := [Cond.fieldLink RX5 32 "PlateSlabs" "guess" "LPlateSlabs$Plates;", Cond.fieldLink RX5 10 "PlateSlabs" "now" "LPlateSlabs$State;", Cond.fieldLink RX5 135 "PlateSlabs$State" "pairs" "[LPlateSlabs$Plates;", Cond.fieldLink RX5 146 "PlateSlabs$Plates" "depth" "I", Cond.methodLink RX5 131 yX5_isPair, Cond.static yX5_isPair, Cond.initialized RX5, Cond.code yX5_isPair cX5_isPair 1 (some .boolean), Cond.methodLink RX5 199 yX1_copyFrom, Cond.instanceMethod yX1_copyFrom, Cond.selects RX1 yX1_copyFrom yX1_copyFrom, Cond.initialized RX1, Cond.code yX1_copyFrom cX1_copyFrom 2 none, Cond.fieldLink RX1 9 "PlateSlabs$Plates" "settings" "[I", Cond.methodLink RX1 29 arraycopyName, Cond.native arraycopyName, Cond.static arraycopyName, Cond.initialized "java/lang/System", Cond.fieldLink RX1 35 "PlateSlabs$Plates" "depth" "I", Cond.fieldLink RX1 38 "PlateSlabs$Plates" "charge" "I", Cond.fieldLink RX1 15 "PlateSlabs$Plates" "voltage" "I", Cond.fieldLink RX1 41 "PlateSlabs$Plates" "isOn" "Z", Cond.fieldLink RX1 45 "PlateSlabs$Plates" "gave" "J", Cond.fieldLink RX1 49 "PlateSlabs$Plates" "leaked" "J"]
def wsX5_depthIn_r2 : List Cond := [Cond.fieldLink RX1 52 "PlateSlabs$Plates" "sparked" "J", Cond.methodLink RX5 202 yX1_movesInTick, Cond.instanceMethod yX1_movesInTick, Cond.selects RX1 yX1_movesInTick yX1_movesInTick, Cond.code yX1_movesInTick cX1_movesInTick 2 (some .boolean), Cond.methodLink RX1 83 yX1_leakAway, Cond.instanceMethod yX1_leakAway, Cond.selects RX1 yX1_leakAway yX1_leakAway, Cond.code yX1_leakAway cX1_leakAway 3 none, Cond.methodLink RX1 89 yX1_stored, Cond.instanceMethod yX1_stored, Cond.selects RX1 yX1_stored yX1_stored, Cond.code yX1_stored cX1_stored 3 (some .long), Cond.methodLink RX1 55 yX1_capacityAt, Cond.instanceMethod yX1_capacityAt, Cond.selects RX1 yX1_capacityAt yX1_capacityAt, Cond.code yX1_capacityAt cX1_capacityAt 2 (some .int), Cond.methodLink RX1 73 yX1_netAt, Cond.instanceMethod yX1_netAt, Cond.selects RX1 yX1_netAt yX1_netAt, Cond.code yX1_netAt cX1_netAt 2 (some .int), Cond.methodLink RX1 62 yX1_pullAt, Cond.instanceMethod yX1_pullAt, Cond.selects RX1 yX1_pullAt yX1_pullAt]
def wsX5_depthIn_r3 : List Cond := [Cond.code yX1_pullAt cX1_pullAt 6 (some .int), Cond.methodLink RX1 59 yX1_pullOf, Cond.instanceMethod yX1_pullOf, Cond.selects RX1 yX1_pullOf yX1_pullOf, Cond.code yX1_pullOf cX1_pullOf 2 (some .int), Cond.methodLink RX1 65 yX1_drawnBackAt, Cond.instanceMethod yX1_drawnBackAt, Cond.selects RX1 yX1_drawnBackAt yX1_drawnBackAt, Cond.code yX1_drawnBackAt cX1_drawnBackAt 2 (some .int), Cond.methodLink RX1 76 yX1_stepBy, Cond.instanceMethod yX1_stepBy, Cond.selects RX1 yX1_stepBy yX1_stepBy, Cond.code yX1_stepBy cX1_stepBy 2 (some .int), Cond.methodLink RX1 68 Lib.Math.abs.name, Cond.static Lib.Math.abs.name, Cond.initialized "java/lang/Math", Cond.code Lib.Math.abs.name Lib.Math.abs.code 1 (some .int), Cond.methodLink RX1 86 yX1_holdVoltage, Cond.instanceMethod yX1_holdVoltage, Cond.selects RX1 yX1_holdVoltage yX1_holdVoltage, Cond.code yX1_holdVoltage cX1_holdVoltage 2 none, Cond.constantLong RX1 93 (2)]
def wsX5_depthIn : List Cond := .code yX5_depthIn cX5_depthIn 4 (some .int) :: ((wsX5_depthIn_r1 ++ (wsX5_depthIn_r2 ++ wsX5_depthIn_r3)) ++ wsX50 ++ wsX20 ++ wsX10)
def wsX5_leastVoltage : List Cond := .code yX5_leastVoltage cX5_leastVoltage 4 (some .int) :: ([.fieldLink RX5 10 "PlateSlabs" "now" "LPlateSlabs$State;", .fieldLink RX5 135 "PlateSlabs$State" "pairs" "[LPlateSlabs$Plates;", .fieldLink RX5 146 "PlateSlabs$Plates" "depth" "I", .methodLink RX5 131 yX5_isPair, .static yX5_isPair, .initialized RX5, .code yX5_isPair cX5_isPair 1 (some .boolean), .methodLink RX5 206 yX1_isDrawnInAt, .instanceMethod yX1_isDrawnInAt, .selects RX1 yX1_isDrawnInAt yX1_isDrawnInAt, .initialized RX1, .code yX1_isDrawnInAt cX1_isDrawnInAt 3 (some .boolean), .fieldLink RX1 9 "PlateSlabs$Plates" "settings" "[I", .methodLink RX1 59 yX1_pullOf, .instanceMethod yX1_pullOf, .selects RX1 yX1_pullOf yX1_pullOf, .code yX1_pullOf cX1_pullOf 2 (some .int), .methodLink RX1 65 yX1_drawnBackAt, .instanceMethod yX1_drawnBackAt, .selects RX1 yX1_drawnBackAt yX1_drawnBackAt, .code yX1_drawnBackAt cX1_drawnBackAt 2 (some .int)] ++ wsX50 ++ wsX20 ++ wsX10)
def wsX5_drawingVoltage_r1 : List Cond := [Cond.fieldLink RX5 10 "PlateSlabs" "now" "LPlateSlabs$State;", Cond.fieldLink RX5 135 "PlateSlabs$State" "pairs" "[LPlateSlabs$Plates;", Cond.methodLink RX5 131 yX5_isPair, Cond.static yX5_isPair, Cond.initialized RX5, Cond.code yX5_isPair cX5_isPair 1 (some .boolean), Cond.methodLink RX5 210 yX1_isDrawnAllTheWayIn, Cond.instanceMethod yX1_isDrawnAllTheWayIn, Cond.selects RX1 yX1_isDrawnAllTheWayIn yX1_isDrawnAllTheWayIn, Cond.initialized RX1, Cond.code yX1_isDrawnAllTheWayIn cX1_isDrawnAllTheWayIn 3 (some .boolean), Cond.fieldLink RX1 35 "PlateSlabs$Plates" "depth" "I", Cond.methodLink RX1 79 yX1_isDrawnInAt, Cond.instanceMethod yX1_isDrawnInAt, Cond.selects RX1 yX1_isDrawnInAt yX1_isDrawnInAt, Cond.code yX1_isDrawnInAt cX1_isDrawnInAt 3 (some .boolean), Cond.fieldLink RX1 9 "PlateSlabs$Plates" "settings" "[I", Cond.methodLink RX1 59 yX1_pullOf, Cond.instanceMethod yX1_pullOf, Cond.selects RX1 yX1_pullOf yX1_pullOf, Cond.code yX1_pullOf cX1_pullOf 2 (some .int), Cond.methodLink RX1 65 yX1_drawnBackAt, Cond.instanceMethod yX1_drawnBackAt, Cond.selects RX1 yX1_drawnBackAt yX1_drawnBackAt]
def wsX5_drawingVoltage_r2 : List Cond := [Cond.code yX1_drawnBackAt cX1_drawnBackAt 2 (some .int)]
def wsX5_drawingVoltage : List Cond := .code yX5_drawingVoltage cX5_drawingVoltage 3 (some .int) :: ((wsX5_drawingVoltage_r1 ++ wsX5_drawingVoltage_r2) ++ wsX50 ++ wsX20 ++ wsX10)
def wsX5_strongest : List Cond := .code yX5_strongest cX5_strongest 6 (some .int) :: ([.fieldLink RX5 10 "PlateSlabs" "now" "LPlateSlabs$State;", .fieldLink RX5 135 "PlateSlabs$State" "pairs" "[LPlateSlabs$Plates;", .fieldLink RX5 146 "PlateSlabs$Plates" "depth" "I", .methodLink RX5 161 yX1_pullAt, .instanceMethod yX1_pullAt, .selects RX1 yX1_pullAt yX1_pullAt, .initialized RX1, .code yX1_pullAt cX1_pullAt 6 (some .int), .fieldLink RX1 41 "PlateSlabs$Plates" "isOn" "Z", .fieldLink RX1 15 "PlateSlabs$Plates" "voltage" "I", .fieldLink RX1 9 "PlateSlabs$Plates" "settings" "[I", .fieldLink RX1 38 "PlateSlabs$Plates" "charge" "I", .methodLink RX1 59 yX1_pullOf, .instanceMethod yX1_pullOf, .selects RX1 yX1_pullOf yX1_pullOf, .code yX1_pullOf cX1_pullOf 2 (some .int), .methodLink RX1 55 yX1_capacityAt, .instanceMethod yX1_capacityAt, .selects RX1 yX1_capacityAt yX1_capacityAt, .code yX1_capacityAt cX1_capacityAt 2 (some .int)] ++ wsX50 ++ wsX20 ++ wsX10)
def wsX5_partOfCount_r1 : List Cond := [Cond.fieldLink RX5 158 "PlateSlabs$Plates" "isOn" "Z", Cond.fieldLink RX5 152 "PlateSlabs$Plates" "charge" "I", Cond.fieldLink RX5 146 "PlateSlabs$Plates" "depth" "I", Cond.methodLink RX5 190 yX1_reasonNow, Cond.instanceMethod yX1_reasonNow, Cond.selects RX1 yX1_reasonNow yX1_reasonNow, Cond.initialized RX1, Cond.code yX1_reasonNow cX1_reasonNow 2 (some .int), Cond.fieldLink RX1 35 "PlateSlabs$Plates" "depth" "I", Cond.methodLink RX1 68 Lib.Math.abs.name, Cond.static Lib.Math.abs.name, Cond.initialized "java/lang/Math", Cond.code Lib.Math.abs.name Lib.Math.abs.code 1 (some .int), Cond.fieldLink RX1 9 "PlateSlabs$Plates" "settings" "[I", Cond.methodLink RX1 73 yX1_netAt, Cond.instanceMethod yX1_netAt, Cond.selects RX1 yX1_netAt yX1_netAt, Cond.code yX1_netAt cX1_netAt 2 (some .int), Cond.methodLink RX1 62 yX1_pullAt, Cond.instanceMethod yX1_pullAt, Cond.selects RX1 yX1_pullAt yX1_pullAt, Cond.code yX1_pullAt cX1_pullAt 6 (some .int), Cond.fieldLink RX1 41 "PlateSlabs$Plates" "isOn" "Z", Cond.fieldLink RX1 15 "PlateSlabs$Plates" "voltage" "I"]
def wsX5_partOfCount_r2 : List Cond := [Cond.fieldLink RX1 38 "PlateSlabs$Plates" "charge" "I", Cond.methodLink RX1 59 yX1_pullOf, Cond.instanceMethod yX1_pullOf, Cond.selects RX1 yX1_pullOf yX1_pullOf, Cond.code yX1_pullOf cX1_pullOf 2 (some .int), Cond.methodLink RX1 55 yX1_capacityAt, Cond.instanceMethod yX1_capacityAt, Cond.selects RX1 yX1_capacityAt yX1_capacityAt, Cond.code yX1_capacityAt cX1_capacityAt 2 (some .int), Cond.methodLink RX1 65 yX1_drawnBackAt, Cond.instanceMethod yX1_drawnBackAt, Cond.selects RX1 yX1_drawnBackAt yX1_drawnBackAt, Cond.code yX1_drawnBackAt cX1_drawnBackAt 2 (some .int), Cond.methodLink RX1 76 yX1_stepBy, Cond.instanceMethod yX1_stepBy, Cond.selects RX1 yX1_stepBy yX1_stepBy, Cond.code yX1_stepBy cX1_stepBy 2 (some .int), Cond.methodLink RX5 149 yX1_capacityAt]
def wsX5_partOfCount : List Cond := .code yX5_partOfCount cX5_partOfCount 2 (some .int) :: ((wsX5_partOfCount_r1 ++ wsX5_partOfCount_r2) ++ wsX10)
def wsX5_sumOfPairs_r1 : List Cond := [Cond.fieldLink RX5 10 "PlateSlabs" "now" "LPlateSlabs$State;", Cond.fieldLink RX5 135 "PlateSlabs$State" "pairs" "[LPlateSlabs$Plates;", Cond.methodLink RX5 228 yX5_partOfCount, Cond.static yX5_partOfCount, Cond.initialized RX5, Cond.code yX5_partOfCount cX5_partOfCount 2 (some .int), Cond.fieldLink RX5 158 "PlateSlabs$Plates" "isOn" "Z", Cond.fieldLink RX5 152 "PlateSlabs$Plates" "charge" "I", Cond.fieldLink RX5 146 "PlateSlabs$Plates" "depth" "I", Cond.methodLink RX5 190 yX1_reasonNow, Cond.instanceMethod yX1_reasonNow, Cond.selects RX1 yX1_reasonNow yX1_reasonNow, Cond.initialized RX1, Cond.code yX1_reasonNow cX1_reasonNow 2 (some .int), Cond.fieldLink RX1 35 "PlateSlabs$Plates" "depth" "I", Cond.methodLink RX1 68 Lib.Math.abs.name, Cond.static Lib.Math.abs.name, Cond.initialized "java/lang/Math", Cond.code Lib.Math.abs.name Lib.Math.abs.code 1 (some .int), Cond.fieldLink RX1 9 "PlateSlabs$Plates" "settings" "[I", Cond.methodLink RX1 73 yX1_netAt, Cond.instanceMethod yX1_netAt, Cond.selects RX1 yX1_netAt yX1_netAt, Cond.code yX1_netAt cX1_netAt 2 (some .int)]
def wsX5_sumOfPairs_r2 : List Cond := [Cond.methodLink RX1 62 yX1_pullAt, Cond.instanceMethod yX1_pullAt, Cond.selects RX1 yX1_pullAt yX1_pullAt, Cond.code yX1_pullAt cX1_pullAt 6 (some .int), Cond.fieldLink RX1 41 "PlateSlabs$Plates" "isOn" "Z", Cond.fieldLink RX1 15 "PlateSlabs$Plates" "voltage" "I", Cond.fieldLink RX1 38 "PlateSlabs$Plates" "charge" "I", Cond.methodLink RX1 59 yX1_pullOf, Cond.instanceMethod yX1_pullOf, Cond.selects RX1 yX1_pullOf yX1_pullOf, Cond.code yX1_pullOf cX1_pullOf 2 (some .int), Cond.methodLink RX1 55 yX1_capacityAt, Cond.instanceMethod yX1_capacityAt, Cond.selects RX1 yX1_capacityAt yX1_capacityAt, Cond.code yX1_capacityAt cX1_capacityAt 2 (some .int), Cond.methodLink RX1 65 yX1_drawnBackAt, Cond.instanceMethod yX1_drawnBackAt, Cond.selects RX1 yX1_drawnBackAt yX1_drawnBackAt, Cond.code yX1_drawnBackAt cX1_drawnBackAt 2 (some .int), Cond.methodLink RX1 76 yX1_stepBy, Cond.instanceMethod yX1_stepBy, Cond.selects RX1 yX1_stepBy yX1_stepBy, Cond.code yX1_stepBy cX1_stepBy 2 (some .int), Cond.methodLink RX5 149 yX1_capacityAt]
def wsX5_sumOfPairs : List Cond := .code yX5_sumOfPairs cX5_sumOfPairs 4 (some .int) :: ((wsX5_sumOfPairs_r1 ++ wsX5_sumOfPairs_r2) ++ wsX50 ++ wsX20 ++ wsX10)
def wsX5_count_r1 : List Cond := [Cond.fieldLink RX5 10 "PlateSlabs" "now" "LPlateSlabs$State;", Cond.fieldLink RX5 128 "PlateSlabs$State" "tick" "I", Cond.fieldLink RX5 213 "PlateSlabs$State" "couplings" "I", Cond.fieldLink RX5 216 "PlateSlabs$State" "steps" "I", Cond.fieldLink RX5 25 "PlateSlabs" "history" "LPlateSlabs$History;", Cond.fieldLink RX5 219 "PlateSlabs$History" "size" "I", Cond.fieldLink RX5 39 "PlateSlabs" "trial" "LPlateSlabs$Trial;", Cond.fieldLink RX5 74 "PlateSlabs$Trial" "text" "LPlateSlabs$Text;", Cond.fieldLink RX5 222 "PlateSlabs$Text" "length" "I", Cond.methodLink RX5 225 yX5_sumOfPairs, Cond.instanceMethod yX5_sumOfPairs, Cond.selects RX5 yX5_sumOfPairs yX5_sumOfPairs, Cond.initialized RX5, Cond.code yX5_sumOfPairs cX5_sumOfPairs 4 (some .int), Cond.fieldLink RX5 135 "PlateSlabs$State" "pairs" "[LPlateSlabs$Plates;", Cond.methodLink RX5 228 yX5_partOfCount, Cond.static yX5_partOfCount, Cond.code yX5_partOfCount cX5_partOfCount 2 (some .int), Cond.fieldLink RX5 158 "PlateSlabs$Plates" "isOn" "Z", Cond.fieldLink RX5 152 "PlateSlabs$Plates" "charge" "I", Cond.fieldLink RX5 146 "PlateSlabs$Plates" "depth" "I", Cond.methodLink RX5 190 yX1_reasonNow, Cond.instanceMethod yX1_reasonNow, Cond.selects RX1 yX1_reasonNow yX1_reasonNow]
def wsX5_count_r2 : List Cond := [Cond.initialized RX1, Cond.code yX1_reasonNow cX1_reasonNow 2 (some .int), Cond.fieldLink RX1 35 "PlateSlabs$Plates" "depth" "I", Cond.methodLink RX1 68 Lib.Math.abs.name, Cond.static Lib.Math.abs.name, Cond.initialized "java/lang/Math", Cond.code Lib.Math.abs.name Lib.Math.abs.code 1 (some .int), Cond.fieldLink RX1 9 "PlateSlabs$Plates" "settings" "[I", Cond.methodLink RX1 73 yX1_netAt, Cond.instanceMethod yX1_netAt, Cond.selects RX1 yX1_netAt yX1_netAt, Cond.code yX1_netAt cX1_netAt 2 (some .int), Cond.methodLink RX1 62 yX1_pullAt, Cond.instanceMethod yX1_pullAt, Cond.selects RX1 yX1_pullAt yX1_pullAt, Cond.code yX1_pullAt cX1_pullAt 6 (some .int), Cond.fieldLink RX1 41 "PlateSlabs$Plates" "isOn" "Z", Cond.fieldLink RX1 15 "PlateSlabs$Plates" "voltage" "I", Cond.fieldLink RX1 38 "PlateSlabs$Plates" "charge" "I", Cond.methodLink RX1 59 yX1_pullOf, Cond.instanceMethod yX1_pullOf, Cond.selects RX1 yX1_pullOf yX1_pullOf, Cond.code yX1_pullOf cX1_pullOf 2 (some .int), Cond.methodLink RX1 55 yX1_capacityAt]
def wsX5_count_r3 : List Cond := [Cond.instanceMethod yX1_capacityAt, Cond.selects RX1 yX1_capacityAt yX1_capacityAt, Cond.code yX1_capacityAt cX1_capacityAt 2 (some .int), Cond.methodLink RX1 65 yX1_drawnBackAt, Cond.instanceMethod yX1_drawnBackAt, Cond.selects RX1 yX1_drawnBackAt yX1_drawnBackAt, Cond.code yX1_drawnBackAt cX1_drawnBackAt 2 (some .int), Cond.methodLink RX1 76 yX1_stepBy, Cond.instanceMethod yX1_stepBy, Cond.selects RX1 yX1_stepBy yX1_stepBy, Cond.code yX1_stepBy cX1_stepBy 2 (some .int), Cond.methodLink RX5 149 yX1_capacityAt]
def wsX5_count : List Cond := .code yX5_count cX5_count 2 (some .int) :: ((wsX5_count_r1 ++ (wsX5_count_r2 ++ wsX5_count_r3)) ++ wsX50 ++ wsX20 ++ wsX00 ++ wsX40 ++ wsX30 ++ wsX10)
def wsX6_at : List Cond := .code yX6_at cX6_at 2 (some .int) :: ([])
def wsX6_init : List Cond := .code yX6_init cX6_init 2 none :: ([.methodLink RX6 1 objectInit, .instanceMethod objectInit, .code objectInit ⟨#[0xb1]⟩ 1 none, .arrayClass .int, .fieldLink RX6 7 "PlateSlabsModel" "s" "[I", .arrayClass .long, .fieldLink RX6 13 "PlateSlabsModel" "e" "[J", .fieldLink RX6 17 "PlateSlabsModel" "ahead" "[I", .fieldLink RX6 20 "PlateSlabsModel" "eAhead" "[J", .fieldLink RX6 23 "PlateSlabsModel" "snapshot" "[I", .fieldLink RX6 26 "PlateSlabsModel" "eSnapshot" "[J", .fieldLink RX6 29 "PlateSlabsModel" "before" "[I", .fieldLink RX6 32 "PlateSlabsModel" "eBefore" "[J", .fieldLink RX6 35 "PlateSlabsModel" "text" "[I", .fieldLink RX6 38 "PlateSlabsModel" "stopAt" "I", .fieldLink RX6 42 "PlateSlabsModel" "stopBy" "I", .methodLink RX6 45 yX6_at, .static yX6_at, .initialized RX6, .code yX6_at cX6_at 2 (some .int)] ++ wsX60)
def wsX6_in : List Cond := .code yX6_in cX6_in 3 (some .boolean) :: ([])
def wsX6_isPair : List Cond := .code yX6_isPair cX6_isPair 1 (some .boolean) :: ([.methodLink RX6 49 yX6_in, .static yX6_in, .initialized RX6, .code yX6_in cX6_in 3 (some .boolean)])
def wsX6_of : List Cond := .code yX6_of cX6_of 3 (some .int) :: ([.fieldLink RX6 7 "PlateSlabsModel" "s" "[I", .methodLink RX6 45 yX6_at, .static yX6_at, .initialized RX6, .code yX6_at cX6_at 2 (some .int)] ++ wsX60)
def wsX6_isOn : List Cond := .code yX6_isOn cX6_isOn 2 (some .boolean) :: ([.methodLink RX6 53 yX6_of, .instanceMethod yX6_of, .selects RX6 yX6_of yX6_of, .initialized RX6, .code yX6_of cX6_of 3 (some .int), .fieldLink RX6 7 "PlateSlabsModel" "s" "[I", .methodLink RX6 45 yX6_at, .static yX6_at, .code yX6_at cX6_at 2 (some .int)] ++ wsX60)
def wsX6_looks : List Cond := .code yX6_looks cX6_looks 2 none :: ([.fieldLink RX6 17 "PlateSlabsModel" "ahead" "[I", .fieldLink RX6 7 "PlateSlabsModel" "s" "[I", .fieldLink RX6 20 "PlateSlabsModel" "eAhead" "[J", .fieldLink RX6 13 "PlateSlabsModel" "e" "[J"] ++ wsX60)
def wsX6_looksBack : List Cond := .code yX6_looksBack cX6_looksBack 2 none :: ([.fieldLink RX6 7 "PlateSlabsModel" "s" "[I", .fieldLink RX6 17 "PlateSlabsModel" "ahead" "[I", .fieldLink RX6 13 "PlateSlabsModel" "e" "[J", .fieldLink RX6 20 "PlateSlabsModel" "eAhead" "[J"] ++ wsX60)
def wsX6_records : List Cond := .code yX6_records cX6_records 2 none :: ([.fieldLink RX6 56 "PlateSlabsModel" "known" "I", .fieldLink RX6 29 "PlateSlabsModel" "before" "[I", .fieldLink RX6 32 "PlateSlabsModel" "eBefore" "[J", .fieldLink RX6 17 "PlateSlabsModel" "ahead" "[I", .fieldLink RX6 20 "PlateSlabsModel" "eAhead" "[J"] ++ wsX60)
def wsX6_capacity : List Cond := .code yX6_capacity cX6_capacity 3 (some .int) :: ([.methodLink RX6 53 yX6_of, .instanceMethod yX6_of, .selects RX6 yX6_of yX6_of, .initialized RX6, .code yX6_of cX6_of 3 (some .int), .fieldLink RX6 7 "PlateSlabsModel" "s" "[I", .methodLink RX6 45 yX6_at, .static yX6_at, .code yX6_at cX6_at 2 (some .int)] ++ wsX60)
def wsX6_capacityNow : List Cond := .code yX6_capacityNow cX6_capacityNow 2 (some .int) :: ([.methodLink RX6 53 yX6_of, .instanceMethod yX6_of, .selects RX6 yX6_of yX6_of, .initialized RX6, .code yX6_of cX6_of 3 (some .int), .fieldLink RX6 7 "PlateSlabsModel" "s" "[I", .methodLink RX6 45 yX6_at, .static yX6_at, .code yX6_at cX6_at 2 (some .int), .methodLink RX6 59 yX6_capacity, .instanceMethod yX6_capacity, .selects RX6 yX6_capacity yX6_capacity, .code yX6_capacity cX6_capacity 3 (some .int)] ++ wsX60)
def wsX6_stored : List Cond := .code yX6_stored cX6_stored 4 (some .long) :: ([.methodLink RX6 53 yX6_of, .instanceMethod yX6_of, .selects RX6 yX6_of yX6_of, .initialized RX6, .code yX6_of cX6_of 3 (some .int), .fieldLink RX6 7 "PlateSlabsModel" "s" "[I", .methodLink RX6 45 yX6_at, .static yX6_at, .code yX6_at cX6_at 2 (some .int), .methodLink RX6 62 yX6_isOn, .instanceMethod yX6_isOn, .selects RX6 yX6_isOn yX6_isOn, .code yX6_isOn cX6_isOn 2 (some .boolean), .methodLink RX6 66 yX6_capacityNow, .instanceMethod yX6_capacityNow, .selects RX6 yX6_capacityNow yX6_capacityNow, .code yX6_capacityNow cX6_capacityNow 2 (some .int), .methodLink RX6 59 yX6_capacity, .instanceMethod yX6_capacity, .selects RX6 yX6_capacity yX6_capacity, .code yX6_capacity cX6_capacity 3 (some .int)] ++ wsX60)
def wsX6_pullBy : List Cond := .code yX6_pullBy cX6_pullBy 3 (some .int) :: ([.methodLink RX6 53 yX6_of, .instanceMethod yX6_of, .selects RX6 yX6_of yX6_of, .initialized RX6, .code yX6_of cX6_of 3 (some .int), .fieldLink RX6 7 "PlateSlabsModel" "s" "[I", .methodLink RX6 45 yX6_at, .static yX6_at, .code yX6_at cX6_at 2 (some .int)] ++ wsX60)
def wsX6_pullOf : List Cond := .code yX6_pullOf cX6_pullOf 8 (some .int) :: ([.methodLink RX6 59 yX6_capacity, .instanceMethod yX6_capacity, .selects RX6 yX6_capacity yX6_capacity, .initialized RX6, .code yX6_capacity cX6_capacity 3 (some .int), .methodLink RX6 53 yX6_of, .instanceMethod yX6_of, .selects RX6 yX6_of yX6_of, .code yX6_of cX6_of 3 (some .int), .fieldLink RX6 7 "PlateSlabsModel" "s" "[I", .methodLink RX6 45 yX6_at, .static yX6_at, .code yX6_at cX6_at 2 (some .int)] ++ wsX60)
def wsX6_pullAt_r1 : List Cond := [Cond.methodLink RX6 62 yX6_isOn, Cond.instanceMethod yX6_isOn, Cond.selects RX6 yX6_isOn yX6_isOn, Cond.initialized RX6, Cond.code yX6_isOn cX6_isOn 2 (some .boolean), Cond.methodLink RX6 53 yX6_of, Cond.instanceMethod yX6_of, Cond.selects RX6 yX6_of yX6_of, Cond.code yX6_of cX6_of 3 (some .int), Cond.fieldLink RX6 7 "PlateSlabsModel" "s" "[I", Cond.methodLink RX6 45 yX6_at, Cond.static yX6_at, Cond.code yX6_at cX6_at 2 (some .int), Cond.methodLink RX6 70 yX6_pullBy, Cond.instanceMethod yX6_pullBy, Cond.selects RX6 yX6_pullBy yX6_pullBy, Cond.code yX6_pullBy cX6_pullBy 3 (some .int), Cond.methodLink RX6 73 yX6_pullOf, Cond.instanceMethod yX6_pullOf, Cond.selects RX6 yX6_pullOf yX6_pullOf, Cond.code yX6_pullOf cX6_pullOf 8 (some .int), Cond.methodLink RX6 59 yX6_capacity, Cond.instanceMethod yX6_capacity, Cond.selects RX6 yX6_capacity yX6_capacity]
def wsX6_pullAt_r2 : List Cond := [Cond.code yX6_capacity cX6_capacity 3 (some .int)]
def wsX6_pullAt : List Cond := .code yX6_pullAt cX6_pullAt 4 (some .int) :: ((wsX6_pullAt_r1 ++ wsX6_pullAt_r2) ++ wsX60)
def wsX6_spring : List Cond := .code yX6_spring cX6_spring 3 (some .int) :: ([.methodLink RX6 53 yX6_of, .instanceMethod yX6_of, .selects RX6 yX6_of yX6_of, .initialized RX6, .code yX6_of cX6_of 3 (some .int), .fieldLink RX6 7 "PlateSlabsModel" "s" "[I", .methodLink RX6 45 yX6_at, .static yX6_at, .code yX6_at cX6_at 2 (some .int)] ++ wsX60)
def wsX6_net_r1 : List Cond := [Cond.methodLink RX6 53 yX6_of, Cond.instanceMethod yX6_of, Cond.selects RX6 yX6_of yX6_of, Cond.initialized RX6, Cond.code yX6_of cX6_of 3 (some .int), Cond.fieldLink RX6 7 "PlateSlabsModel" "s" "[I", Cond.methodLink RX6 45 yX6_at, Cond.static yX6_at, Cond.code yX6_at cX6_at 2 (some .int), Cond.methodLink RX6 77 yX6_pullAt, Cond.instanceMethod yX6_pullAt, Cond.selects RX6 yX6_pullAt yX6_pullAt, Cond.code yX6_pullAt cX6_pullAt 4 (some .int), Cond.methodLink RX6 62 yX6_isOn, Cond.instanceMethod yX6_isOn, Cond.selects RX6 yX6_isOn yX6_isOn, Cond.code yX6_isOn cX6_isOn 2 (some .boolean), Cond.methodLink RX6 70 yX6_pullBy, Cond.instanceMethod yX6_pullBy, Cond.selects RX6 yX6_pullBy yX6_pullBy, Cond.code yX6_pullBy cX6_pullBy 3 (some .int), Cond.methodLink RX6 73 yX6_pullOf, Cond.instanceMethod yX6_pullOf, Cond.selects RX6 yX6_pullOf yX6_pullOf]
def wsX6_net_r2 : List Cond := [Cond.code yX6_pullOf cX6_pullOf 8 (some .int), Cond.methodLink RX6 59 yX6_capacity, Cond.instanceMethod yX6_capacity, Cond.selects RX6 yX6_capacity yX6_capacity, Cond.code yX6_capacity cX6_capacity 3 (some .int), Cond.methodLink RX6 80 yX6_spring, Cond.instanceMethod yX6_spring, Cond.selects RX6 yX6_spring yX6_spring, Cond.code yX6_spring cX6_spring 3 (some .int)]
def wsX6_net : List Cond := .code yX6_net cX6_net 2 (some .int) :: ((wsX6_net_r1 ++ wsX6_net_r2) ++ wsX60)
def wsX6_size : List Cond := .code yX6_size cX6_size 1 (some .int) :: ([])
def wsX6_move : List Cond := .code yX6_move cX6_move 4 (some .int) :: ([.methodLink RX6 83 yX6_size, .static yX6_size, .initialized RX6, .code yX6_size cX6_size 1 (some .int), .methodLink RX6 53 yX6_of, .instanceMethod yX6_of, .selects RX6 yX6_of yX6_of, .code yX6_of cX6_of 3 (some .int), .fieldLink RX6 7 "PlateSlabsModel" "s" "[I", .methodLink RX6 45 yX6_at, .static yX6_at, .code yX6_at cX6_at 2 (some .int)] ++ wsX60)
def wsX6_leak : List Cond := .code yX6_leak cX6_leak 3 (some .int) :: ([.constantLong RX6 86 (1000), .methodLink RX6 53 yX6_of, .instanceMethod yX6_of, .selects RX6 yX6_of yX6_of, .initialized RX6, .code yX6_of cX6_of 3 (some .int), .fieldLink RX6 7 "PlateSlabsModel" "s" "[I", .methodLink RX6 45 yX6_at, .static yX6_at, .code yX6_at cX6_at 2 (some .int)] ++ wsX60)
def wsX6_charges : List Cond := .code yX6_charges cX6_charges 3 none :: ([.fieldLink RX6 13 "PlateSlabsModel" "e" "[J", .constantLong RX6 88 (2), .fieldLink RX6 7 "PlateSlabsModel" "s" "[I", .methodLink RX6 62 yX6_isOn, .instanceMethod yX6_isOn, .selects RX6 yX6_isOn yX6_isOn, .initialized RX6, .code yX6_isOn cX6_isOn 2 (some .boolean), .methodLink RX6 53 yX6_of, .instanceMethod yX6_of, .selects RX6 yX6_of yX6_of, .code yX6_of cX6_of 3 (some .int), .methodLink RX6 45 yX6_at, .static yX6_at, .code yX6_at cX6_at 2 (some .int), .methodLink RX6 66 yX6_capacityNow, .instanceMethod yX6_capacityNow, .selects RX6 yX6_capacityNow yX6_capacityNow, .code yX6_capacityNow cX6_capacityNow 2 (some .int), .methodLink RX6 59 yX6_capacity, .instanceMethod yX6_capacity, .selects RX6 yX6_capacity yX6_capacity, .code yX6_capacity cX6_capacity 3 (some .int)] ++ wsX60)
def wsX6_tick_r1 : List Cond := [Cond.fieldLink RX6 7 "PlateSlabsModel" "s" "[I", Cond.fieldLink RX6 13 "PlateSlabsModel" "e" "[J", Cond.methodLink RX6 62 yX6_isOn, Cond.instanceMethod yX6_isOn, Cond.selects RX6 yX6_isOn yX6_isOn, Cond.initialized RX6, Cond.code yX6_isOn cX6_isOn 2 (some .boolean), Cond.methodLink RX6 53 yX6_of, Cond.instanceMethod yX6_of, Cond.selects RX6 yX6_of yX6_of, Cond.code yX6_of cX6_of 3 (some .int), Cond.methodLink RX6 45 yX6_at, Cond.static yX6_at, Cond.code yX6_at cX6_at 2 (some .int), Cond.methodLink RX6 90 yX6_stored, Cond.instanceMethod yX6_stored, Cond.selects RX6 yX6_stored yX6_stored, Cond.code yX6_stored cX6_stored 4 (some .long), Cond.methodLink RX6 66 yX6_capacityNow, Cond.instanceMethod yX6_capacityNow, Cond.selects RX6 yX6_capacityNow yX6_capacityNow, Cond.code yX6_capacityNow cX6_capacityNow 2 (some .int), Cond.methodLink RX6 59 yX6_capacity, Cond.instanceMethod yX6_capacity]
def wsX6_tick_r2 : List Cond := [Cond.selects RX6 yX6_capacity yX6_capacity, Cond.code yX6_capacity cX6_capacity 3 (some .int), Cond.methodLink RX6 94 yX6_leak, Cond.instanceMethod yX6_leak, Cond.selects RX6 yX6_leak yX6_leak, Cond.code yX6_leak cX6_leak 3 (some .int), Cond.constantLong RX6 86 (1000), Cond.methodLink RX6 97 yX6_net, Cond.instanceMethod yX6_net, Cond.selects RX6 yX6_net yX6_net, Cond.code yX6_net cX6_net 2 (some .int), Cond.methodLink RX6 77 yX6_pullAt, Cond.instanceMethod yX6_pullAt, Cond.selects RX6 yX6_pullAt yX6_pullAt, Cond.code yX6_pullAt cX6_pullAt 4 (some .int), Cond.methodLink RX6 70 yX6_pullBy, Cond.instanceMethod yX6_pullBy, Cond.selects RX6 yX6_pullBy yX6_pullBy, Cond.code yX6_pullBy cX6_pullBy 3 (some .int), Cond.methodLink RX6 73 yX6_pullOf, Cond.instanceMethod yX6_pullOf, Cond.selects RX6 yX6_pullOf yX6_pullOf, Cond.code yX6_pullOf cX6_pullOf 8 (some .int), Cond.methodLink RX6 80 yX6_spring]
def wsX6_tick_r3 : List Cond := [Cond.instanceMethod yX6_spring, Cond.selects RX6 yX6_spring yX6_spring, Cond.code yX6_spring cX6_spring 3 (some .int), Cond.methodLink RX6 100 yX6_move, Cond.instanceMethod yX6_move, Cond.selects RX6 yX6_move yX6_move, Cond.code yX6_move cX6_move 4 (some .int), Cond.methodLink RX6 83 yX6_size, Cond.static yX6_size, Cond.code yX6_size cX6_size 1 (some .int), Cond.methodLink RX6 103 yX6_charges, Cond.instanceMethod yX6_charges, Cond.selects RX6 yX6_charges yX6_charges, Cond.code yX6_charges cX6_charges 3 none, Cond.constantLong RX6 88 (2)]
def wsX6_tick : List Cond := .code yX6_tick cX6_tick 4 (some .int) :: ((wsX6_tick_r1 ++ (wsX6_tick_r2 ++ wsX6_tick_r3)) ++ wsX60)
def wsX6_passes_r1 : List Cond := [Cond.fieldLink RX6 7 "PlateSlabsModel" "s" "[I", Cond.constant RX6 107 (99999), Cond.methodLink RX6 108 yX6_tick, Cond.instanceMethod yX6_tick, Cond.selects RX6 yX6_tick yX6_tick, Cond.initialized RX6, Cond.code yX6_tick cX6_tick 4 (some .int), Cond.fieldLink RX6 13 "PlateSlabsModel" "e" "[J", Cond.methodLink RX6 62 yX6_isOn, Cond.instanceMethod yX6_isOn, Cond.selects RX6 yX6_isOn yX6_isOn, Cond.code yX6_isOn cX6_isOn 2 (some .boolean), Cond.methodLink RX6 53 yX6_of, Cond.instanceMethod yX6_of, Cond.selects RX6 yX6_of yX6_of, Cond.code yX6_of cX6_of 3 (some .int), Cond.methodLink RX6 45 yX6_at, Cond.static yX6_at, Cond.code yX6_at cX6_at 2 (some .int), Cond.methodLink RX6 90 yX6_stored, Cond.instanceMethod yX6_stored, Cond.selects RX6 yX6_stored yX6_stored, Cond.code yX6_stored cX6_stored 4 (some .long), Cond.methodLink RX6 66 yX6_capacityNow]
def wsX6_passes_r2 : List Cond := [Cond.instanceMethod yX6_capacityNow, Cond.selects RX6 yX6_capacityNow yX6_capacityNow, Cond.code yX6_capacityNow cX6_capacityNow 2 (some .int), Cond.methodLink RX6 59 yX6_capacity, Cond.instanceMethod yX6_capacity, Cond.selects RX6 yX6_capacity yX6_capacity, Cond.code yX6_capacity cX6_capacity 3 (some .int), Cond.methodLink RX6 94 yX6_leak, Cond.instanceMethod yX6_leak, Cond.selects RX6 yX6_leak yX6_leak, Cond.code yX6_leak cX6_leak 3 (some .int), Cond.constantLong RX6 86 (1000), Cond.methodLink RX6 97 yX6_net, Cond.instanceMethod yX6_net, Cond.selects RX6 yX6_net yX6_net, Cond.code yX6_net cX6_net 2 (some .int), Cond.methodLink RX6 77 yX6_pullAt, Cond.instanceMethod yX6_pullAt, Cond.selects RX6 yX6_pullAt yX6_pullAt, Cond.code yX6_pullAt cX6_pullAt 4 (some .int), Cond.methodLink RX6 70 yX6_pullBy, Cond.instanceMethod yX6_pullBy, Cond.selects RX6 yX6_pullBy yX6_pullBy, Cond.code yX6_pullBy cX6_pullBy 3 (some .int)]
def wsX6_passes_r3 : List Cond := [Cond.methodLink RX6 73 yX6_pullOf, Cond.instanceMethod yX6_pullOf, Cond.selects RX6 yX6_pullOf yX6_pullOf, Cond.code yX6_pullOf cX6_pullOf 8 (some .int), Cond.methodLink RX6 80 yX6_spring, Cond.instanceMethod yX6_spring, Cond.selects RX6 yX6_spring yX6_spring, Cond.code yX6_spring cX6_spring 3 (some .int), Cond.methodLink RX6 100 yX6_move, Cond.instanceMethod yX6_move, Cond.selects RX6 yX6_move yX6_move, Cond.code yX6_move cX6_move 4 (some .int), Cond.methodLink RX6 83 yX6_size, Cond.static yX6_size, Cond.code yX6_size cX6_size 1 (some .int), Cond.methodLink RX6 103 yX6_charges, Cond.instanceMethod yX6_charges, Cond.selects RX6 yX6_charges yX6_charges, Cond.code yX6_charges cX6_charges 3 none, Cond.constantLong RX6 88 (2)]
def wsX6_passes : List Cond := .code yX6_passes cX6_passes 4 (some .int) :: ((wsX6_passes_r1 ++ (wsX6_passes_r2 ++ wsX6_passes_r3)) ++ wsX60)
def wsX6_turnsOn_r1 : List Cond := [Cond.fieldLink RX6 7 "PlateSlabsModel" "s" "[I", Cond.methodLink RX6 62 yX6_isOn, Cond.instanceMethod yX6_isOn, Cond.selects RX6 yX6_isOn yX6_isOn, Cond.initialized RX6, Cond.code yX6_isOn cX6_isOn 2 (some .boolean), Cond.methodLink RX6 53 yX6_of, Cond.instanceMethod yX6_of, Cond.selects RX6 yX6_of yX6_of, Cond.code yX6_of cX6_of 3 (some .int), Cond.methodLink RX6 45 yX6_at, Cond.static yX6_at, Cond.code yX6_at cX6_at 2 (some .int), Cond.methodLink RX6 103 yX6_charges, Cond.instanceMethod yX6_charges, Cond.selects RX6 yX6_charges yX6_charges, Cond.code yX6_charges cX6_charges 3 none, Cond.fieldLink RX6 13 "PlateSlabsModel" "e" "[J", Cond.constantLong RX6 88 (2), Cond.methodLink RX6 66 yX6_capacityNow, Cond.instanceMethod yX6_capacityNow, Cond.selects RX6 yX6_capacityNow yX6_capacityNow, Cond.code yX6_capacityNow cX6_capacityNow 2 (some .int), Cond.methodLink RX6 59 yX6_capacity]
def wsX6_turnsOn_r2 : List Cond := [Cond.instanceMethod yX6_capacity, Cond.selects RX6 yX6_capacity yX6_capacity, Cond.code yX6_capacity cX6_capacity 3 (some .int)]
def wsX6_turnsOn : List Cond := .code yX6_turnsOn cX6_turnsOn 3 (some .int) :: ((wsX6_turnsOn_r1 ++ wsX6_turnsOn_r2) ++ wsX60)
def wsX6_turnsOff : List Cond := .code yX6_turnsOff cX6_turnsOff 2 (some .int) :: ([.fieldLink RX6 7 "PlateSlabsModel" "s" "[I", .methodLink RX6 62 yX6_isOn, .instanceMethod yX6_isOn, .selects RX6 yX6_isOn yX6_isOn, .initialized RX6, .code yX6_isOn cX6_isOn 2 (some .boolean), .methodLink RX6 53 yX6_of, .instanceMethod yX6_of, .selects RX6 yX6_of yX6_of, .code yX6_of cX6_of 3 (some .int), .methodLink RX6 45 yX6_at, .static yX6_at, .code yX6_at cX6_at 2 (some .int)] ++ wsX60)
def wsX6_lays_r1 : List Cond := [Cond.fieldLink RX6 7 "PlateSlabsModel" "s" "[I", Cond.methodLink RX6 53 yX6_of, Cond.instanceMethod yX6_of, Cond.selects RX6 yX6_of yX6_of, Cond.initialized RX6, Cond.code yX6_of cX6_of 3 (some .int), Cond.methodLink RX6 45 yX6_at, Cond.static yX6_at, Cond.code yX6_at cX6_at 2 (some .int), Cond.methodLink RX6 103 yX6_charges, Cond.instanceMethod yX6_charges, Cond.selects RX6 yX6_charges yX6_charges, Cond.code yX6_charges cX6_charges 3 none, Cond.fieldLink RX6 13 "PlateSlabsModel" "e" "[J", Cond.constantLong RX6 88 (2), Cond.methodLink RX6 62 yX6_isOn, Cond.instanceMethod yX6_isOn, Cond.selects RX6 yX6_isOn yX6_isOn, Cond.code yX6_isOn cX6_isOn 2 (some .boolean), Cond.methodLink RX6 66 yX6_capacityNow, Cond.instanceMethod yX6_capacityNow, Cond.selects RX6 yX6_capacityNow yX6_capacityNow, Cond.code yX6_capacityNow cX6_capacityNow 2 (some .int), Cond.methodLink RX6 59 yX6_capacity]
def wsX6_lays_r2 : List Cond := [Cond.instanceMethod yX6_capacity, Cond.selects RX6 yX6_capacity yX6_capacity, Cond.code yX6_capacity cX6_capacity 3 (some .int)]
def wsX6_lays : List Cond := .code yX6_lays cX6_lays 5 (some .int) :: ((wsX6_lays_r1 ++ wsX6_lays_r2) ++ wsX60)
def wsX6_half : List Cond := .code yX6_half cX6_half 2 (some .long) :: ([.constantLong RX6 88 (2)])
def wsX6_couples_r1 : List Cond := [Cond.constant RX6 111 (200000), Cond.fieldLink RX6 7 "PlateSlabsModel" "s" "[I", Cond.fieldLink RX6 13 "PlateSlabsModel" "e" "[J", Cond.methodLink RX6 62 yX6_isOn, Cond.instanceMethod yX6_isOn, Cond.selects RX6 yX6_isOn yX6_isOn, Cond.initialized RX6, Cond.code yX6_isOn cX6_isOn 2 (some .boolean), Cond.methodLink RX6 53 yX6_of, Cond.instanceMethod yX6_of, Cond.selects RX6 yX6_of yX6_of, Cond.code yX6_of cX6_of 3 (some .int), Cond.methodLink RX6 45 yX6_at, Cond.static yX6_at, Cond.code yX6_at cX6_at 2 (some .int), Cond.methodLink RX6 66 yX6_capacityNow, Cond.instanceMethod yX6_capacityNow, Cond.selects RX6 yX6_capacityNow yX6_capacityNow, Cond.code yX6_capacityNow cX6_capacityNow 2 (some .int), Cond.methodLink RX6 59 yX6_capacity, Cond.instanceMethod yX6_capacity, Cond.selects RX6 yX6_capacity yX6_capacity, Cond.code yX6_capacity cX6_capacity 3 (some .int), Cond.methodLink RX6 90 yX6_stored]
def wsX6_couples_r2 : List Cond := [Cond.instanceMethod yX6_stored, Cond.selects RX6 yX6_stored yX6_stored, Cond.code yX6_stored cX6_stored 4 (some .long), Cond.methodLink RX6 112 yX6_half, Cond.static yX6_half, Cond.code yX6_half cX6_half 2 (some .long), Cond.constantLong RX6 88 (2)]
def wsX6_couples : List Cond := .code yX6_couples cX6_couples 11 (some .int) :: ((wsX6_couples_r1 ++ wsX6_couples_r2) ++ wsX60)
def wsX6_acted : List Cond := .code yX6_acted cX6_acted 2 (some .int) :: ([.methodLink RX6 116 yX6_records, .instanceMethod yX6_records, .selects RX6 yX6_records yX6_records, .initialized RX6, .code yX6_records cX6_records 2 none, .fieldLink RX6 56 "PlateSlabsModel" "known" "I", .fieldLink RX6 29 "PlateSlabsModel" "before" "[I", .fieldLink RX6 32 "PlateSlabsModel" "eBefore" "[J", .fieldLink RX6 17 "PlateSlabsModel" "ahead" "[I", .fieldLink RX6 20 "PlateSlabsModel" "eAhead" "[J"] ++ wsX60)
def wsX6_least : List Cond := .code yX6_least cX6_least 1 (some .int) :: ([])
def wsX6_most : List Cond := .code yX6_most cX6_most 1 (some .int) :: ([])
def wsX6_set_r1 : List Cond := [Cond.methodLink RX6 119 yX6_isPair, Cond.static yX6_isPair, Cond.initialized RX6, Cond.code yX6_isPair cX6_isPair 1 (some .boolean), Cond.methodLink RX6 49 yX6_in, Cond.static yX6_in, Cond.code yX6_in cX6_in 3 (some .boolean), Cond.methodLink RX6 122 yX6_looks, Cond.instanceMethod yX6_looks, Cond.selects RX6 yX6_looks yX6_looks, Cond.code yX6_looks cX6_looks 2 none, Cond.fieldLink RX6 17 "PlateSlabsModel" "ahead" "[I", Cond.fieldLink RX6 7 "PlateSlabsModel" "s" "[I", Cond.fieldLink RX6 20 "PlateSlabsModel" "eAhead" "[J", Cond.fieldLink RX6 13 "PlateSlabsModel" "e" "[J", Cond.methodLink RX6 125 yX6_least, Cond.static yX6_least, Cond.code yX6_least cX6_least 1 (some .int), Cond.methodLink RX6 128 yX6_most, Cond.static yX6_most, Cond.code yX6_most cX6_most 1 (some .int), Cond.methodLink RX6 131 yX6_lays, Cond.instanceMethod yX6_lays, Cond.selects RX6 yX6_lays yX6_lays]
def wsX6_set_r2 : List Cond := [Cond.code yX6_lays cX6_lays 5 (some .int), Cond.methodLink RX6 53 yX6_of, Cond.instanceMethod yX6_of, Cond.selects RX6 yX6_of yX6_of, Cond.code yX6_of cX6_of 3 (some .int), Cond.methodLink RX6 45 yX6_at, Cond.static yX6_at, Cond.code yX6_at cX6_at 2 (some .int), Cond.methodLink RX6 103 yX6_charges, Cond.instanceMethod yX6_charges, Cond.selects RX6 yX6_charges yX6_charges, Cond.code yX6_charges cX6_charges 3 none, Cond.constantLong RX6 88 (2), Cond.methodLink RX6 62 yX6_isOn, Cond.instanceMethod yX6_isOn, Cond.selects RX6 yX6_isOn yX6_isOn, Cond.code yX6_isOn cX6_isOn 2 (some .boolean), Cond.methodLink RX6 66 yX6_capacityNow, Cond.instanceMethod yX6_capacityNow, Cond.selects RX6 yX6_capacityNow yX6_capacityNow, Cond.code yX6_capacityNow cX6_capacityNow 2 (some .int), Cond.methodLink RX6 59 yX6_capacity, Cond.instanceMethod yX6_capacity, Cond.selects RX6 yX6_capacity yX6_capacity]
def wsX6_set_r3 : List Cond := [Cond.code yX6_capacity cX6_capacity 3 (some .int), Cond.methodLink RX6 134 yX6_acted, Cond.instanceMethod yX6_acted, Cond.selects RX6 yX6_acted yX6_acted, Cond.code yX6_acted cX6_acted 2 (some .int), Cond.methodLink RX6 116 yX6_records, Cond.instanceMethod yX6_records, Cond.selects RX6 yX6_records yX6_records, Cond.code yX6_records cX6_records 2 none, Cond.fieldLink RX6 56 "PlateSlabsModel" "known" "I", Cond.fieldLink RX6 29 "PlateSlabsModel" "before" "[I", Cond.fieldLink RX6 32 "PlateSlabsModel" "eBefore" "[J"]
def wsX6_set : List Cond := .code yX6_set cX6_set 4 (some .int) :: ((wsX6_set_r1 ++ (wsX6_set_r2 ++ wsX6_set_r3)) ++ wsX60)
def wsX6_turnOn_r1 : List Cond := [Cond.methodLink RX6 119 yX6_isPair, Cond.static yX6_isPair, Cond.initialized RX6, Cond.code yX6_isPair cX6_isPair 1 (some .boolean), Cond.methodLink RX6 49 yX6_in, Cond.static yX6_in, Cond.code yX6_in cX6_in 3 (some .boolean), Cond.methodLink RX6 122 yX6_looks, Cond.instanceMethod yX6_looks, Cond.selects RX6 yX6_looks yX6_looks, Cond.code yX6_looks cX6_looks 2 none, Cond.fieldLink RX6 17 "PlateSlabsModel" "ahead" "[I", Cond.fieldLink RX6 7 "PlateSlabsModel" "s" "[I", Cond.fieldLink RX6 20 "PlateSlabsModel" "eAhead" "[J", Cond.fieldLink RX6 13 "PlateSlabsModel" "e" "[J", Cond.methodLink RX6 137 yX6_turnsOn, Cond.instanceMethod yX6_turnsOn, Cond.selects RX6 yX6_turnsOn yX6_turnsOn, Cond.code yX6_turnsOn cX6_turnsOn 3 (some .int), Cond.methodLink RX6 62 yX6_isOn, Cond.instanceMethod yX6_isOn, Cond.selects RX6 yX6_isOn yX6_isOn, Cond.code yX6_isOn cX6_isOn 2 (some .boolean), Cond.methodLink RX6 53 yX6_of]
def wsX6_turnOn_r2 : List Cond := [Cond.instanceMethod yX6_of, Cond.selects RX6 yX6_of yX6_of, Cond.code yX6_of cX6_of 3 (some .int), Cond.methodLink RX6 45 yX6_at, Cond.static yX6_at, Cond.code yX6_at cX6_at 2 (some .int), Cond.methodLink RX6 103 yX6_charges, Cond.instanceMethod yX6_charges, Cond.selects RX6 yX6_charges yX6_charges, Cond.code yX6_charges cX6_charges 3 none, Cond.constantLong RX6 88 (2), Cond.methodLink RX6 66 yX6_capacityNow, Cond.instanceMethod yX6_capacityNow, Cond.selects RX6 yX6_capacityNow yX6_capacityNow, Cond.code yX6_capacityNow cX6_capacityNow 2 (some .int), Cond.methodLink RX6 59 yX6_capacity, Cond.instanceMethod yX6_capacity, Cond.selects RX6 yX6_capacity yX6_capacity, Cond.code yX6_capacity cX6_capacity 3 (some .int), Cond.methodLink RX6 134 yX6_acted, Cond.instanceMethod yX6_acted, Cond.selects RX6 yX6_acted yX6_acted, Cond.code yX6_acted cX6_acted 2 (some .int), Cond.methodLink RX6 116 yX6_records]
def wsX6_turnOn_r3 : List Cond := [Cond.instanceMethod yX6_records, Cond.selects RX6 yX6_records yX6_records, Cond.code yX6_records cX6_records 2 none, Cond.fieldLink RX6 56 "PlateSlabsModel" "known" "I", Cond.fieldLink RX6 29 "PlateSlabsModel" "before" "[I", Cond.fieldLink RX6 32 "PlateSlabsModel" "eBefore" "[J"]
def wsX6_turnOn : List Cond := .code yX6_turnOn cX6_turnOn 3 (some .int) :: ((wsX6_turnOn_r1 ++ (wsX6_turnOn_r2 ++ wsX6_turnOn_r3)) ++ wsX60)
def wsX6_turnOff_r1 : List Cond := [Cond.methodLink RX6 122 yX6_looks, Cond.instanceMethod yX6_looks, Cond.selects RX6 yX6_looks yX6_looks, Cond.initialized RX6, Cond.code yX6_looks cX6_looks 2 none, Cond.fieldLink RX6 17 "PlateSlabsModel" "ahead" "[I", Cond.fieldLink RX6 7 "PlateSlabsModel" "s" "[I", Cond.fieldLink RX6 20 "PlateSlabsModel" "eAhead" "[J", Cond.fieldLink RX6 13 "PlateSlabsModel" "e" "[J", Cond.methodLink RX6 119 yX6_isPair, Cond.static yX6_isPair, Cond.code yX6_isPair cX6_isPair 1 (some .boolean), Cond.methodLink RX6 49 yX6_in, Cond.static yX6_in, Cond.code yX6_in cX6_in 3 (some .boolean), Cond.methodLink RX6 140 yX6_turnsOff, Cond.instanceMethod yX6_turnsOff, Cond.selects RX6 yX6_turnsOff yX6_turnsOff, Cond.code yX6_turnsOff cX6_turnsOff 2 (some .int), Cond.methodLink RX6 62 yX6_isOn, Cond.instanceMethod yX6_isOn, Cond.selects RX6 yX6_isOn yX6_isOn, Cond.code yX6_isOn cX6_isOn 2 (some .boolean), Cond.methodLink RX6 53 yX6_of]
def wsX6_turnOff_r2 : List Cond := [Cond.instanceMethod yX6_of, Cond.selects RX6 yX6_of yX6_of, Cond.code yX6_of cX6_of 3 (some .int), Cond.methodLink RX6 45 yX6_at, Cond.static yX6_at, Cond.code yX6_at cX6_at 2 (some .int), Cond.methodLink RX6 134 yX6_acted, Cond.instanceMethod yX6_acted, Cond.selects RX6 yX6_acted yX6_acted, Cond.code yX6_acted cX6_acted 2 (some .int), Cond.methodLink RX6 116 yX6_records, Cond.instanceMethod yX6_records, Cond.selects RX6 yX6_records yX6_records, Cond.code yX6_records cX6_records 2 none, Cond.fieldLink RX6 56 "PlateSlabsModel" "known" "I", Cond.fieldLink RX6 29 "PlateSlabsModel" "before" "[I", Cond.fieldLink RX6 32 "PlateSlabsModel" "eBefore" "[J"]
def wsX6_turnOff : List Cond := .code yX6_turnOff cX6_turnOff 2 (some .int) :: ((wsX6_turnOff_r1 ++ wsX6_turnOff_r2) ++ wsX60)
def wsX6_put_r1 : List Cond := [Cond.methodLink RX6 119 yX6_isPair, Cond.static yX6_isPair, Cond.initialized RX6, Cond.code yX6_isPair cX6_isPair 1 (some .boolean), Cond.methodLink RX6 49 yX6_in, Cond.static yX6_in, Cond.code yX6_in cX6_in 3 (some .boolean), Cond.methodLink RX6 122 yX6_looks, Cond.instanceMethod yX6_looks, Cond.selects RX6 yX6_looks yX6_looks, Cond.code yX6_looks cX6_looks 2 none, Cond.fieldLink RX6 17 "PlateSlabsModel" "ahead" "[I", Cond.fieldLink RX6 7 "PlateSlabsModel" "s" "[I", Cond.fieldLink RX6 20 "PlateSlabsModel" "eAhead" "[J", Cond.fieldLink RX6 13 "PlateSlabsModel" "e" "[J", Cond.methodLink RX6 131 yX6_lays, Cond.instanceMethod yX6_lays, Cond.selects RX6 yX6_lays yX6_lays, Cond.code yX6_lays cX6_lays 5 (some .int), Cond.methodLink RX6 53 yX6_of, Cond.instanceMethod yX6_of, Cond.selects RX6 yX6_of yX6_of, Cond.code yX6_of cX6_of 3 (some .int), Cond.methodLink RX6 45 yX6_at]
def wsX6_put_r2 : List Cond := [Cond.static yX6_at, Cond.code yX6_at cX6_at 2 (some .int), Cond.methodLink RX6 103 yX6_charges, Cond.instanceMethod yX6_charges, Cond.selects RX6 yX6_charges yX6_charges, Cond.code yX6_charges cX6_charges 3 none, Cond.constantLong RX6 88 (2), Cond.methodLink RX6 62 yX6_isOn, Cond.instanceMethod yX6_isOn, Cond.selects RX6 yX6_isOn yX6_isOn, Cond.code yX6_isOn cX6_isOn 2 (some .boolean), Cond.methodLink RX6 66 yX6_capacityNow, Cond.instanceMethod yX6_capacityNow, Cond.selects RX6 yX6_capacityNow yX6_capacityNow, Cond.code yX6_capacityNow cX6_capacityNow 2 (some .int), Cond.methodLink RX6 59 yX6_capacity, Cond.instanceMethod yX6_capacity, Cond.selects RX6 yX6_capacity yX6_capacity, Cond.code yX6_capacity cX6_capacity 3 (some .int), Cond.methodLink RX6 134 yX6_acted, Cond.instanceMethod yX6_acted, Cond.selects RX6 yX6_acted yX6_acted, Cond.code yX6_acted cX6_acted 2 (some .int), Cond.methodLink RX6 116 yX6_records]
def wsX6_put_r3 : List Cond := [Cond.instanceMethod yX6_records, Cond.selects RX6 yX6_records yX6_records, Cond.code yX6_records cX6_records 2 none, Cond.fieldLink RX6 56 "PlateSlabsModel" "known" "I", Cond.fieldLink RX6 29 "PlateSlabsModel" "before" "[I", Cond.fieldLink RX6 32 "PlateSlabsModel" "eBefore" "[J"]
def wsX6_put : List Cond := .code yX6_put cX6_put 3 (some .int) :: ((wsX6_put_r1 ++ (wsX6_put_r2 ++ wsX6_put_r3)) ++ wsX60)
def wsX6_couple_r1 : List Cond := [Cond.methodLink RX6 122 yX6_looks, Cond.instanceMethod yX6_looks, Cond.selects RX6 yX6_looks yX6_looks, Cond.initialized RX6, Cond.code yX6_looks cX6_looks 2 none, Cond.fieldLink RX6 17 "PlateSlabsModel" "ahead" "[I", Cond.fieldLink RX6 7 "PlateSlabsModel" "s" "[I", Cond.fieldLink RX6 20 "PlateSlabsModel" "eAhead" "[J", Cond.fieldLink RX6 13 "PlateSlabsModel" "e" "[J", Cond.methodLink RX6 119 yX6_isPair, Cond.static yX6_isPair, Cond.code yX6_isPair cX6_isPair 1 (some .boolean), Cond.methodLink RX6 49 yX6_in, Cond.static yX6_in, Cond.code yX6_in cX6_in 3 (some .boolean), Cond.methodLink RX6 143 yX6_couples, Cond.instanceMethod yX6_couples, Cond.selects RX6 yX6_couples yX6_couples, Cond.code yX6_couples cX6_couples 11 (some .int), Cond.constant RX6 111 (200000), Cond.methodLink RX6 62 yX6_isOn, Cond.instanceMethod yX6_isOn, Cond.selects RX6 yX6_isOn yX6_isOn, Cond.code yX6_isOn cX6_isOn 2 (some .boolean)]
def wsX6_couple_r2 : List Cond := [Cond.methodLink RX6 53 yX6_of, Cond.instanceMethod yX6_of, Cond.selects RX6 yX6_of yX6_of, Cond.code yX6_of cX6_of 3 (some .int), Cond.methodLink RX6 45 yX6_at, Cond.static yX6_at, Cond.code yX6_at cX6_at 2 (some .int), Cond.methodLink RX6 66 yX6_capacityNow, Cond.instanceMethod yX6_capacityNow, Cond.selects RX6 yX6_capacityNow yX6_capacityNow, Cond.code yX6_capacityNow cX6_capacityNow 2 (some .int), Cond.methodLink RX6 59 yX6_capacity, Cond.instanceMethod yX6_capacity, Cond.selects RX6 yX6_capacity yX6_capacity, Cond.code yX6_capacity cX6_capacity 3 (some .int), Cond.methodLink RX6 90 yX6_stored, Cond.instanceMethod yX6_stored, Cond.selects RX6 yX6_stored yX6_stored, Cond.code yX6_stored cX6_stored 4 (some .long), Cond.methodLink RX6 112 yX6_half, Cond.static yX6_half, Cond.code yX6_half cX6_half 2 (some .long), Cond.constantLong RX6 88 (2), Cond.methodLink RX6 134 yX6_acted]
def wsX6_couple_r3 : List Cond := [Cond.instanceMethod yX6_acted, Cond.selects RX6 yX6_acted yX6_acted, Cond.code yX6_acted cX6_acted 2 (some .int), Cond.methodLink RX6 116 yX6_records, Cond.instanceMethod yX6_records, Cond.selects RX6 yX6_records yX6_records, Cond.code yX6_records cX6_records 2 none, Cond.fieldLink RX6 56 "PlateSlabsModel" "known" "I", Cond.fieldLink RX6 29 "PlateSlabsModel" "before" "[I", Cond.fieldLink RX6 32 "PlateSlabsModel" "eBefore" "[J"]
def wsX6_couple : List Cond := .code yX6_couple cX6_couple 3 (some .int) :: ((wsX6_couple_r1 ++ (wsX6_couple_r2 ++ wsX6_couple_r3)) ++ wsX60)
def wsX6_pass_r1 : List Cond := [Cond.methodLink RX6 122 yX6_looks, Cond.instanceMethod yX6_looks, Cond.selects RX6 yX6_looks yX6_looks, Cond.initialized RX6, Cond.code yX6_looks cX6_looks 2 none, Cond.fieldLink RX6 17 "PlateSlabsModel" "ahead" "[I", Cond.fieldLink RX6 7 "PlateSlabsModel" "s" "[I", Cond.fieldLink RX6 20 "PlateSlabsModel" "eAhead" "[J", Cond.fieldLink RX6 13 "PlateSlabsModel" "e" "[J", Cond.methodLink RX6 49 yX6_in, Cond.static yX6_in, Cond.code yX6_in cX6_in 3 (some .boolean), Cond.methodLink RX6 146 yX6_passes, Cond.instanceMethod yX6_passes, Cond.selects RX6 yX6_passes yX6_passes, Cond.code yX6_passes cX6_passes 4 (some .int), Cond.constant RX6 107 (99999), Cond.methodLink RX6 108 yX6_tick, Cond.instanceMethod yX6_tick, Cond.selects RX6 yX6_tick yX6_tick, Cond.code yX6_tick cX6_tick 4 (some .int), Cond.methodLink RX6 62 yX6_isOn, Cond.instanceMethod yX6_isOn, Cond.selects RX6 yX6_isOn yX6_isOn]
def wsX6_pass_r2 : List Cond := [Cond.code yX6_isOn cX6_isOn 2 (some .boolean), Cond.methodLink RX6 53 yX6_of, Cond.instanceMethod yX6_of, Cond.selects RX6 yX6_of yX6_of, Cond.code yX6_of cX6_of 3 (some .int), Cond.methodLink RX6 45 yX6_at, Cond.static yX6_at, Cond.code yX6_at cX6_at 2 (some .int), Cond.methodLink RX6 90 yX6_stored, Cond.instanceMethod yX6_stored, Cond.selects RX6 yX6_stored yX6_stored, Cond.code yX6_stored cX6_stored 4 (some .long), Cond.methodLink RX6 66 yX6_capacityNow, Cond.instanceMethod yX6_capacityNow, Cond.selects RX6 yX6_capacityNow yX6_capacityNow, Cond.code yX6_capacityNow cX6_capacityNow 2 (some .int), Cond.methodLink RX6 59 yX6_capacity, Cond.instanceMethod yX6_capacity, Cond.selects RX6 yX6_capacity yX6_capacity, Cond.code yX6_capacity cX6_capacity 3 (some .int), Cond.methodLink RX6 94 yX6_leak, Cond.instanceMethod yX6_leak, Cond.selects RX6 yX6_leak yX6_leak, Cond.code yX6_leak cX6_leak 3 (some .int)]
def wsX6_pass_r3 : List Cond := [Cond.constantLong RX6 86 (1000), Cond.methodLink RX6 97 yX6_net, Cond.instanceMethod yX6_net, Cond.selects RX6 yX6_net yX6_net, Cond.code yX6_net cX6_net 2 (some .int), Cond.methodLink RX6 77 yX6_pullAt, Cond.instanceMethod yX6_pullAt, Cond.selects RX6 yX6_pullAt yX6_pullAt, Cond.code yX6_pullAt cX6_pullAt 4 (some .int), Cond.methodLink RX6 70 yX6_pullBy, Cond.instanceMethod yX6_pullBy, Cond.selects RX6 yX6_pullBy yX6_pullBy, Cond.code yX6_pullBy cX6_pullBy 3 (some .int), Cond.methodLink RX6 73 yX6_pullOf, Cond.instanceMethod yX6_pullOf, Cond.selects RX6 yX6_pullOf yX6_pullOf, Cond.code yX6_pullOf cX6_pullOf 8 (some .int), Cond.methodLink RX6 80 yX6_spring, Cond.instanceMethod yX6_spring, Cond.selects RX6 yX6_spring yX6_spring, Cond.code yX6_spring cX6_spring 3 (some .int), Cond.methodLink RX6 100 yX6_move, Cond.instanceMethod yX6_move, Cond.selects RX6 yX6_move yX6_move]
def wsX6_pass_r4 : List Cond := [Cond.code yX6_move cX6_move 4 (some .int), Cond.methodLink RX6 83 yX6_size, Cond.static yX6_size, Cond.code yX6_size cX6_size 1 (some .int), Cond.methodLink RX6 103 yX6_charges, Cond.instanceMethod yX6_charges, Cond.selects RX6 yX6_charges yX6_charges, Cond.code yX6_charges cX6_charges 3 none, Cond.constantLong RX6 88 (2), Cond.methodLink RX6 134 yX6_acted, Cond.instanceMethod yX6_acted, Cond.selects RX6 yX6_acted yX6_acted, Cond.code yX6_acted cX6_acted 2 (some .int), Cond.methodLink RX6 116 yX6_records, Cond.instanceMethod yX6_records, Cond.selects RX6 yX6_records yX6_records, Cond.code yX6_records cX6_records 2 none, Cond.fieldLink RX6 56 "PlateSlabsModel" "known" "I", Cond.fieldLink RX6 29 "PlateSlabsModel" "before" "[I", Cond.fieldLink RX6 32 "PlateSlabsModel" "eBefore" "[J"]
def wsX6_pass : List Cond := .code yX6_pass cX6_pass 2 (some .int) :: ((wsX6_pass_r1 ++ (wsX6_pass_r2 ++ (wsX6_pass_r3 ++ wsX6_pass_r4))) ++ wsX60)
def wsX6_type : List Cond := .code yX6_type cX6_type 2 (some .int) :: ([.fieldLink RX6 149 "PlateSlabsModel" "length" "I", .fieldLink RX6 35 "PlateSlabsModel" "text" "[I"] ++ wsX60)
def wsX6_clearText : List Cond := .code yX6_clearText cX6_clearText 2 (some .int) :: ([.fieldLink RX6 149 "PlateSlabsModel" "length" "I"] ++ wsX60)
def wsX6_isNext : List Cond := .code yX6_isNext cX6_isNext 3 (some .boolean) :: ([.fieldLink RX6 152 "PlateSlabsModel" "isWrong" "Z", .fieldLink RX6 156 "PlateSlabsModel" "position" "I", .fieldLink RX6 149 "PlateSlabsModel" "length" "I", .fieldLink RX6 35 "PlateSlabsModel" "text" "[I", .methodLink RX6 49 yX6_in, .static yX6_in, .initialized RX6, .code yX6_in cX6_in 3 (some .boolean)] ++ wsX60)
def wsX6_takes : List Cond := .code yX6_takes cX6_takes 4 (some .int) :: ([.fieldLink RX6 156 "PlateSlabsModel" "position" "I", .fieldLink RX6 149 "PlateSlabsModel" "length" "I", .fieldLink RX6 35 "PlateSlabsModel" "text" "[I", .fieldLink RX6 152 "PlateSlabsModel" "isWrong" "Z", .methodLink RX6 49 yX6_in, .static yX6_in, .initialized RX6, .code yX6_in cX6_in 3 (some .boolean)] ++ wsX60)
def wsX6_takesNumber : List Cond := .code yX6_takesNumber cX6_takesNumber 5 (some .int) :: ([.fieldLink RX6 35 "PlateSlabsModel" "text" "[I", .fieldLink RX6 156 "PlateSlabsModel" "position" "I", .methodLink RX6 159 yX6_takes, .instanceMethod yX6_takes, .selects RX6 yX6_takes yX6_takes, .initialized RX6, .code yX6_takes cX6_takes 4 (some .int), .fieldLink RX6 149 "PlateSlabsModel" "length" "I", .fieldLink RX6 152 "PlateSlabsModel" "isWrong" "Z", .methodLink RX6 49 yX6_in, .static yX6_in, .code yX6_in cX6_in 3 (some .boolean), .methodLink RX6 162 yX6_isNext, .instanceMethod yX6_isNext, .selects RX6 yX6_isNext yX6_isNext, .code yX6_isNext cX6_isNext 3 (some .boolean)] ++ wsX60)
def wsX6_readThing : List Cond := .code yX6_readThing cX6_readThing 2 none :: ([.fieldLink RX6 156 "PlateSlabsModel" "position" "I", .fieldLink RX6 149 "PlateSlabsModel" "length" "I", .fieldLink RX6 35 "PlateSlabsModel" "text" "[I", .fieldLink RX6 166 "PlateSlabsModel" "letter" "I", .fieldLink RX6 152 "PlateSlabsModel" "isWrong" "Z", .fieldLink RX6 172 "PlateSlabsModel" "first" "I", .fieldLink RX6 175 "PlateSlabsModel" "second" "I", .methodLink RX6 169 yX6_takesNumber, .instanceMethod yX6_takesNumber, .selects RX6 yX6_takesNumber yX6_takesNumber, .initialized RX6, .code yX6_takesNumber cX6_takesNumber 5 (some .int), .methodLink RX6 159 yX6_takes, .instanceMethod yX6_takes, .selects RX6 yX6_takes yX6_takes, .code yX6_takes cX6_takes 4 (some .int), .methodLink RX6 49 yX6_in, .static yX6_in, .code yX6_in cX6_in 3 (some .boolean), .methodLink RX6 162 yX6_isNext, .instanceMethod yX6_isNext, .selects RX6 yX6_isNext yX6_isNext, .code yX6_isNext cX6_isNext 3 (some .boolean)] ++ wsX60)
def wsX6_does_r1 : List Cond := [Cond.fieldLink RX6 166 "PlateSlabsModel" "letter" "I", Cond.fieldLink RX6 172 "PlateSlabsModel" "first" "I", Cond.fieldLink RX6 175 "PlateSlabsModel" "second" "I", Cond.methodLink RX6 137 yX6_turnsOn, Cond.instanceMethod yX6_turnsOn, Cond.selects RX6 yX6_turnsOn yX6_turnsOn, Cond.initialized RX6, Cond.code yX6_turnsOn cX6_turnsOn 3 (some .int), Cond.fieldLink RX6 7 "PlateSlabsModel" "s" "[I", Cond.methodLink RX6 62 yX6_isOn, Cond.instanceMethod yX6_isOn, Cond.selects RX6 yX6_isOn yX6_isOn, Cond.code yX6_isOn cX6_isOn 2 (some .boolean), Cond.methodLink RX6 53 yX6_of, Cond.instanceMethod yX6_of, Cond.selects RX6 yX6_of yX6_of, Cond.code yX6_of cX6_of 3 (some .int), Cond.methodLink RX6 45 yX6_at, Cond.static yX6_at, Cond.code yX6_at cX6_at 2 (some .int), Cond.methodLink RX6 103 yX6_charges, Cond.instanceMethod yX6_charges, Cond.selects RX6 yX6_charges yX6_charges, Cond.code yX6_charges cX6_charges 3 none]
def wsX6_does_r2 : List Cond := [Cond.fieldLink RX6 13 "PlateSlabsModel" "e" "[J", Cond.constantLong RX6 88 (2), Cond.methodLink RX6 66 yX6_capacityNow, Cond.instanceMethod yX6_capacityNow, Cond.selects RX6 yX6_capacityNow yX6_capacityNow, Cond.code yX6_capacityNow cX6_capacityNow 2 (some .int), Cond.methodLink RX6 59 yX6_capacity, Cond.instanceMethod yX6_capacity, Cond.selects RX6 yX6_capacity yX6_capacity, Cond.code yX6_capacity cX6_capacity 3 (some .int), Cond.methodLink RX6 140 yX6_turnsOff, Cond.instanceMethod yX6_turnsOff, Cond.selects RX6 yX6_turnsOff yX6_turnsOff, Cond.code yX6_turnsOff cX6_turnsOff 2 (some .int), Cond.methodLink RX6 131 yX6_lays, Cond.instanceMethod yX6_lays, Cond.selects RX6 yX6_lays yX6_lays, Cond.code yX6_lays cX6_lays 5 (some .int), Cond.methodLink RX6 143 yX6_couples, Cond.instanceMethod yX6_couples, Cond.selects RX6 yX6_couples yX6_couples, Cond.code yX6_couples cX6_couples 11 (some .int), Cond.constant RX6 111 (200000), Cond.methodLink RX6 90 yX6_stored]
def wsX6_does_r3 : List Cond := [Cond.instanceMethod yX6_stored, Cond.selects RX6 yX6_stored yX6_stored, Cond.code yX6_stored cX6_stored 4 (some .long), Cond.methodLink RX6 112 yX6_half, Cond.static yX6_half, Cond.code yX6_half cX6_half 2 (some .long), Cond.methodLink RX6 146 yX6_passes, Cond.instanceMethod yX6_passes, Cond.selects RX6 yX6_passes yX6_passes, Cond.code yX6_passes cX6_passes 4 (some .int), Cond.constant RX6 107 (99999), Cond.methodLink RX6 108 yX6_tick, Cond.instanceMethod yX6_tick, Cond.selects RX6 yX6_tick yX6_tick, Cond.code yX6_tick cX6_tick 4 (some .int), Cond.methodLink RX6 94 yX6_leak, Cond.instanceMethod yX6_leak, Cond.selects RX6 yX6_leak yX6_leak, Cond.code yX6_leak cX6_leak 3 (some .int), Cond.constantLong RX6 86 (1000), Cond.methodLink RX6 97 yX6_net, Cond.instanceMethod yX6_net, Cond.selects RX6 yX6_net yX6_net, Cond.code yX6_net cX6_net 2 (some .int)]
def wsX6_does_r4 : List Cond := [Cond.methodLink RX6 77 yX6_pullAt, Cond.instanceMethod yX6_pullAt, Cond.selects RX6 yX6_pullAt yX6_pullAt, Cond.code yX6_pullAt cX6_pullAt 4 (some .int), Cond.methodLink RX6 70 yX6_pullBy, Cond.instanceMethod yX6_pullBy, Cond.selects RX6 yX6_pullBy yX6_pullBy, Cond.code yX6_pullBy cX6_pullBy 3 (some .int), Cond.methodLink RX6 73 yX6_pullOf, Cond.instanceMethod yX6_pullOf, Cond.selects RX6 yX6_pullOf yX6_pullOf, Cond.code yX6_pullOf cX6_pullOf 8 (some .int), Cond.methodLink RX6 80 yX6_spring, Cond.instanceMethod yX6_spring, Cond.selects RX6 yX6_spring yX6_spring, Cond.code yX6_spring cX6_spring 3 (some .int), Cond.methodLink RX6 100 yX6_move, Cond.instanceMethod yX6_move, Cond.selects RX6 yX6_move yX6_move, Cond.code yX6_move cX6_move 4 (some .int), Cond.methodLink RX6 83 yX6_size, Cond.static yX6_size, Cond.code yX6_size cX6_size 1 (some .int)]
def wsX6_does : List Cond := .code yX6_does cX6_does 1 (some .int) :: ((wsX6_does_r1 ++ (wsX6_does_r2 ++ (wsX6_does_r3 ++ wsX6_does_r4))) ++ wsX60)
def wsX6_runs_r1 : List Cond := [Cond.fieldLink RX6 156 "PlateSlabsModel" "position" "I", Cond.fieldLink RX6 152 "PlateSlabsModel" "isWrong" "Z", Cond.fieldLink RX6 178 "PlateSlabsModel" "stop" "I", Cond.fieldLink RX6 149 "PlateSlabsModel" "length" "I", Cond.methodLink RX6 181 yX6_readThing, Cond.instanceMethod yX6_readThing, Cond.selects RX6 yX6_readThing yX6_readThing, Cond.initialized RX6, Cond.code yX6_readThing cX6_readThing 2 none, Cond.fieldLink RX6 35 "PlateSlabsModel" "text" "[I", Cond.fieldLink RX6 166 "PlateSlabsModel" "letter" "I", Cond.fieldLink RX6 172 "PlateSlabsModel" "first" "I", Cond.fieldLink RX6 175 "PlateSlabsModel" "second" "I", Cond.methodLink RX6 169 yX6_takesNumber, Cond.instanceMethod yX6_takesNumber, Cond.selects RX6 yX6_takesNumber yX6_takesNumber, Cond.code yX6_takesNumber cX6_takesNumber 5 (some .int), Cond.methodLink RX6 159 yX6_takes, Cond.instanceMethod yX6_takes, Cond.selects RX6 yX6_takes yX6_takes, Cond.code yX6_takes cX6_takes 4 (some .int), Cond.methodLink RX6 49 yX6_in, Cond.static yX6_in, Cond.code yX6_in cX6_in 3 (some .boolean)]
def wsX6_runs_r2 : List Cond := [Cond.methodLink RX6 162 yX6_isNext, Cond.instanceMethod yX6_isNext, Cond.selects RX6 yX6_isNext yX6_isNext, Cond.code yX6_isNext cX6_isNext 3 (some .boolean), Cond.methodLink RX6 184 yX6_does, Cond.instanceMethod yX6_does, Cond.selects RX6 yX6_does yX6_does, Cond.code yX6_does cX6_does 1 (some .int), Cond.methodLink RX6 137 yX6_turnsOn, Cond.instanceMethod yX6_turnsOn, Cond.selects RX6 yX6_turnsOn yX6_turnsOn, Cond.code yX6_turnsOn cX6_turnsOn 3 (some .int), Cond.fieldLink RX6 7 "PlateSlabsModel" "s" "[I", Cond.methodLink RX6 62 yX6_isOn, Cond.instanceMethod yX6_isOn, Cond.selects RX6 yX6_isOn yX6_isOn, Cond.code yX6_isOn cX6_isOn 2 (some .boolean), Cond.methodLink RX6 53 yX6_of, Cond.instanceMethod yX6_of, Cond.selects RX6 yX6_of yX6_of, Cond.code yX6_of cX6_of 3 (some .int), Cond.methodLink RX6 45 yX6_at, Cond.static yX6_at, Cond.code yX6_at cX6_at 2 (some .int)]
def wsX6_runs_r3 : List Cond := [Cond.methodLink RX6 103 yX6_charges, Cond.instanceMethod yX6_charges, Cond.selects RX6 yX6_charges yX6_charges, Cond.code yX6_charges cX6_charges 3 none, Cond.fieldLink RX6 13 "PlateSlabsModel" "e" "[J", Cond.constantLong RX6 88 (2), Cond.methodLink RX6 66 yX6_capacityNow, Cond.instanceMethod yX6_capacityNow, Cond.selects RX6 yX6_capacityNow yX6_capacityNow, Cond.code yX6_capacityNow cX6_capacityNow 2 (some .int), Cond.methodLink RX6 59 yX6_capacity, Cond.instanceMethod yX6_capacity, Cond.selects RX6 yX6_capacity yX6_capacity, Cond.code yX6_capacity cX6_capacity 3 (some .int), Cond.methodLink RX6 140 yX6_turnsOff, Cond.instanceMethod yX6_turnsOff, Cond.selects RX6 yX6_turnsOff yX6_turnsOff, Cond.code yX6_turnsOff cX6_turnsOff 2 (some .int), Cond.methodLink RX6 131 yX6_lays, Cond.instanceMethod yX6_lays, Cond.selects RX6 yX6_lays yX6_lays, Cond.code yX6_lays cX6_lays 5 (some .int), Cond.methodLink RX6 143 yX6_couples, Cond.instanceMethod yX6_couples]
def wsX6_runs_r4 : List Cond := [Cond.selects RX6 yX6_couples yX6_couples, Cond.code yX6_couples cX6_couples 11 (some .int), Cond.constant RX6 111 (200000), Cond.methodLink RX6 90 yX6_stored, Cond.instanceMethod yX6_stored, Cond.selects RX6 yX6_stored yX6_stored, Cond.code yX6_stored cX6_stored 4 (some .long), Cond.methodLink RX6 112 yX6_half, Cond.static yX6_half, Cond.code yX6_half cX6_half 2 (some .long), Cond.methodLink RX6 146 yX6_passes, Cond.instanceMethod yX6_passes, Cond.selects RX6 yX6_passes yX6_passes, Cond.code yX6_passes cX6_passes 4 (some .int), Cond.constant RX6 107 (99999), Cond.methodLink RX6 108 yX6_tick, Cond.instanceMethod yX6_tick, Cond.selects RX6 yX6_tick yX6_tick, Cond.code yX6_tick cX6_tick 4 (some .int), Cond.methodLink RX6 94 yX6_leak, Cond.instanceMethod yX6_leak, Cond.selects RX6 yX6_leak yX6_leak, Cond.code yX6_leak cX6_leak 3 (some .int), Cond.constantLong RX6 86 (1000)]
def wsX6_runs_r5 : List Cond := [Cond.methodLink RX6 97 yX6_net, Cond.instanceMethod yX6_net, Cond.selects RX6 yX6_net yX6_net, Cond.code yX6_net cX6_net 2 (some .int), Cond.methodLink RX6 77 yX6_pullAt, Cond.instanceMethod yX6_pullAt, Cond.selects RX6 yX6_pullAt yX6_pullAt, Cond.code yX6_pullAt cX6_pullAt 4 (some .int), Cond.methodLink RX6 70 yX6_pullBy, Cond.instanceMethod yX6_pullBy, Cond.selects RX6 yX6_pullBy yX6_pullBy, Cond.code yX6_pullBy cX6_pullBy 3 (some .int), Cond.methodLink RX6 73 yX6_pullOf, Cond.instanceMethod yX6_pullOf, Cond.selects RX6 yX6_pullOf yX6_pullOf, Cond.code yX6_pullOf cX6_pullOf 8 (some .int), Cond.methodLink RX6 80 yX6_spring, Cond.instanceMethod yX6_spring, Cond.selects RX6 yX6_spring yX6_spring, Cond.code yX6_spring cX6_spring 3 (some .int), Cond.methodLink RX6 100 yX6_move, Cond.instanceMethod yX6_move, Cond.selects RX6 yX6_move yX6_move, Cond.code yX6_move cX6_move 4 (some .int)]
def wsX6_runs_r6 : List Cond := [Cond.methodLink RX6 83 yX6_size, Cond.static yX6_size, Cond.code yX6_size cX6_size 1 (some .int)]
def wsX6_runs : List Cond := .code yX6_runs cX6_runs 6 (some .int) :: ((wsX6_runs_r1 ++ (wsX6_runs_r2 ++ (wsX6_runs_r3 ++ (wsX6_runs_r4 ++ (wsX6_runs_r5 ++ wsX6_runs_r6))))) ++ wsX60)
def wsX6_perform_r1 : List Cond := [Cond.fieldLink RX6 152 "PlateSlabsModel" "isWrong" "Z", Cond.fieldLink RX6 156 "PlateSlabsModel" "position" "I", Cond.fieldLink RX6 178 "PlateSlabsModel" "stop" "I", Cond.fieldLink RX6 38 "PlateSlabsModel" "stopAt" "I", Cond.fieldLink RX6 42 "PlateSlabsModel" "stopBy" "I", Cond.methodLink RX6 188 yX6_runs, Cond.instanceMethod yX6_runs, Cond.selects RX6 yX6_runs yX6_runs, Cond.initialized RX6, Cond.code yX6_runs cX6_runs 6 (some .int), Cond.fieldLink RX6 149 "PlateSlabsModel" "length" "I", Cond.methodLink RX6 181 yX6_readThing, Cond.instanceMethod yX6_readThing, Cond.selects RX6 yX6_readThing yX6_readThing, Cond.code yX6_readThing cX6_readThing 2 none, Cond.fieldLink RX6 35 "PlateSlabsModel" "text" "[I", Cond.fieldLink RX6 166 "PlateSlabsModel" "letter" "I", Cond.fieldLink RX6 172 "PlateSlabsModel" "first" "I", Cond.fieldLink RX6 175 "PlateSlabsModel" "second" "I", Cond.methodLink RX6 169 yX6_takesNumber, Cond.instanceMethod yX6_takesNumber, Cond.selects RX6 yX6_takesNumber yX6_takesNumber, Cond.code yX6_takesNumber cX6_takesNumber 5 (some .int), Cond.methodLink RX6 159 yX6_takes]
def wsX6_perform_r2 : List Cond := [Cond.instanceMethod yX6_takes, Cond.selects RX6 yX6_takes yX6_takes, Cond.code yX6_takes cX6_takes 4 (some .int), Cond.methodLink RX6 49 yX6_in, Cond.static yX6_in, Cond.code yX6_in cX6_in 3 (some .boolean), Cond.methodLink RX6 162 yX6_isNext, Cond.instanceMethod yX6_isNext, Cond.selects RX6 yX6_isNext yX6_isNext, Cond.code yX6_isNext cX6_isNext 3 (some .boolean), Cond.methodLink RX6 184 yX6_does, Cond.instanceMethod yX6_does, Cond.selects RX6 yX6_does yX6_does, Cond.code yX6_does cX6_does 1 (some .int), Cond.methodLink RX6 137 yX6_turnsOn, Cond.instanceMethod yX6_turnsOn, Cond.selects RX6 yX6_turnsOn yX6_turnsOn, Cond.code yX6_turnsOn cX6_turnsOn 3 (some .int), Cond.fieldLink RX6 7 "PlateSlabsModel" "s" "[I", Cond.methodLink RX6 62 yX6_isOn, Cond.instanceMethod yX6_isOn, Cond.selects RX6 yX6_isOn yX6_isOn, Cond.code yX6_isOn cX6_isOn 2 (some .boolean), Cond.methodLink RX6 53 yX6_of]
def wsX6_perform_r3 : List Cond := [Cond.instanceMethod yX6_of, Cond.selects RX6 yX6_of yX6_of, Cond.code yX6_of cX6_of 3 (some .int), Cond.methodLink RX6 45 yX6_at, Cond.static yX6_at, Cond.code yX6_at cX6_at 2 (some .int), Cond.methodLink RX6 103 yX6_charges, Cond.instanceMethod yX6_charges, Cond.selects RX6 yX6_charges yX6_charges, Cond.code yX6_charges cX6_charges 3 none, Cond.fieldLink RX6 13 "PlateSlabsModel" "e" "[J", Cond.constantLong RX6 88 (2), Cond.methodLink RX6 66 yX6_capacityNow, Cond.instanceMethod yX6_capacityNow, Cond.selects RX6 yX6_capacityNow yX6_capacityNow, Cond.code yX6_capacityNow cX6_capacityNow 2 (some .int), Cond.methodLink RX6 59 yX6_capacity, Cond.instanceMethod yX6_capacity, Cond.selects RX6 yX6_capacity yX6_capacity, Cond.code yX6_capacity cX6_capacity 3 (some .int), Cond.methodLink RX6 140 yX6_turnsOff, Cond.instanceMethod yX6_turnsOff, Cond.selects RX6 yX6_turnsOff yX6_turnsOff, Cond.code yX6_turnsOff cX6_turnsOff 2 (some .int)]
def wsX6_perform_r4 : List Cond := [Cond.methodLink RX6 131 yX6_lays, Cond.instanceMethod yX6_lays, Cond.selects RX6 yX6_lays yX6_lays, Cond.code yX6_lays cX6_lays 5 (some .int), Cond.methodLink RX6 143 yX6_couples, Cond.instanceMethod yX6_couples, Cond.selects RX6 yX6_couples yX6_couples, Cond.code yX6_couples cX6_couples 11 (some .int), Cond.constant RX6 111 (200000), Cond.methodLink RX6 90 yX6_stored, Cond.instanceMethod yX6_stored, Cond.selects RX6 yX6_stored yX6_stored, Cond.code yX6_stored cX6_stored 4 (some .long), Cond.methodLink RX6 112 yX6_half, Cond.static yX6_half, Cond.code yX6_half cX6_half 2 (some .long), Cond.methodLink RX6 146 yX6_passes, Cond.instanceMethod yX6_passes, Cond.selects RX6 yX6_passes yX6_passes, Cond.code yX6_passes cX6_passes 4 (some .int), Cond.constant RX6 107 (99999), Cond.methodLink RX6 108 yX6_tick, Cond.instanceMethod yX6_tick, Cond.selects RX6 yX6_tick yX6_tick]
def wsX6_perform_r5 : List Cond := [Cond.code yX6_tick cX6_tick 4 (some .int), Cond.methodLink RX6 94 yX6_leak, Cond.instanceMethod yX6_leak, Cond.selects RX6 yX6_leak yX6_leak, Cond.code yX6_leak cX6_leak 3 (some .int), Cond.constantLong RX6 86 (1000), Cond.methodLink RX6 97 yX6_net, Cond.instanceMethod yX6_net, Cond.selects RX6 yX6_net yX6_net, Cond.code yX6_net cX6_net 2 (some .int), Cond.methodLink RX6 77 yX6_pullAt, Cond.instanceMethod yX6_pullAt, Cond.selects RX6 yX6_pullAt yX6_pullAt, Cond.code yX6_pullAt cX6_pullAt 4 (some .int), Cond.methodLink RX6 70 yX6_pullBy, Cond.instanceMethod yX6_pullBy, Cond.selects RX6 yX6_pullBy yX6_pullBy, Cond.code yX6_pullBy cX6_pullBy 3 (some .int), Cond.methodLink RX6 73 yX6_pullOf, Cond.instanceMethod yX6_pullOf, Cond.selects RX6 yX6_pullOf yX6_pullOf, Cond.code yX6_pullOf cX6_pullOf 8 (some .int), Cond.methodLink RX6 80 yX6_spring, Cond.instanceMethod yX6_spring]
def wsX6_perform_r6 : List Cond := [Cond.selects RX6 yX6_spring yX6_spring, Cond.code yX6_spring cX6_spring 3 (some .int), Cond.methodLink RX6 100 yX6_move, Cond.instanceMethod yX6_move, Cond.selects RX6 yX6_move yX6_move, Cond.code yX6_move cX6_move 4 (some .int), Cond.methodLink RX6 83 yX6_size, Cond.static yX6_size, Cond.code yX6_size cX6_size 1 (some .int), Cond.methodLink RX6 122 yX6_looks, Cond.instanceMethod yX6_looks, Cond.selects RX6 yX6_looks yX6_looks, Cond.code yX6_looks cX6_looks 2 none, Cond.fieldLink RX6 17 "PlateSlabsModel" "ahead" "[I", Cond.fieldLink RX6 20 "PlateSlabsModel" "eAhead" "[J", Cond.methodLink RX6 192 yX6_looksBack, Cond.instanceMethod yX6_looksBack, Cond.selects RX6 yX6_looksBack yX6_looksBack, Cond.code yX6_looksBack cX6_looksBack 2 none, Cond.methodLink RX6 116 yX6_records, Cond.instanceMethod yX6_records, Cond.selects RX6 yX6_records yX6_records, Cond.code yX6_records cX6_records 2 none, Cond.fieldLink RX6 56 "PlateSlabsModel" "known" "I"]
def wsX6_perform_r7 : List Cond := [Cond.fieldLink RX6 29 "PlateSlabsModel" "before" "[I", Cond.fieldLink RX6 32 "PlateSlabsModel" "eBefore" "[J"]
def wsX6_perform : List Cond := .code yX6_perform cX6_perform 3 (some .int) :: ((wsX6_perform_r1 ++ (wsX6_perform_r2 ++ (wsX6_perform_r3 ++ (wsX6_perform_r4 ++ (wsX6_perform_r5 ++ (wsX6_perform_r6 ++ wsX6_perform_r7)))))) ++ wsX60)
def wsX6_stopped : List Cond := .code yX6_stopped cX6_stopped 2 (some .int) :: ([.fieldLink RX6 38 "PlateSlabsModel" "stopAt" "I", .fieldLink RX6 42 "PlateSlabsModel" "stopBy" "I"] ++ wsX60)
def wsX6_undo : List Cond := .code yX6_undo cX6_undo 2 (some .int) :: ([.fieldLink RX6 56 "PlateSlabsModel" "known" "I", .fieldLink RX6 7 "PlateSlabsModel" "s" "[I", .fieldLink RX6 29 "PlateSlabsModel" "before" "[I", .fieldLink RX6 13 "PlateSlabsModel" "e" "[J", .fieldLink RX6 32 "PlateSlabsModel" "eBefore" "[J"] ++ wsX60)
def wsX6_keep : List Cond := .code yX6_keep cX6_keep 2 (some .int) :: ([.fieldLink RX6 23 "PlateSlabsModel" "snapshot" "[I", .fieldLink RX6 7 "PlateSlabsModel" "s" "[I", .fieldLink RX6 26 "PlateSlabsModel" "eSnapshot" "[J", .fieldLink RX6 13 "PlateSlabsModel" "e" "[J", .fieldLink RX6 195 "PlateSlabsModel" "isKept" "Z"] ++ wsX60)
def wsX6_restore : List Cond := .code yX6_restore cX6_restore 2 (some .int) :: ([.fieldLink RX6 195 "PlateSlabsModel" "isKept" "Z", .fieldLink RX6 7 "PlateSlabsModel" "s" "[I", .fieldLink RX6 23 "PlateSlabsModel" "snapshot" "[I", .fieldLink RX6 13 "PlateSlabsModel" "e" "[J", .fieldLink RX6 26 "PlateSlabsModel" "eSnapshot" "[J", .methodLink RX6 122 yX6_looks, .instanceMethod yX6_looks, .selects RX6 yX6_looks yX6_looks, .initialized RX6, .code yX6_looks cX6_looks 2 none, .fieldLink RX6 17 "PlateSlabsModel" "ahead" "[I", .fieldLink RX6 20 "PlateSlabsModel" "eAhead" "[J", .methodLink RX6 116 yX6_records, .instanceMethod yX6_records, .selects RX6 yX6_records yX6_records, .code yX6_records cX6_records 2 none, .fieldLink RX6 56 "PlateSlabsModel" "known" "I", .fieldLink RX6 29 "PlateSlabsModel" "before" "[I", .fieldLink RX6 32 "PlateSlabsModel" "eBefore" "[J"] ++ wsX60)
def wsX6_pullNow_r1 : List Cond := [Cond.methodLink RX6 53 yX6_of, Cond.instanceMethod yX6_of, Cond.selects RX6 yX6_of yX6_of, Cond.initialized RX6, Cond.code yX6_of cX6_of 3 (some .int), Cond.fieldLink RX6 7 "PlateSlabsModel" "s" "[I", Cond.methodLink RX6 45 yX6_at, Cond.static yX6_at, Cond.code yX6_at cX6_at 2 (some .int), Cond.methodLink RX6 77 yX6_pullAt, Cond.instanceMethod yX6_pullAt, Cond.selects RX6 yX6_pullAt yX6_pullAt, Cond.code yX6_pullAt cX6_pullAt 4 (some .int), Cond.methodLink RX6 62 yX6_isOn, Cond.instanceMethod yX6_isOn, Cond.selects RX6 yX6_isOn yX6_isOn, Cond.code yX6_isOn cX6_isOn 2 (some .boolean), Cond.methodLink RX6 70 yX6_pullBy, Cond.instanceMethod yX6_pullBy, Cond.selects RX6 yX6_pullBy yX6_pullBy, Cond.code yX6_pullBy cX6_pullBy 3 (some .int), Cond.methodLink RX6 73 yX6_pullOf, Cond.instanceMethod yX6_pullOf, Cond.selects RX6 yX6_pullOf yX6_pullOf]
def wsX6_pullNow_r2 : List Cond := [Cond.code yX6_pullOf cX6_pullOf 8 (some .int), Cond.methodLink RX6 59 yX6_capacity, Cond.instanceMethod yX6_capacity, Cond.selects RX6 yX6_capacity yX6_capacity, Cond.code yX6_capacity cX6_capacity 3 (some .int)]
def wsX6_pullNow : List Cond := .code yX6_pullNow cX6_pullNow 2 (some .int) :: ((wsX6_pullNow_r1 ++ wsX6_pullNow_r2) ++ wsX60)
def wsX6_pair_r1 : List Cond := [Cond.methodLink RX6 119 yX6_isPair, Cond.static yX6_isPair, Cond.initialized RX6, Cond.code yX6_isPair cX6_isPair 1 (some .boolean), Cond.methodLink RX6 49 yX6_in, Cond.static yX6_in, Cond.code yX6_in cX6_in 3 (some .boolean), Cond.methodLink RX6 66 yX6_capacityNow, Cond.instanceMethod yX6_capacityNow, Cond.selects RX6 yX6_capacityNow yX6_capacityNow, Cond.code yX6_capacityNow cX6_capacityNow 2 (some .int), Cond.methodLink RX6 53 yX6_of, Cond.instanceMethod yX6_of, Cond.selects RX6 yX6_of yX6_of, Cond.code yX6_of cX6_of 3 (some .int), Cond.fieldLink RX6 7 "PlateSlabsModel" "s" "[I", Cond.methodLink RX6 45 yX6_at, Cond.static yX6_at, Cond.code yX6_at cX6_at 2 (some .int), Cond.methodLink RX6 59 yX6_capacity, Cond.instanceMethod yX6_capacity, Cond.selects RX6 yX6_capacity yX6_capacity, Cond.code yX6_capacity cX6_capacity 3 (some .int), Cond.methodLink RX6 198 yX6_pullNow]
def wsX6_pair_r2 : List Cond := [Cond.instanceMethod yX6_pullNow, Cond.selects RX6 yX6_pullNow yX6_pullNow, Cond.code yX6_pullNow cX6_pullNow 2 (some .int), Cond.methodLink RX6 77 yX6_pullAt, Cond.instanceMethod yX6_pullAt, Cond.selects RX6 yX6_pullAt yX6_pullAt, Cond.code yX6_pullAt cX6_pullAt 4 (some .int), Cond.methodLink RX6 62 yX6_isOn, Cond.instanceMethod yX6_isOn, Cond.selects RX6 yX6_isOn yX6_isOn, Cond.code yX6_isOn cX6_isOn 2 (some .boolean), Cond.methodLink RX6 70 yX6_pullBy, Cond.instanceMethod yX6_pullBy, Cond.selects RX6 yX6_pullBy yX6_pullBy, Cond.code yX6_pullBy cX6_pullBy 3 (some .int), Cond.methodLink RX6 73 yX6_pullOf, Cond.instanceMethod yX6_pullOf, Cond.selects RX6 yX6_pullOf yX6_pullOf, Cond.code yX6_pullOf cX6_pullOf 8 (some .int), Cond.methodLink RX6 80 yX6_spring, Cond.instanceMethod yX6_spring, Cond.selects RX6 yX6_spring yX6_spring, Cond.code yX6_spring cX6_spring 3 (some .int), Cond.methodLink RX6 83 yX6_size]
def wsX6_pair_r3 : List Cond := [Cond.static yX6_size, Cond.code yX6_size cX6_size 1 (some .int)]
def wsX6_pair : List Cond := .code yX6_pair cX6_pair 3 (some .int) :: ((wsX6_pair_r1 ++ (wsX6_pair_r2 ++ wsX6_pair_r3)) ++ wsX60)
def wsX6_book_r1 : List Cond := [Cond.constantLong RX6 201 (-1), Cond.fieldLink RX6 13 "PlateSlabsModel" "e" "[J", Cond.constantLong RX6 203 (-2), Cond.methodLink RX6 119 yX6_isPair, Cond.static yX6_isPair, Cond.initialized RX6, Cond.code yX6_isPair cX6_isPair 1 (some .boolean), Cond.methodLink RX6 49 yX6_in, Cond.static yX6_in, Cond.code yX6_in cX6_in 3 (some .boolean), Cond.methodLink RX6 90 yX6_stored, Cond.instanceMethod yX6_stored, Cond.selects RX6 yX6_stored yX6_stored, Cond.code yX6_stored cX6_stored 4 (some .long), Cond.methodLink RX6 53 yX6_of, Cond.instanceMethod yX6_of, Cond.selects RX6 yX6_of yX6_of, Cond.code yX6_of cX6_of 3 (some .int), Cond.fieldLink RX6 7 "PlateSlabsModel" "s" "[I", Cond.methodLink RX6 45 yX6_at, Cond.static yX6_at, Cond.code yX6_at cX6_at 2 (some .int), Cond.methodLink RX6 62 yX6_isOn, Cond.instanceMethod yX6_isOn]
def wsX6_book_r2 : List Cond := [Cond.selects RX6 yX6_isOn yX6_isOn, Cond.code yX6_isOn cX6_isOn 2 (some .boolean), Cond.methodLink RX6 66 yX6_capacityNow, Cond.instanceMethod yX6_capacityNow, Cond.selects RX6 yX6_capacityNow yX6_capacityNow, Cond.code yX6_capacityNow cX6_capacityNow 2 (some .int), Cond.methodLink RX6 59 yX6_capacity, Cond.instanceMethod yX6_capacity, Cond.selects RX6 yX6_capacity yX6_capacity, Cond.code yX6_capacity cX6_capacity 3 (some .int)]
def wsX6_book : List Cond := .code yX6_book cX6_book 3 (some .long) :: ((wsX6_book_r1 ++ wsX6_book_r2) ++ wsX60)
def wsX6_why_r1 : List Cond := [Cond.methodLink RX6 97 yX6_net, Cond.instanceMethod yX6_net, Cond.selects RX6 yX6_net yX6_net, Cond.initialized RX6, Cond.code yX6_net cX6_net 2 (some .int), Cond.methodLink RX6 53 yX6_of, Cond.instanceMethod yX6_of, Cond.selects RX6 yX6_of yX6_of, Cond.code yX6_of cX6_of 3 (some .int), Cond.fieldLink RX6 7 "PlateSlabsModel" "s" "[I", Cond.methodLink RX6 45 yX6_at, Cond.static yX6_at, Cond.code yX6_at cX6_at 2 (some .int), Cond.methodLink RX6 77 yX6_pullAt, Cond.instanceMethod yX6_pullAt, Cond.selects RX6 yX6_pullAt yX6_pullAt, Cond.code yX6_pullAt cX6_pullAt 4 (some .int), Cond.methodLink RX6 62 yX6_isOn, Cond.instanceMethod yX6_isOn, Cond.selects RX6 yX6_isOn yX6_isOn, Cond.code yX6_isOn cX6_isOn 2 (some .boolean), Cond.methodLink RX6 70 yX6_pullBy, Cond.instanceMethod yX6_pullBy, Cond.selects RX6 yX6_pullBy yX6_pullBy]
def wsX6_why_r2 : List Cond := [Cond.code yX6_pullBy cX6_pullBy 3 (some .int), Cond.methodLink RX6 73 yX6_pullOf, Cond.instanceMethod yX6_pullOf, Cond.selects RX6 yX6_pullOf yX6_pullOf, Cond.code yX6_pullOf cX6_pullOf 8 (some .int), Cond.methodLink RX6 59 yX6_capacity, Cond.instanceMethod yX6_capacity, Cond.selects RX6 yX6_capacity yX6_capacity, Cond.code yX6_capacity cX6_capacity 3 (some .int), Cond.methodLink RX6 80 yX6_spring, Cond.instanceMethod yX6_spring, Cond.selects RX6 yX6_spring yX6_spring, Cond.code yX6_spring cX6_spring 3 (some .int), Cond.methodLink RX6 100 yX6_move, Cond.instanceMethod yX6_move, Cond.selects RX6 yX6_move yX6_move, Cond.code yX6_move cX6_move 4 (some .int), Cond.methodLink RX6 83 yX6_size, Cond.static yX6_size, Cond.code yX6_size cX6_size 1 (some .int)]
def wsX6_why : List Cond := .code yX6_why cX6_why 4 (some .int) :: ((wsX6_why_r1 ++ wsX6_why_r2) ++ wsX60)
def wsX6_reason_r1 : List Cond := [Cond.methodLink RX6 119 yX6_isPair, Cond.static yX6_isPair, Cond.initialized RX6, Cond.code yX6_isPair cX6_isPair 1 (some .boolean), Cond.methodLink RX6 49 yX6_in, Cond.static yX6_in, Cond.code yX6_in cX6_in 3 (some .boolean), Cond.methodLink RX6 205 yX6_why, Cond.instanceMethod yX6_why, Cond.selects RX6 yX6_why yX6_why, Cond.code yX6_why cX6_why 4 (some .int), Cond.methodLink RX6 97 yX6_net, Cond.instanceMethod yX6_net, Cond.selects RX6 yX6_net yX6_net, Cond.code yX6_net cX6_net 2 (some .int), Cond.methodLink RX6 53 yX6_of, Cond.instanceMethod yX6_of, Cond.selects RX6 yX6_of yX6_of, Cond.code yX6_of cX6_of 3 (some .int), Cond.fieldLink RX6 7 "PlateSlabsModel" "s" "[I", Cond.methodLink RX6 45 yX6_at, Cond.static yX6_at, Cond.code yX6_at cX6_at 2 (some .int), Cond.methodLink RX6 77 yX6_pullAt]
def wsX6_reason_r2 : List Cond := [Cond.instanceMethod yX6_pullAt, Cond.selects RX6 yX6_pullAt yX6_pullAt, Cond.code yX6_pullAt cX6_pullAt 4 (some .int), Cond.methodLink RX6 62 yX6_isOn, Cond.instanceMethod yX6_isOn, Cond.selects RX6 yX6_isOn yX6_isOn, Cond.code yX6_isOn cX6_isOn 2 (some .boolean), Cond.methodLink RX6 70 yX6_pullBy, Cond.instanceMethod yX6_pullBy, Cond.selects RX6 yX6_pullBy yX6_pullBy, Cond.code yX6_pullBy cX6_pullBy 3 (some .int), Cond.methodLink RX6 73 yX6_pullOf, Cond.instanceMethod yX6_pullOf, Cond.selects RX6 yX6_pullOf yX6_pullOf, Cond.code yX6_pullOf cX6_pullOf 8 (some .int), Cond.methodLink RX6 59 yX6_capacity, Cond.instanceMethod yX6_capacity, Cond.selects RX6 yX6_capacity yX6_capacity, Cond.code yX6_capacity cX6_capacity 3 (some .int), Cond.methodLink RX6 80 yX6_spring, Cond.instanceMethod yX6_spring, Cond.selects RX6 yX6_spring yX6_spring, Cond.code yX6_spring cX6_spring 3 (some .int), Cond.methodLink RX6 100 yX6_move]
def wsX6_reason_r3 : List Cond := [Cond.instanceMethod yX6_move, Cond.selects RX6 yX6_move yX6_move, Cond.code yX6_move cX6_move 4 (some .int), Cond.methodLink RX6 83 yX6_size, Cond.static yX6_size, Cond.code yX6_size cX6_size 1 (some .int)]
def wsX6_reason : List Cond := .code yX6_reason cX6_reason 2 (some .int) :: ((wsX6_reason_r1 ++ (wsX6_reason_r2 ++ wsX6_reason_r3)) ++ wsX60)
def wsX6_force_r1 : List Cond := [Cond.methodLink RX6 119 yX6_isPair, Cond.static yX6_isPair, Cond.initialized RX6, Cond.code yX6_isPair cX6_isPair 1 (some .boolean), Cond.methodLink RX6 49 yX6_in, Cond.static yX6_in, Cond.code yX6_in cX6_in 3 (some .boolean), Cond.methodLink RX6 53 yX6_of, Cond.instanceMethod yX6_of, Cond.selects RX6 yX6_of yX6_of, Cond.code yX6_of cX6_of 3 (some .int), Cond.fieldLink RX6 7 "PlateSlabsModel" "s" "[I", Cond.methodLink RX6 45 yX6_at, Cond.static yX6_at, Cond.code yX6_at cX6_at 2 (some .int), Cond.methodLink RX6 77 yX6_pullAt, Cond.instanceMethod yX6_pullAt, Cond.selects RX6 yX6_pullAt yX6_pullAt, Cond.code yX6_pullAt cX6_pullAt 4 (some .int), Cond.methodLink RX6 62 yX6_isOn, Cond.instanceMethod yX6_isOn, Cond.selects RX6 yX6_isOn yX6_isOn, Cond.code yX6_isOn cX6_isOn 2 (some .boolean), Cond.methodLink RX6 70 yX6_pullBy]
def wsX6_force_r2 : List Cond := [Cond.instanceMethod yX6_pullBy, Cond.selects RX6 yX6_pullBy yX6_pullBy, Cond.code yX6_pullBy cX6_pullBy 3 (some .int), Cond.methodLink RX6 73 yX6_pullOf, Cond.instanceMethod yX6_pullOf, Cond.selects RX6 yX6_pullOf yX6_pullOf, Cond.code yX6_pullOf cX6_pullOf 8 (some .int), Cond.methodLink RX6 59 yX6_capacity, Cond.instanceMethod yX6_capacity, Cond.selects RX6 yX6_capacity yX6_capacity, Cond.code yX6_capacity cX6_capacity 3 (some .int), Cond.methodLink RX6 80 yX6_spring, Cond.instanceMethod yX6_spring, Cond.selects RX6 yX6_spring yX6_spring, Cond.code yX6_spring cX6_spring 3 (some .int), Cond.methodLink RX6 83 yX6_size, Cond.static yX6_size, Cond.code yX6_size cX6_size 1 (some .int)]
def wsX6_force : List Cond := .code yX6_force cX6_force 3 (some .int) :: ((wsX6_force_r1 ++ wsX6_force_r2) ++ wsX60)
def wsX6_goes_r1 : List Cond := [Cond.fieldLink RX6 208 "PlateSlabsModel" "leftOver" "I", Cond.fieldLink RX6 211 "PlateSlabsModel" "goneTo" "I", Cond.methodLink RX6 62 yX6_isOn, Cond.instanceMethod yX6_isOn, Cond.selects RX6 yX6_isOn yX6_isOn, Cond.initialized RX6, Cond.code yX6_isOn cX6_isOn 2 (some .boolean), Cond.methodLink RX6 53 yX6_of, Cond.instanceMethod yX6_of, Cond.selects RX6 yX6_of yX6_of, Cond.code yX6_of cX6_of 3 (some .int), Cond.fieldLink RX6 7 "PlateSlabsModel" "s" "[I", Cond.methodLink RX6 45 yX6_at, Cond.static yX6_at, Cond.code yX6_at cX6_at 2 (some .int), Cond.methodLink RX6 94 yX6_leak, Cond.instanceMethod yX6_leak, Cond.selects RX6 yX6_leak yX6_leak, Cond.code yX6_leak cX6_leak 3 (some .int), Cond.constantLong RX6 86 (1000), Cond.methodLink RX6 77 yX6_pullAt, Cond.instanceMethod yX6_pullAt, Cond.selects RX6 yX6_pullAt yX6_pullAt, Cond.code yX6_pullAt cX6_pullAt 4 (some .int)]
def wsX6_goes_r2 : List Cond := [Cond.methodLink RX6 70 yX6_pullBy, Cond.instanceMethod yX6_pullBy, Cond.selects RX6 yX6_pullBy yX6_pullBy, Cond.code yX6_pullBy cX6_pullBy 3 (some .int), Cond.methodLink RX6 73 yX6_pullOf, Cond.instanceMethod yX6_pullOf, Cond.selects RX6 yX6_pullOf yX6_pullOf, Cond.code yX6_pullOf cX6_pullOf 8 (some .int), Cond.methodLink RX6 59 yX6_capacity, Cond.instanceMethod yX6_capacity, Cond.selects RX6 yX6_capacity yX6_capacity, Cond.code yX6_capacity cX6_capacity 3 (some .int), Cond.methodLink RX6 80 yX6_spring, Cond.instanceMethod yX6_spring, Cond.selects RX6 yX6_spring yX6_spring, Cond.code yX6_spring cX6_spring 3 (some .int), Cond.methodLink RX6 100 yX6_move, Cond.instanceMethod yX6_move, Cond.selects RX6 yX6_move yX6_move, Cond.code yX6_move cX6_move 4 (some .int), Cond.methodLink RX6 83 yX6_size, Cond.static yX6_size, Cond.code yX6_size cX6_size 1 (some .int)]
def wsX6_goes : List Cond := .code yX6_goes cX6_goes 3 (some .int) :: ((wsX6_goes_r1 ++ wsX6_goes_r2) ++ wsX60)
def wsX6_sets : List Cond := .code yX6_sets cX6_sets 2 none :: ([.fieldLink RX6 211 "PlateSlabsModel" "goneTo" "I", .fieldLink RX6 208 "PlateSlabsModel" "leftOver" "I", .methodLink RX6 53 yX6_of, .instanceMethod yX6_of, .selects RX6 yX6_of yX6_of, .initialized RX6, .code yX6_of cX6_of 3 (some .int), .fieldLink RX6 7 "PlateSlabsModel" "s" "[I", .methodLink RX6 45 yX6_at, .static yX6_at, .code yX6_at cX6_at 2 (some .int)] ++ wsX60)
def wsX6_restsIn_r1 : List Cond := [Cond.methodLink RX6 119 yX6_isPair, Cond.static yX6_isPair, Cond.initialized RX6, Cond.code yX6_isPair cX6_isPair 1 (some .boolean), Cond.methodLink RX6 49 yX6_in, Cond.static yX6_in, Cond.code yX6_in cX6_in 3 (some .boolean), Cond.methodLink RX6 214 yX6_sets, Cond.instanceMethod yX6_sets, Cond.selects RX6 yX6_sets yX6_sets, Cond.code yX6_sets cX6_sets 2 none, Cond.fieldLink RX6 211 "PlateSlabsModel" "goneTo" "I", Cond.fieldLink RX6 208 "PlateSlabsModel" "leftOver" "I", Cond.methodLink RX6 53 yX6_of, Cond.instanceMethod yX6_of, Cond.selects RX6 yX6_of yX6_of, Cond.code yX6_of cX6_of 3 (some .int), Cond.fieldLink RX6 7 "PlateSlabsModel" "s" "[I", Cond.methodLink RX6 45 yX6_at, Cond.static yX6_at, Cond.code yX6_at cX6_at 2 (some .int), Cond.methodLink RX6 217 yX6_goes, Cond.instanceMethod yX6_goes, Cond.selects RX6 yX6_goes yX6_goes]
def wsX6_restsIn_r2 : List Cond := [Cond.code yX6_goes cX6_goes 3 (some .int), Cond.methodLink RX6 62 yX6_isOn, Cond.instanceMethod yX6_isOn, Cond.selects RX6 yX6_isOn yX6_isOn, Cond.code yX6_isOn cX6_isOn 2 (some .boolean), Cond.methodLink RX6 94 yX6_leak, Cond.instanceMethod yX6_leak, Cond.selects RX6 yX6_leak yX6_leak, Cond.code yX6_leak cX6_leak 3 (some .int), Cond.constantLong RX6 86 (1000), Cond.methodLink RX6 77 yX6_pullAt, Cond.instanceMethod yX6_pullAt, Cond.selects RX6 yX6_pullAt yX6_pullAt, Cond.code yX6_pullAt cX6_pullAt 4 (some .int), Cond.methodLink RX6 70 yX6_pullBy, Cond.instanceMethod yX6_pullBy, Cond.selects RX6 yX6_pullBy yX6_pullBy, Cond.code yX6_pullBy cX6_pullBy 3 (some .int), Cond.methodLink RX6 73 yX6_pullOf, Cond.instanceMethod yX6_pullOf, Cond.selects RX6 yX6_pullOf yX6_pullOf, Cond.code yX6_pullOf cX6_pullOf 8 (some .int), Cond.methodLink RX6 59 yX6_capacity, Cond.instanceMethod yX6_capacity]
def wsX6_restsIn_r3 : List Cond := [Cond.selects RX6 yX6_capacity yX6_capacity, Cond.code yX6_capacity cX6_capacity 3 (some .int), Cond.methodLink RX6 80 yX6_spring, Cond.instanceMethod yX6_spring, Cond.selects RX6 yX6_spring yX6_spring, Cond.code yX6_spring cX6_spring 3 (some .int), Cond.methodLink RX6 100 yX6_move, Cond.instanceMethod yX6_move, Cond.selects RX6 yX6_move yX6_move, Cond.code yX6_move cX6_move 4 (some .int), Cond.methodLink RX6 83 yX6_size, Cond.static yX6_size, Cond.code yX6_size cX6_size 1 (some .int)]
def wsX6_restsIn : List Cond := .code yX6_restsIn cX6_restsIn 3 (some .int) :: ((wsX6_restsIn_r1 ++ (wsX6_restsIn_r2 ++ wsX6_restsIn_r3)) ++ wsX60)
def wsX6_depthIn_r1 : List Cond := [Cond.fieldLink RX6 211 "PlateSlabsModel" "goneTo" "I", Cond.methodLink RX6 119 yX6_isPair, Cond.static yX6_isPair, Cond.initialized RX6, Cond.code yX6_isPair cX6_isPair 1 (some .boolean), Cond.methodLink RX6 49 yX6_in, Cond.static yX6_in, Cond.code yX6_in cX6_in 3 (some .boolean), Cond.methodLink RX6 214 yX6_sets, Cond.instanceMethod yX6_sets, Cond.selects RX6 yX6_sets yX6_sets, Cond.code yX6_sets cX6_sets 2 none, Cond.fieldLink RX6 208 "PlateSlabsModel" "leftOver" "I", Cond.methodLink RX6 53 yX6_of, Cond.instanceMethod yX6_of, Cond.selects RX6 yX6_of yX6_of, Cond.code yX6_of cX6_of 3 (some .int), Cond.fieldLink RX6 7 "PlateSlabsModel" "s" "[I", Cond.methodLink RX6 45 yX6_at, Cond.static yX6_at, Cond.code yX6_at cX6_at 2 (some .int), Cond.methodLink RX6 217 yX6_goes, Cond.instanceMethod yX6_goes, Cond.selects RX6 yX6_goes yX6_goes]
def wsX6_depthIn_r2 : List Cond := [Cond.code yX6_goes cX6_goes 3 (some .int), Cond.methodLink RX6 62 yX6_isOn, Cond.instanceMethod yX6_isOn, Cond.selects RX6 yX6_isOn yX6_isOn, Cond.code yX6_isOn cX6_isOn 2 (some .boolean), Cond.methodLink RX6 94 yX6_leak, Cond.instanceMethod yX6_leak, Cond.selects RX6 yX6_leak yX6_leak, Cond.code yX6_leak cX6_leak 3 (some .int), Cond.constantLong RX6 86 (1000), Cond.methodLink RX6 77 yX6_pullAt, Cond.instanceMethod yX6_pullAt, Cond.selects RX6 yX6_pullAt yX6_pullAt, Cond.code yX6_pullAt cX6_pullAt 4 (some .int), Cond.methodLink RX6 70 yX6_pullBy, Cond.instanceMethod yX6_pullBy, Cond.selects RX6 yX6_pullBy yX6_pullBy, Cond.code yX6_pullBy cX6_pullBy 3 (some .int), Cond.methodLink RX6 73 yX6_pullOf, Cond.instanceMethod yX6_pullOf, Cond.selects RX6 yX6_pullOf yX6_pullOf, Cond.code yX6_pullOf cX6_pullOf 8 (some .int), Cond.methodLink RX6 59 yX6_capacity, Cond.instanceMethod yX6_capacity]
def wsX6_depthIn_r3 : List Cond := [Cond.selects RX6 yX6_capacity yX6_capacity, Cond.code yX6_capacity cX6_capacity 3 (some .int), Cond.methodLink RX6 80 yX6_spring, Cond.instanceMethod yX6_spring, Cond.selects RX6 yX6_spring yX6_spring, Cond.code yX6_spring cX6_spring 3 (some .int), Cond.methodLink RX6 100 yX6_move, Cond.instanceMethod yX6_move, Cond.selects RX6 yX6_move yX6_move, Cond.code yX6_move cX6_move 4 (some .int), Cond.methodLink RX6 83 yX6_size, Cond.static yX6_size, Cond.code yX6_size cX6_size 1 (some .int)]
def wsX6_depthIn : List Cond := .code yX6_depthIn cX6_depthIn 5 (some .int) :: ((wsX6_depthIn_r1 ++ (wsX6_depthIn_r2 ++ wsX6_depthIn_r3)) ++ wsX60)
def wsX6_leastVoltage_r1 : List Cond := [Cond.methodLink RX6 119 yX6_isPair, Cond.static yX6_isPair, Cond.initialized RX6, Cond.code yX6_isPair cX6_isPair 1 (some .boolean), Cond.methodLink RX6 49 yX6_in, Cond.static yX6_in, Cond.code yX6_in cX6_in 3 (some .boolean), Cond.methodLink RX6 53 yX6_of, Cond.instanceMethod yX6_of, Cond.selects RX6 yX6_of yX6_of, Cond.code yX6_of cX6_of 3 (some .int), Cond.fieldLink RX6 7 "PlateSlabsModel" "s" "[I", Cond.methodLink RX6 45 yX6_at, Cond.static yX6_at, Cond.code yX6_at cX6_at 2 (some .int), Cond.methodLink RX6 70 yX6_pullBy, Cond.instanceMethod yX6_pullBy, Cond.selects RX6 yX6_pullBy yX6_pullBy, Cond.code yX6_pullBy cX6_pullBy 3 (some .int), Cond.methodLink RX6 80 yX6_spring, Cond.instanceMethod yX6_spring, Cond.selects RX6 yX6_spring yX6_spring, Cond.code yX6_spring cX6_spring 3 (some .int), Cond.methodLink RX6 100 yX6_move]
def wsX6_leastVoltage_r2 : List Cond := [Cond.instanceMethod yX6_move, Cond.selects RX6 yX6_move yX6_move, Cond.code yX6_move cX6_move 4 (some .int), Cond.methodLink RX6 83 yX6_size, Cond.static yX6_size, Cond.code yX6_size cX6_size 1 (some .int)]
def wsX6_leastVoltage : List Cond := .code yX6_leastVoltage cX6_leastVoltage 4 (some .int) :: ((wsX6_leastVoltage_r1 ++ wsX6_leastVoltage_r2) ++ wsX60)
def wsX6_isDrawn : List Cond := .code yX6_isDrawn cX6_isDrawn 4 (some .boolean) :: ([.methodLink RX6 53 yX6_of, .instanceMethod yX6_of, .selects RX6 yX6_of yX6_of, .initialized RX6, .code yX6_of cX6_of 3 (some .int), .fieldLink RX6 7 "PlateSlabsModel" "s" "[I", .methodLink RX6 45 yX6_at, .static yX6_at, .code yX6_at cX6_at 2 (some .int), .methodLink RX6 70 yX6_pullBy, .instanceMethod yX6_pullBy, .selects RX6 yX6_pullBy yX6_pullBy, .code yX6_pullBy cX6_pullBy 3 (some .int), .methodLink RX6 80 yX6_spring, .instanceMethod yX6_spring, .selects RX6 yX6_spring yX6_spring, .code yX6_spring cX6_spring 3 (some .int), .methodLink RX6 100 yX6_move, .instanceMethod yX6_move, .selects RX6 yX6_move yX6_move, .code yX6_move cX6_move 4 (some .int), .methodLink RX6 83 yX6_size, .static yX6_size, .code yX6_size cX6_size 1 (some .int)] ++ wsX60)
def wsX6_drawingVoltage_r1 : List Cond := [Cond.methodLink RX6 119 yX6_isPair, Cond.static yX6_isPair, Cond.initialized RX6, Cond.code yX6_isPair cX6_isPair 1 (some .boolean), Cond.methodLink RX6 49 yX6_in, Cond.static yX6_in, Cond.code yX6_in cX6_in 3 (some .boolean), Cond.methodLink RX6 220 yX6_isDrawn, Cond.instanceMethod yX6_isDrawn, Cond.selects RX6 yX6_isDrawn yX6_isDrawn, Cond.code yX6_isDrawn cX6_isDrawn 4 (some .boolean), Cond.methodLink RX6 53 yX6_of, Cond.instanceMethod yX6_of, Cond.selects RX6 yX6_of yX6_of, Cond.code yX6_of cX6_of 3 (some .int), Cond.fieldLink RX6 7 "PlateSlabsModel" "s" "[I", Cond.methodLink RX6 45 yX6_at, Cond.static yX6_at, Cond.code yX6_at cX6_at 2 (some .int), Cond.methodLink RX6 70 yX6_pullBy, Cond.instanceMethod yX6_pullBy, Cond.selects RX6 yX6_pullBy yX6_pullBy, Cond.code yX6_pullBy cX6_pullBy 3 (some .int), Cond.methodLink RX6 80 yX6_spring]
def wsX6_drawingVoltage_r2 : List Cond := [Cond.instanceMethod yX6_spring, Cond.selects RX6 yX6_spring yX6_spring, Cond.code yX6_spring cX6_spring 3 (some .int), Cond.methodLink RX6 100 yX6_move, Cond.instanceMethod yX6_move, Cond.selects RX6 yX6_move yX6_move, Cond.code yX6_move cX6_move 4 (some .int), Cond.methodLink RX6 83 yX6_size, Cond.static yX6_size, Cond.code yX6_size cX6_size 1 (some .int)]
def wsX6_drawingVoltage : List Cond := .code yX6_drawingVoltage cX6_drawingVoltage 3 (some .int) :: ((wsX6_drawingVoltage_r1 ++ wsX6_drawingVoltage_r2) ++ wsX60)
def wsX6_strongest_r1 : List Cond := [Cond.methodLink RX6 198 yX6_pullNow, Cond.instanceMethod yX6_pullNow, Cond.selects RX6 yX6_pullNow yX6_pullNow, Cond.initialized RX6, Cond.code yX6_pullNow cX6_pullNow 2 (some .int), Cond.methodLink RX6 53 yX6_of, Cond.instanceMethod yX6_of, Cond.selects RX6 yX6_of yX6_of, Cond.code yX6_of cX6_of 3 (some .int), Cond.fieldLink RX6 7 "PlateSlabsModel" "s" "[I", Cond.methodLink RX6 45 yX6_at, Cond.static yX6_at, Cond.code yX6_at cX6_at 2 (some .int), Cond.methodLink RX6 77 yX6_pullAt, Cond.instanceMethod yX6_pullAt, Cond.selects RX6 yX6_pullAt yX6_pullAt, Cond.code yX6_pullAt cX6_pullAt 4 (some .int), Cond.methodLink RX6 62 yX6_isOn, Cond.instanceMethod yX6_isOn, Cond.selects RX6 yX6_isOn yX6_isOn, Cond.code yX6_isOn cX6_isOn 2 (some .boolean), Cond.methodLink RX6 70 yX6_pullBy, Cond.instanceMethod yX6_pullBy, Cond.selects RX6 yX6_pullBy yX6_pullBy]
def wsX6_strongest_r2 : List Cond := [Cond.code yX6_pullBy cX6_pullBy 3 (some .int), Cond.methodLink RX6 73 yX6_pullOf, Cond.instanceMethod yX6_pullOf, Cond.selects RX6 yX6_pullOf yX6_pullOf, Cond.code yX6_pullOf cX6_pullOf 8 (some .int), Cond.methodLink RX6 59 yX6_capacity, Cond.instanceMethod yX6_capacity, Cond.selects RX6 yX6_capacity yX6_capacity, Cond.code yX6_capacity cX6_capacity 3 (some .int)]
def wsX6_strongest : List Cond := .code yX6_strongest cX6_strongest 3 (some .int) :: ((wsX6_strongest_r1 ++ wsX6_strongest_r2) ++ wsX60)
def wsX6_count_r1 : List Cond := [Cond.fieldLink RX6 7 "PlateSlabsModel" "s" "[I", Cond.fieldLink RX6 56 "PlateSlabsModel" "known" "I", Cond.fieldLink RX6 149 "PlateSlabsModel" "length" "I", Cond.methodLink RX6 53 yX6_of, Cond.instanceMethod yX6_of, Cond.selects RX6 yX6_of yX6_of, Cond.initialized RX6, Cond.code yX6_of cX6_of 3 (some .int), Cond.methodLink RX6 45 yX6_at, Cond.static yX6_at, Cond.code yX6_at cX6_at 2 (some .int), Cond.methodLink RX6 205 yX6_why, Cond.instanceMethod yX6_why, Cond.selects RX6 yX6_why yX6_why, Cond.code yX6_why cX6_why 4 (some .int), Cond.methodLink RX6 97 yX6_net, Cond.instanceMethod yX6_net, Cond.selects RX6 yX6_net yX6_net, Cond.code yX6_net cX6_net 2 (some .int), Cond.methodLink RX6 77 yX6_pullAt, Cond.instanceMethod yX6_pullAt, Cond.selects RX6 yX6_pullAt yX6_pullAt, Cond.code yX6_pullAt cX6_pullAt 4 (some .int), Cond.methodLink RX6 62 yX6_isOn]
def wsX6_count_r2 : List Cond := [Cond.instanceMethod yX6_isOn, Cond.selects RX6 yX6_isOn yX6_isOn, Cond.code yX6_isOn cX6_isOn 2 (some .boolean), Cond.methodLink RX6 70 yX6_pullBy, Cond.instanceMethod yX6_pullBy, Cond.selects RX6 yX6_pullBy yX6_pullBy, Cond.code yX6_pullBy cX6_pullBy 3 (some .int), Cond.methodLink RX6 73 yX6_pullOf, Cond.instanceMethod yX6_pullOf, Cond.selects RX6 yX6_pullOf yX6_pullOf, Cond.code yX6_pullOf cX6_pullOf 8 (some .int), Cond.methodLink RX6 59 yX6_capacity, Cond.instanceMethod yX6_capacity, Cond.selects RX6 yX6_capacity yX6_capacity, Cond.code yX6_capacity cX6_capacity 3 (some .int), Cond.methodLink RX6 80 yX6_spring, Cond.instanceMethod yX6_spring, Cond.selects RX6 yX6_spring yX6_spring, Cond.code yX6_spring cX6_spring 3 (some .int), Cond.methodLink RX6 100 yX6_move, Cond.instanceMethod yX6_move, Cond.selects RX6 yX6_move yX6_move, Cond.code yX6_move cX6_move 4 (some .int), Cond.methodLink RX6 83 yX6_size]
def wsX6_count_r3 : List Cond := [Cond.static yX6_size, Cond.code yX6_size cX6_size 1 (some .int), Cond.methodLink RX6 66 yX6_capacityNow, Cond.instanceMethod yX6_capacityNow, Cond.selects RX6 yX6_capacityNow yX6_capacityNow, Cond.code yX6_capacityNow cX6_capacityNow 2 (some .int)]
def wsX6_count : List Cond := .code yX6_count cX6_count 4 (some .int) :: ((wsX6_count_r1 ++ (wsX6_count_r2 ++ wsX6_count_r3)) ++ wsX60)
def wsJ9_abs_0f7a4 : List Cond := .code yJ9_abs_0f7a4 cJ9_abs_0f7a4 1 (some .int) :: ([])
def wsL_law_r1 : List Cond := [Cond.classLink RL 7 RX5, Cond.instantiable RX5 10, Cond.initialized RX5, Cond.classLink RL 10 RX6, Cond.instantiable RX6 22, Cond.initialized RX6, Cond.methodLink RL 9 yX5_init, Cond.instanceMethod yX5_init, Cond.code yX5_init cX5_init 1 none, Cond.methodLink RX5 1 objectInit, Cond.instanceMethod objectInit, Cond.code objectInit ⟨#[0xb1]⟩ 1 none, Cond.classLink RX5 7 RX2, Cond.instantiable RX2 4, Cond.initialized RX2, Cond.fieldLink RX5 10 "PlateSlabs" "now" "LPlateSlabs$State;", Cond.fieldLink RX5 16 "PlateSlabs" "before" "LPlateSlabs$State;", Cond.fieldLink RX5 19 "PlateSlabs" "snapshot" "LPlateSlabs$State;", Cond.classLink RX5 22 RX0, Cond.instantiable RX0 2, Cond.initialized RX0, Cond.fieldLink RX5 25 "PlateSlabs" "history" "LPlateSlabs$History;", Cond.classLink RX5 29 RX1, Cond.instantiable RX1 8]
def wsL_law_r2 : List Cond := [Cond.initialized RX1, Cond.fieldLink RX5 32 "PlateSlabs" "guess" "LPlateSlabs$Plates;", Cond.classLink RX5 36 RX4, Cond.instantiable RX4 8, Cond.initialized RX4, Cond.fieldLink RX5 39 "PlateSlabs" "trial" "LPlateSlabs$Trial;", Cond.methodLink RX5 9 yX2_init, Cond.instanceMethod yX2_init, Cond.code yX2_init cX2_init 2 none, Cond.methodLink RX2 3 objectInit, Cond.classLink RX2 9 RX1, Cond.fieldLink RX2 11 "PlateSlabs$State" "pairs" "[LPlateSlabs$Plates;", Cond.instanceMethod yX1_init, Cond.code yX1_init cX1_init 1 none, Cond.methodLink RX1 3 objectInit, Cond.arrayClass .int, Cond.fieldLink RX1 9 "PlateSlabs$Plates" "settings" "[I", Cond.fieldLink RX1 15 "PlateSlabs$Plates" "voltage" "I", Cond.methodLink RX5 24 yX0_init, Cond.instanceMethod yX0_init, Cond.code yX0_init cX0_init 2 none, Cond.methodLink RX0 3 objectInit, Cond.classLink RX0 9 RX2, Cond.fieldLink RX0 11 "PlateSlabs$History" "states" "[LPlateSlabs$State;"]
def wsL_law_r3 : List Cond := [Cond.methodLink RX0 17 yX2_init, Cond.instanceMethod yX4_init, Cond.code yX4_init cX4_init 1 none, Cond.methodLink RX4 3 objectInit, Cond.classLink RX4 9 RX3, Cond.instantiable RX3 2, Cond.initialized RX3, Cond.fieldLink RX4 12 "PlateSlabs$Trial" "text" "LPlateSlabs$Text;", Cond.fieldLink RX4 18 "PlateSlabs$Trial" "kinds" "[I", Cond.fieldLink RX4 22 "PlateSlabs$Trial" "pairs" "[I", Cond.fieldLink RX4 25 "PlateSlabs$Trial" "values" "[I", Cond.instanceMethod yX3_init, Cond.code yX3_init cX3_init 1 none, Cond.methodLink RX3 3 objectInit, Cond.arrayClass .char, Cond.fieldLink RX3 9 "PlateSlabs$Text" "signs" "[C", Cond.methodLink RL 12 yX6_init, Cond.instanceMethod yX6_init, Cond.code yX6_init cX6_init 2 none, Cond.methodLink RX6 1 objectInit, Cond.fieldLink RX6 7 "PlateSlabsModel" "s" "[I", Cond.arrayClass .long, Cond.fieldLink RX6 13 "PlateSlabsModel" "e" "[J", Cond.fieldLink RX6 17 "PlateSlabsModel" "ahead" "[I"]
def wsL_law_r4 : List Cond := [Cond.fieldLink RX6 20 "PlateSlabsModel" "eAhead" "[J", Cond.fieldLink RX6 23 "PlateSlabsModel" "snapshot" "[I", Cond.fieldLink RX6 26 "PlateSlabsModel" "eSnapshot" "[J", Cond.fieldLink RX6 29 "PlateSlabsModel" "before" "[I", Cond.fieldLink RX6 32 "PlateSlabsModel" "eBefore" "[J", Cond.fieldLink RX6 35 "PlateSlabsModel" "text" "[I", Cond.fieldLink RX6 38 "PlateSlabsModel" "stopAt" "I", Cond.fieldLink RX6 42 "PlateSlabsModel" "stopBy" "I", Cond.methodLink RX6 45 yX6_at, Cond.static yX6_at, Cond.code yX6_at cX6_at 2 (some .int), Cond.methodLink RL 13 yX5_set, Cond.instanceMethod yX5_set, Cond.selects RX5 yX5_set yX5_set, Cond.code yX5_set cX5_set 4 (some .int), Cond.methodLink RX5 43 yX2_copyFrom, Cond.instanceMethod yX2_copyFrom, Cond.selects RX2 yX2_copyFrom yX2_copyFrom, Cond.code yX2_copyFrom cX2_copyFrom 3 none, Cond.fieldLink RX2 22 "PlateSlabs$State" "tick" "I", Cond.fieldLink RX2 26 "PlateSlabs$State" "couplings" "I", Cond.fieldLink RX2 29 "PlateSlabs$State" "steps" "I", Cond.methodLink RX2 18 yX1_copyFrom, Cond.instanceMethod yX1_copyFrom]
def wsL_law_r5 : List Cond := [Cond.selects RX1 yX1_copyFrom yX1_copyFrom, Cond.code yX1_copyFrom cX1_copyFrom 2 none, Cond.methodLink RX1 29 arraycopyName, Cond.native arraycopyName, Cond.static arraycopyName, Cond.initialized "java/lang/System", Cond.fieldLink RX1 35 "PlateSlabs$Plates" "depth" "I", Cond.fieldLink RX1 38 "PlateSlabs$Plates" "charge" "I", Cond.fieldLink RX1 41 "PlateSlabs$Plates" "isOn" "Z", Cond.fieldLink RX1 45 "PlateSlabs$Plates" "gave" "J", Cond.fieldLink RX1 49 "PlateSlabs$Plates" "leaked" "J", Cond.fieldLink RX1 52 "PlateSlabs$Plates" "sparked" "J", Cond.methodLink RX5 47 yX2_change, Cond.instanceMethod yX2_change, Cond.selects RX2 yX2_change yX2_change, Cond.code yX2_change cX2_change 6 (some .int), Cond.fieldLink RX2 43 "PlateSlabs$Plates" "settings" "[I", Cond.static yX5_isPair, Cond.code yX5_isPair cX5_isPair 1 (some .boolean), Cond.methodLink RX2 36 yX1_isSetting, Cond.static yX1_isSetting, Cond.code yX1_isSetting cX1_isSetting 1 (some .boolean), Cond.methodLink RX2 39 yX1_isInRange, Cond.static yX1_isInRange]
def wsL_law_r6 : List Cond := [Cond.code yX1_isInRange cX1_isInRange 2 (some .boolean), Cond.fieldLink RX1 23 "PlateSlabs$Plates" "LEAST" "[I", Cond.fieldLink RX1 26 "PlateSlabs$Plates" "GREATEST" "[I", Cond.methodLink RX1 19 yX1_isSetting, Cond.methodLink RX2 47 yX1_holdVoltage, Cond.instanceMethod yX1_holdVoltage, Cond.selects RX1 yX1_holdVoltage yX1_holdVoltage, Cond.code yX1_holdVoltage cX1_holdVoltage 2 none, Cond.constantLong RX1 93 (2), Cond.methodLink RX1 55 yX1_capacityAt, Cond.instanceMethod yX1_capacityAt, Cond.selects RX1 yX1_capacityAt yX1_capacityAt, Cond.code yX1_capacityAt cX1_capacityAt 2 (some .int), Cond.methodLink RX5 51 yX5_recorded, Cond.instanceMethod yX5_recorded, Cond.selects RX5 yX5_recorded yX5_recorded, Cond.code yX5_recorded cX5_recorded 2 (some .int), Cond.methodLink RX5 71 yX0_push, Cond.instanceMethod yX0_push, Cond.selects RX0 yX0_push yX0_push, Cond.code yX0_push cX0_push 2 none, Cond.fieldLink RX0 18 "PlateSlabs$History" "size" "I", Cond.methodLink RX0 22 yX0_dropOldest, Cond.instanceMethod yX0_dropOldest]
def wsL_law_r7 : List Cond := [Cond.selects RX0 yX0_dropOldest yX0_dropOldest, Cond.code yX0_dropOldest cX0_dropOldest 3 none, Cond.methodLink RX0 25 yX2_copyFrom, Cond.methodLink RL 17 yX6_set, Cond.instanceMethod yX6_set, Cond.selects RX6 yX6_set yX6_set, Cond.code yX6_set cX6_set 4 (some .int), Cond.methodLink RX6 119 yX6_isPair, Cond.static yX6_isPair, Cond.code yX6_isPair cX6_isPair 1 (some .boolean), Cond.methodLink RX6 49 yX6_in, Cond.static yX6_in, Cond.code yX6_in cX6_in 3 (some .boolean), Cond.methodLink RX6 122 yX6_looks, Cond.instanceMethod yX6_looks, Cond.selects RX6 yX6_looks yX6_looks, Cond.code yX6_looks cX6_looks 2 none, Cond.methodLink RX6 125 yX6_least, Cond.static yX6_least, Cond.code yX6_least cX6_least 1 (some .int), Cond.methodLink RX6 128 yX6_most, Cond.static yX6_most, Cond.code yX6_most cX6_most 1 (some .int), Cond.methodLink RX6 131 yX6_lays]
def wsL_law_r8 : List Cond := [Cond.instanceMethod yX6_lays, Cond.selects RX6 yX6_lays yX6_lays, Cond.code yX6_lays cX6_lays 5 (some .int), Cond.methodLink RX6 53 yX6_of, Cond.instanceMethod yX6_of, Cond.selects RX6 yX6_of yX6_of, Cond.code yX6_of cX6_of 3 (some .int), Cond.methodLink RX6 103 yX6_charges, Cond.instanceMethod yX6_charges, Cond.selects RX6 yX6_charges yX6_charges, Cond.code yX6_charges cX6_charges 3 none, Cond.constantLong RX6 88 (2), Cond.methodLink RX6 62 yX6_isOn, Cond.instanceMethod yX6_isOn, Cond.selects RX6 yX6_isOn yX6_isOn, Cond.code yX6_isOn cX6_isOn 2 (some .boolean), Cond.methodLink RX6 66 yX6_capacityNow, Cond.instanceMethod yX6_capacityNow, Cond.selects RX6 yX6_capacityNow yX6_capacityNow, Cond.code yX6_capacityNow cX6_capacityNow 2 (some .int), Cond.methodLink RX6 59 yX6_capacity, Cond.instanceMethod yX6_capacity, Cond.selects RX6 yX6_capacity yX6_capacity, Cond.code yX6_capacity cX6_capacity 3 (some .int)]
def wsL_law_r9 : List Cond := [Cond.methodLink RX6 134 yX6_acted, Cond.instanceMethod yX6_acted, Cond.selects RX6 yX6_acted yX6_acted, Cond.code yX6_acted cX6_acted 2 (some .int), Cond.methodLink RX6 116 yX6_records, Cond.instanceMethod yX6_records, Cond.selects RX6 yX6_records yX6_records, Cond.code yX6_records cX6_records 2 none, Cond.fieldLink RX6 56 "PlateSlabsModel" "known" "I", Cond.methodLink RL 18 yX5_turnOn, Cond.instanceMethod yX5_turnOn, Cond.selects RX5 yX5_turnOn yX5_turnOn, Cond.code yX5_turnOn cX5_turnOn 3 (some .int), Cond.methodLink RX5 55 yX2_connect, Cond.instanceMethod yX2_connect, Cond.selects RX2 yX2_connect yX2_connect, Cond.code yX2_connect cX2_connect 4 (some .int), Cond.fieldLink RX2 50 "PlateSlabs$Plates" "isOn" "Z", Cond.fieldLink RX2 54 "PlateSlabs$Plates" "voltage" "I", Cond.fieldLink RX2 57 "PlateSlabs$Plates" "charge" "I", Cond.methodLink RL 22 yX6_turnOn, Cond.instanceMethod yX6_turnOn, Cond.selects RX6 yX6_turnOn yX6_turnOn, Cond.code yX6_turnOn cX6_turnOn 3 (some .int)]
def wsL_law_r10 : List Cond := [Cond.methodLink RX6 137 yX6_turnsOn, Cond.instanceMethod yX6_turnsOn, Cond.selects RX6 yX6_turnsOn yX6_turnsOn, Cond.code yX6_turnsOn cX6_turnsOn 3 (some .int), Cond.methodLink RL 23 yX5_turnOff, Cond.instanceMethod yX5_turnOff, Cond.selects RX5 yX5_turnOff yX5_turnOff, Cond.code yX5_turnOff cX5_turnOff 2 (some .int), Cond.methodLink RX5 59 yX2_disconnect, Cond.instanceMethod yX2_disconnect, Cond.selects RX2 yX2_disconnect yX2_disconnect, Cond.code yX2_disconnect cX2_disconnect 3 (some .int), Cond.methodLink RL 27 yX6_turnOff, Cond.instanceMethod yX6_turnOff, Cond.selects RX6 yX6_turnOff yX6_turnOff, Cond.code yX6_turnOff cX6_turnOff 2 (some .int), Cond.methodLink RX6 140 yX6_turnsOff, Cond.instanceMethod yX6_turnsOff, Cond.selects RX6 yX6_turnsOff yX6_turnsOff, Cond.code yX6_turnsOff cX6_turnsOff 2 (some .int), Cond.methodLink RL 28 yX5_put, Cond.instanceMethod yX5_put, Cond.selects RX5 yX5_put yX5_put, Cond.code yX5_put cX5_put 3 (some .int)]
def wsL_law_r11 : List Cond := [Cond.methodLink RX5 62 yX2_putSlab, Cond.instanceMethod yX2_putSlab, Cond.selects RX2 yX2_putSlab yX2_putSlab, Cond.code yX2_putSlab cX2_putSlab 5 (some .int), Cond.fieldLink RX2 63 "PlateSlabs$Plates" "depth" "I", Cond.static yX5_isDepth, Cond.code yX5_isDepth cX5_isDepth 1 (some .boolean), Cond.methodLink RL 31 yX6_put, Cond.instanceMethod yX6_put, Cond.selects RX6 yX6_put yX6_put, Cond.code yX6_put cX6_put 3 (some .int), Cond.methodLink RL 32 yX5_couple, Cond.instanceMethod yX5_couple, Cond.selects RX5 yX5_couple yX5_couple, Cond.code yX5_couple cX5_couple 3 (some .int), Cond.methodLink RX5 65 yX2_share, Cond.instanceMethod yX2_share, Cond.selects RX2 yX2_share yX2_share, Cond.code yX2_share cX2_share 7 (some .int), Cond.constant RX2 74 (200000), Cond.methodLink RX2 66 yX1_capacityAt, Cond.methodLink RX2 70 yX2_shareOf, Cond.static yX2_shareOf, Cond.code yX2_shareOf cX2_shareOf 4 (some .int)]
def wsL_law_r12 : List Cond := [Cond.methodLink RX2 75 yX2_moveCharges, Cond.static yX2_moveCharges, Cond.code yX2_moveCharges cX2_moveCharges 9 none, Cond.constantLong RX2 83 (2), Cond.fieldLink RX2 91 "PlateSlabs$Plates" "sparked" "J", Cond.methodLink RX2 79 yX1_stored, Cond.instanceMethod yX1_stored, Cond.selects RX1 yX1_stored yX1_stored, Cond.code yX1_stored cX1_stored 3 (some .long), Cond.methodLink RX2 85 yJ9_floorDiv_f86c9, Cond.static yJ9_floorDiv_f86c9, Cond.initialized RJ9, Cond.code yJ9_floorDiv_f86c9 cJ9_floorDiv_f86c9 6 (some .long), Cond.methodLink RL 35 yX6_couple, Cond.instanceMethod yX6_couple, Cond.selects RX6 yX6_couple yX6_couple, Cond.code yX6_couple cX6_couple 3 (some .int), Cond.methodLink RX6 143 yX6_couples, Cond.instanceMethod yX6_couples, Cond.selects RX6 yX6_couples yX6_couples, Cond.code yX6_couples cX6_couples 11 (some .int), Cond.constant RX6 111 (200000), Cond.methodLink RX6 90 yX6_stored, Cond.instanceMethod yX6_stored]
def wsL_law_r13 : List Cond := [Cond.selects RX6 yX6_stored yX6_stored, Cond.code yX6_stored cX6_stored 4 (some .long), Cond.methodLink RX6 112 yX6_half, Cond.static yX6_half, Cond.code yX6_half cX6_half 2 (some .long), Cond.methodLink RL 36 yX5_pass, Cond.instanceMethod yX5_pass, Cond.selects RX5 yX5_pass yX5_pass, Cond.code yX5_pass cX5_pass 2 (some .int), Cond.methodLink RX5 68 yX2_letPass, Cond.instanceMethod yX2_letPass, Cond.selects RX2 yX2_letPass yX2_letPass, Cond.code yX2_letPass cX2_letPass 5 (some .int), Cond.constant RX2 95 (99999), Cond.methodLink RX2 96 yX1_movesInTick, Cond.instanceMethod yX1_movesInTick, Cond.selects RX1 yX1_movesInTick yX1_movesInTick, Cond.code yX1_movesInTick cX1_movesInTick 2 (some .boolean), Cond.methodLink RX1 83 yX1_leakAway, Cond.instanceMethod yX1_leakAway, Cond.selects RX1 yX1_leakAway yX1_leakAway, Cond.code yX1_leakAway cX1_leakAway 3 none, Cond.methodLink RX1 89 yX1_stored, Cond.methodLink RX1 73 yX1_netAt]
def wsL_law_r14 : List Cond := [Cond.instanceMethod yX1_netAt, Cond.selects RX1 yX1_netAt yX1_netAt, Cond.code yX1_netAt cX1_netAt 2 (some .int), Cond.methodLink RX1 62 yX1_pullAt, Cond.instanceMethod yX1_pullAt, Cond.selects RX1 yX1_pullAt yX1_pullAt, Cond.code yX1_pullAt cX1_pullAt 6 (some .int), Cond.methodLink RX1 59 yX1_pullOf, Cond.instanceMethod yX1_pullOf, Cond.selects RX1 yX1_pullOf yX1_pullOf, Cond.code yX1_pullOf cX1_pullOf 2 (some .int), Cond.methodLink RX1 65 yX1_drawnBackAt, Cond.instanceMethod yX1_drawnBackAt, Cond.selects RX1 yX1_drawnBackAt yX1_drawnBackAt, Cond.code yX1_drawnBackAt cX1_drawnBackAt 2 (some .int), Cond.methodLink RX1 76 yX1_stepBy, Cond.instanceMethod yX1_stepBy, Cond.selects RX1 yX1_stepBy yX1_stepBy, Cond.code yX1_stepBy cX1_stepBy 2 (some .int), Cond.methodLink RX1 68 Lib.Math.abs.name, Cond.static Lib.Math.abs.name, Cond.initialized "java/lang/Math", Cond.code Lib.Math.abs.name Lib.Math.abs.code 1 (some .int), Cond.methodLink RX1 86 yX1_holdVoltage]
def wsL_law_r15 : List Cond := [Cond.methodLink RL 39 yX6_pass, Cond.instanceMethod yX6_pass, Cond.selects RX6 yX6_pass yX6_pass, Cond.code yX6_pass cX6_pass 2 (some .int), Cond.methodLink RX6 146 yX6_passes, Cond.instanceMethod yX6_passes, Cond.selects RX6 yX6_passes yX6_passes, Cond.code yX6_passes cX6_passes 4 (some .int), Cond.constant RX6 107 (99999), Cond.methodLink RX6 108 yX6_tick, Cond.instanceMethod yX6_tick, Cond.selects RX6 yX6_tick yX6_tick, Cond.code yX6_tick cX6_tick 4 (some .int), Cond.methodLink RX6 94 yX6_leak, Cond.instanceMethod yX6_leak, Cond.selects RX6 yX6_leak yX6_leak, Cond.code yX6_leak cX6_leak 3 (some .int), Cond.constantLong RX6 86 (1000), Cond.methodLink RX6 97 yX6_net, Cond.instanceMethod yX6_net, Cond.selects RX6 yX6_net yX6_net, Cond.code yX6_net cX6_net 2 (some .int), Cond.methodLink RX6 77 yX6_pullAt, Cond.instanceMethod yX6_pullAt]
def wsL_law_r16 : List Cond := [Cond.selects RX6 yX6_pullAt yX6_pullAt, Cond.code yX6_pullAt cX6_pullAt 4 (some .int), Cond.methodLink RX6 70 yX6_pullBy, Cond.instanceMethod yX6_pullBy, Cond.selects RX6 yX6_pullBy yX6_pullBy, Cond.code yX6_pullBy cX6_pullBy 3 (some .int), Cond.methodLink RX6 73 yX6_pullOf, Cond.instanceMethod yX6_pullOf, Cond.selects RX6 yX6_pullOf yX6_pullOf, Cond.code yX6_pullOf cX6_pullOf 8 (some .int), Cond.methodLink RX6 80 yX6_spring, Cond.instanceMethod yX6_spring, Cond.selects RX6 yX6_spring yX6_spring, Cond.code yX6_spring cX6_spring 3 (some .int), Cond.methodLink RX6 100 yX6_move, Cond.instanceMethod yX6_move, Cond.selects RX6 yX6_move yX6_move, Cond.code yX6_move cX6_move 4 (some .int), Cond.methodLink RX6 83 yX6_size, Cond.static yX6_size, Cond.code yX6_size cX6_size 1 (some .int), Cond.methodLink RL 40 yX5_type, Cond.instanceMethod yX5_type, Cond.selects RX5 yX5_type yX5_type]
def wsL_law_r17 : List Cond := [Cond.code yX5_type cX5_type 2 (some .int), Cond.fieldLink RX5 74 "PlateSlabs$Trial" "text" "LPlateSlabs$Text;", Cond.methodLink RX5 78 yX3_append, Cond.instanceMethod yX3_append, Cond.selects RX3 yX3_append yX3_append, Cond.code yX3_append cX3_append 2 (some .int), Cond.fieldLink RX3 15 "PlateSlabs$Text" "length" "I", Cond.methodLink RL 44 yX6_type, Cond.instanceMethod yX6_type, Cond.selects RX6 yX6_type yX6_type, Cond.code yX6_type cX6_type 2 (some .int), Cond.fieldLink RX6 149 "PlateSlabsModel" "length" "I", Cond.methodLink RL 45 yX5_clearText, Cond.instanceMethod yX5_clearText, Cond.selects RX5 yX5_clearText yX5_clearText, Cond.code yX5_clearText cX5_clearText 1 (some .int), Cond.methodLink RX5 84 yX3_empty, Cond.instanceMethod yX3_empty, Cond.selects RX3 yX3_empty yX3_empty, Cond.code yX3_empty cX3_empty 2 (some .int), Cond.methodLink RL 49 yX6_clearText, Cond.instanceMethod yX6_clearText, Cond.selects RX6 yX6_clearText yX6_clearText, Cond.code yX6_clearText cX6_clearText 2 (some .int)]
def wsL_law_r18 : List Cond := [Cond.methodLink RL 50 yX5_perform, Cond.instanceMethod yX5_perform, Cond.selects RX5 yX5_perform yX5_perform, Cond.code yX5_perform cX5_perform 4 (some .int), Cond.fieldLink RX5 91 "PlateSlabs$Trial" "things" "I", Cond.methodLink RX5 88 yX4_read, Cond.instanceMethod yX4_read, Cond.selects RX4 yX4_read yX4_read, Cond.code yX4_read cX4_read 2 (some .int), Cond.fieldLink RX4 36 "PlateSlabs$Trial" "at" "I", Cond.fieldLink RX4 32 "PlateSlabs$Trial" "things" "I", Cond.fieldLink RX4 46 "PlateSlabs$Trial" "pair" "I", Cond.fieldLink RX4 49 "PlateSlabs$Trial" "value" "I", Cond.fieldLink RX4 52 "PlateSlabs$Text" "length" "I", Cond.methodLink RX4 39 yX3_signAt, Cond.instanceMethod yX3_signAt, Cond.selects RX3 yX3_signAt yX3_signAt, Cond.code yX3_signAt cX3_signAt 2 (some .char), Cond.methodLink RX4 43 yX4_readThing, Cond.instanceMethod yX4_readThing, Cond.selects RX4 yX4_readThing yX4_readThing, Cond.code yX4_readThing cX4_readThing 2 (some .boolean), Cond.methodLink RX4 55 yX4_readSign, Cond.instanceMethod yX4_readSign]
def wsL_law_r19 : List Cond := [Cond.selects RX4 yX4_readSign yX4_readSign, Cond.code yX4_readSign cX4_readSign 2 (some .boolean), Cond.methodLink RX4 59 yX4_readPair, Cond.instanceMethod yX4_readPair, Cond.selects RX4 yX4_readPair yX4_readPair, Cond.code yX4_readPair cX4_readPair 1 (some .boolean), Cond.methodLink RX4 70 yX4_digitAt, Cond.instanceMethod yX4_digitAt, Cond.selects RX4 yX4_digitAt yX4_digitAt, Cond.code yX4_digitAt cX4_digitAt 3 (some .int), Cond.methodLink RX4 63 yX4_readNumber, Cond.instanceMethod yX4_readNumber, Cond.selects RX4 yX4_readNumber yX4_readNumber, Cond.code yX4_readNumber cX4_readNumber 4 (some .boolean), Cond.methodLink RX4 67 yX4_readOther, Cond.instanceMethod yX4_readOther, Cond.selects RX4 yX4_readOther yX4_readOther, Cond.code yX4_readOther cX4_readOther 1 (some .boolean), Cond.methodLink RX5 95 yX5_doThing, Cond.instanceMethod yX5_doThing, Cond.selects RX5 yX5_doThing yX5_doThing, Cond.code yX5_doThing cX5_doThing 4 (some .int), Cond.methodLink RX5 102 yX4_pairOf, Cond.instanceMethod yX4_pairOf]
def wsL_law_r20 : List Cond := [Cond.selects RX4 yX4_pairOf yX4_pairOf, Cond.code yX4_pairOf cX4_pairOf 2 (some .int), Cond.methodLink RX4 28 yX4_isThing, Cond.instanceMethod yX4_isThing, Cond.selects RX4 yX4_isThing yX4_isThing, Cond.code yX4_isThing cX4_isThing 2 (some .boolean), Cond.methodLink RX5 105 yX4_valueOf, Cond.instanceMethod yX4_valueOf, Cond.selects RX4 yX4_valueOf yX4_valueOf, Cond.code yX4_valueOf cX4_valueOf 2 (some .int), Cond.methodLink RX5 108 yX4_kindOf, Cond.instanceMethod yX4_kindOf, Cond.selects RX4 yX4_kindOf yX4_kindOf, Cond.code yX4_kindOf cX4_kindOf 2 (some .int), Cond.methodLink RX5 98 yX5_stopAt, Cond.instanceMethod yX5_stopAt, Cond.selects RX5 yX5_stopAt yX5_stopAt, Cond.code yX5_stopAt cX5_stopAt 3 none, Cond.fieldLink RX5 111 "PlateSlabs" "wasStopped" "Z", Cond.fieldLink RX5 115 "PlateSlabs" "stopNumber" "I", Cond.fieldLink RX5 118 "PlateSlabs" "stopError" "I", Cond.methodLink RL 53 yX6_perform, Cond.instanceMethod yX6_perform, Cond.selects RX6 yX6_perform yX6_perform]
def wsL_law_r21 : List Cond := [Cond.code yX6_perform cX6_perform 3 (some .int), Cond.fieldLink RX6 152 "PlateSlabsModel" "isWrong" "Z", Cond.fieldLink RX6 156 "PlateSlabsModel" "position" "I", Cond.fieldLink RX6 178 "PlateSlabsModel" "stop" "I", Cond.methodLink RX6 188 yX6_runs, Cond.instanceMethod yX6_runs, Cond.selects RX6 yX6_runs yX6_runs, Cond.code yX6_runs cX6_runs 6 (some .int), Cond.methodLink RX6 181 yX6_readThing, Cond.instanceMethod yX6_readThing, Cond.selects RX6 yX6_readThing yX6_readThing, Cond.code yX6_readThing cX6_readThing 2 none, Cond.fieldLink RX6 166 "PlateSlabsModel" "letter" "I", Cond.fieldLink RX6 172 "PlateSlabsModel" "first" "I", Cond.fieldLink RX6 175 "PlateSlabsModel" "second" "I", Cond.methodLink RX6 169 yX6_takesNumber, Cond.instanceMethod yX6_takesNumber, Cond.selects RX6 yX6_takesNumber yX6_takesNumber, Cond.code yX6_takesNumber cX6_takesNumber 5 (some .int), Cond.methodLink RX6 159 yX6_takes, Cond.instanceMethod yX6_takes, Cond.selects RX6 yX6_takes yX6_takes, Cond.code yX6_takes cX6_takes 4 (some .int), Cond.methodLink RX6 162 yX6_isNext]
def wsL_law_r22 : List Cond := [Cond.instanceMethod yX6_isNext, Cond.selects RX6 yX6_isNext yX6_isNext, Cond.code yX6_isNext cX6_isNext 3 (some .boolean), Cond.methodLink RX6 184 yX6_does, Cond.instanceMethod yX6_does, Cond.selects RX6 yX6_does yX6_does, Cond.code yX6_does cX6_does 1 (some .int), Cond.methodLink RX6 192 yX6_looksBack, Cond.instanceMethod yX6_looksBack, Cond.selects RX6 yX6_looksBack yX6_looksBack, Cond.code yX6_looksBack cX6_looksBack 2 none, Cond.methodLink RL 54 yX5_stopped, Cond.instanceMethod yX5_stopped, Cond.selects RX5 yX5_stopped yX5_stopped, Cond.code yX5_stopped cX5_stopped 2 (some .int), Cond.methodLink RL 57 yX6_stopped, Cond.instanceMethod yX6_stopped, Cond.selects RX6 yX6_stopped yX6_stopped, Cond.code yX6_stopped cX6_stopped 2 (some .int), Cond.methodLink RL 58 yX5_undo, Cond.instanceMethod yX5_undo, Cond.selects RX5 yX5_undo yX5_undo, Cond.code yX5_undo cX5_undo 1 (some .int), Cond.methodLink RX5 121 yX0_popInto]
def wsL_law_r23 : List Cond := [Cond.instanceMethod yX0_popInto, Cond.selects RX0 yX0_popInto yX0_popInto, Cond.code yX0_popInto cX0_popInto 2 (some .int), Cond.methodLink RL 61 yX6_undo, Cond.instanceMethod yX6_undo, Cond.selects RX6 yX6_undo yX6_undo, Cond.code yX6_undo cX6_undo 2 (some .int), Cond.methodLink RL 62 yX5_keep, Cond.instanceMethod yX5_keep, Cond.selects RX5 yX5_keep yX5_keep, Cond.code yX5_keep cX5_keep 1 (some .int), Cond.fieldLink RX5 125 "PlateSlabs" "isKept" "Z", Cond.fieldLink RX5 128 "PlateSlabs$State" "tick" "I", Cond.methodLink RL 65 yX6_keep, Cond.instanceMethod yX6_keep, Cond.selects RX6 yX6_keep yX6_keep, Cond.code yX6_keep cX6_keep 2 (some .int), Cond.fieldLink RX6 195 "PlateSlabsModel" "isKept" "Z", Cond.methodLink RL 66 yX5_restore, Cond.instanceMethod yX5_restore, Cond.selects RX5 yX5_restore yX5_restore, Cond.code yX5_restore cX5_restore 1 (some .int), Cond.methodLink RL 69 yX6_restore, Cond.instanceMethod yX6_restore]
def wsL_law_r24 : List Cond := [Cond.selects RX6 yX6_restore yX6_restore, Cond.code yX6_restore cX6_restore 2 (some .int), Cond.methodLink RL 70 yX5_pair, Cond.instanceMethod yX5_pair, Cond.selects RX5 yX5_pair yX5_pair, Cond.code yX5_pair cX5_pair 4 (some .int), Cond.fieldLink RX5 135 "PlateSlabs$State" "pairs" "[LPlateSlabs$Plates;", Cond.fieldLink RX5 142 "PlateSlabs$Plates" "settings" "[I", Cond.fieldLink RX5 146 "PlateSlabs$Plates" "depth" "I", Cond.fieldLink RX5 152 "PlateSlabs$Plates" "charge" "I", Cond.fieldLink RX5 155 "PlateSlabs$Plates" "voltage" "I", Cond.fieldLink RX5 158 "PlateSlabs$Plates" "isOn" "Z", Cond.methodLink RX5 167 Lib.Math.abs.name, Cond.methodLink RX5 131 yX5_isPair, Cond.methodLink RX5 139 yX1_isSetting, Cond.methodLink RX5 149 yX1_capacityAt, Cond.methodLink RX5 161 yX1_pullAt, Cond.methodLink RX5 164 yX1_drawnBackAt, Cond.methodLink RL 73 yX6_pair, Cond.instanceMethod yX6_pair, Cond.selects RX6 yX6_pair yX6_pair, Cond.code yX6_pair cX6_pair 3 (some .int), Cond.methodLink RX6 198 yX6_pullNow, Cond.instanceMethod yX6_pullNow]
def wsL_law_r25 : List Cond := [Cond.selects RX6 yX6_pullNow yX6_pullNow, Cond.code yX6_pullNow cX6_pullNow 2 (some .int), Cond.methodLink RL 74 yX5_book, Cond.instanceMethod yX5_book, Cond.selects RX5 yX5_book yX5_book, Cond.code yX5_book cX5_book 4 (some .long), Cond.constantLong RX5 172 (-1), Cond.fieldLink RX5 178 "PlateSlabs$Plates" "gave" "J", Cond.fieldLink RX5 182 "PlateSlabs$Plates" "leaked" "J", Cond.fieldLink RX5 185 "PlateSlabs$Plates" "sparked" "J", Cond.constantLong RX5 188 (-2), Cond.methodLink RX5 174 yX1_stored, Cond.methodLink RL 78 yX6_book, Cond.instanceMethod yX6_book, Cond.selects RX6 yX6_book yX6_book, Cond.code yX6_book cX6_book 3 (some .long), Cond.constantLong RX6 201 (-1), Cond.constantLong RX6 203 (-2), Cond.methodLink RL 79 yX5_reason, Cond.instanceMethod yX5_reason, Cond.selects RX5 yX5_reason yX5_reason, Cond.code yX5_reason cX5_reason 2 (some .int), Cond.methodLink RX5 190 yX1_reasonNow, Cond.instanceMethod yX1_reasonNow]
def wsL_law_r26 : List Cond := [Cond.selects RX1 yX1_reasonNow yX1_reasonNow, Cond.code yX1_reasonNow cX1_reasonNow 2 (some .int), Cond.methodLink RL 82 yX6_reason, Cond.instanceMethod yX6_reason, Cond.selects RX6 yX6_reason yX6_reason, Cond.code yX6_reason cX6_reason 2 (some .int), Cond.methodLink RX6 205 yX6_why, Cond.instanceMethod yX6_why, Cond.selects RX6 yX6_why yX6_why, Cond.code yX6_why cX6_why 4 (some .int), Cond.methodLink RL 83 yX5_force, Cond.instanceMethod yX5_force, Cond.selects RX5 yX5_force yX5_force, Cond.code yX5_force cX5_force 3 (some .int), Cond.methodLink RX5 193 yX5_isDepth, Cond.methodLink RX5 196 yX1_netAt, Cond.methodLink RL 86 yX6_force, Cond.instanceMethod yX6_force, Cond.selects RX6 yX6_force yX6_force, Cond.code yX6_force cX6_force 3 (some .int), Cond.methodLink RL 87 yX5_restsIn, Cond.instanceMethod yX5_restsIn, Cond.selects RX5 yX5_restsIn yX5_restsIn, Cond.code yX5_restsIn cX5_restsIn 3 (some .int)]
def wsL_law_r27 : List Cond := [Cond.methodLink RX5 199 yX1_copyFrom, Cond.methodLink RX5 202 yX1_movesInTick, Cond.methodLink RL 90 yX6_restsIn, Cond.instanceMethod yX6_restsIn, Cond.selects RX6 yX6_restsIn yX6_restsIn, Cond.code yX6_restsIn cX6_restsIn 3 (some .int), Cond.methodLink RX6 214 yX6_sets, Cond.instanceMethod yX6_sets, Cond.selects RX6 yX6_sets yX6_sets, Cond.code yX6_sets cX6_sets 2 none, Cond.fieldLink RX6 211 "PlateSlabsModel" "goneTo" "I", Cond.fieldLink RX6 208 "PlateSlabsModel" "leftOver" "I", Cond.methodLink RX6 217 yX6_goes, Cond.instanceMethod yX6_goes, Cond.selects RX6 yX6_goes yX6_goes, Cond.code yX6_goes cX6_goes 3 (some .int), Cond.methodLink RL 91 yX5_depthIn, Cond.instanceMethod yX5_depthIn, Cond.selects RX5 yX5_depthIn yX5_depthIn, Cond.code yX5_depthIn cX5_depthIn 4 (some .int), Cond.methodLink RL 94 yX6_depthIn, Cond.instanceMethod yX6_depthIn, Cond.selects RX6 yX6_depthIn yX6_depthIn, Cond.code yX6_depthIn cX6_depthIn 5 (some .int)]
def wsL_law_r28 : List Cond := [Cond.methodLink RL 95 yX5_leastVoltage, Cond.instanceMethod yX5_leastVoltage, Cond.selects RX5 yX5_leastVoltage yX5_leastVoltage, Cond.code yX5_leastVoltage cX5_leastVoltage 4 (some .int), Cond.methodLink RX5 206 yX1_isDrawnInAt, Cond.instanceMethod yX1_isDrawnInAt, Cond.selects RX1 yX1_isDrawnInAt yX1_isDrawnInAt, Cond.code yX1_isDrawnInAt cX1_isDrawnInAt 3 (some .boolean), Cond.methodLink RL 98 yX6_leastVoltage, Cond.instanceMethod yX6_leastVoltage, Cond.selects RX6 yX6_leastVoltage yX6_leastVoltage, Cond.code yX6_leastVoltage cX6_leastVoltage 4 (some .int), Cond.methodLink RL 99 yX5_drawingVoltage, Cond.instanceMethod yX5_drawingVoltage, Cond.selects RX5 yX5_drawingVoltage yX5_drawingVoltage, Cond.code yX5_drawingVoltage cX5_drawingVoltage 3 (some .int), Cond.methodLink RX5 210 yX1_isDrawnAllTheWayIn, Cond.instanceMethod yX1_isDrawnAllTheWayIn, Cond.selects RX1 yX1_isDrawnAllTheWayIn yX1_isDrawnAllTheWayIn, Cond.code yX1_isDrawnAllTheWayIn cX1_isDrawnAllTheWayIn 3 (some .boolean), Cond.methodLink RX1 79 yX1_isDrawnInAt, Cond.methodLink RL 102 yX6_drawingVoltage, Cond.instanceMethod yX6_drawingVoltage, Cond.selects RX6 yX6_drawingVoltage yX6_drawingVoltage]
def wsL_law_r29 : List Cond := [Cond.code yX6_drawingVoltage cX6_drawingVoltage 3 (some .int), Cond.methodLink RX6 220 yX6_isDrawn, Cond.instanceMethod yX6_isDrawn, Cond.selects RX6 yX6_isDrawn yX6_isDrawn, Cond.code yX6_isDrawn cX6_isDrawn 4 (some .boolean), Cond.methodLink RL 103 yX5_strongest, Cond.instanceMethod yX5_strongest, Cond.selects RX5 yX5_strongest yX5_strongest, Cond.code yX5_strongest cX5_strongest 6 (some .int), Cond.methodLink RL 106 yX6_strongest, Cond.instanceMethod yX6_strongest, Cond.selects RX6 yX6_strongest yX6_strongest, Cond.code yX6_strongest cX6_strongest 3 (some .int), Cond.methodLink RL 107 yX5_count, Cond.instanceMethod yX5_count, Cond.selects RX5 yX5_count yX5_count, Cond.code yX5_count cX5_count 2 (some .int), Cond.fieldLink RX5 213 "PlateSlabs$State" "couplings" "I", Cond.fieldLink RX5 216 "PlateSlabs$State" "steps" "I", Cond.fieldLink RX5 219 "PlateSlabs$History" "size" "I", Cond.fieldLink RX5 222 "PlateSlabs$Text" "length" "I", Cond.methodLink RX5 225 yX5_sumOfPairs, Cond.instanceMethod yX5_sumOfPairs, Cond.selects RX5 yX5_sumOfPairs yX5_sumOfPairs]
def wsL_law_r30 : List Cond := [Cond.code yX5_sumOfPairs cX5_sumOfPairs 4 (some .int), Cond.methodLink RX5 228 yX5_partOfCount, Cond.static yX5_partOfCount, Cond.code yX5_partOfCount cX5_partOfCount 2 (some .int), Cond.methodLink RL 110 yX6_count, Cond.instanceMethod yX6_count, Cond.selects RX6 yX6_count yX6_count, Cond.code yX6_count cX6_count 4 (some .int)]
def wsL_law : List Cond := (wsL_law_r1 ++ (wsL_law_r2 ++ (wsL_law_r3 ++ (wsL_law_r4 ++ (wsL_law_r5 ++ (wsL_law_r6 ++ (wsL_law_r7 ++ (wsL_law_r8 ++ (wsL_law_r9 ++ (wsL_law_r10 ++ (wsL_law_r11 ++ (wsL_law_r12 ++ (wsL_law_r13 ++ (wsL_law_r14 ++ (wsL_law_r15 ++ (wsL_law_r16 ++ (wsL_law_r17 ++ (wsL_law_r18 ++ (wsL_law_r19 ++ (wsL_law_r20 ++ (wsL_law_r21 ++ (wsL_law_r22 ++ (wsL_law_r23 ++ (wsL_law_r24 ++ (wsL_law_r25 ++ (wsL_law_r26 ++ (wsL_law_r27 ++ (wsL_law_r28 ++ (wsL_law_r29 ++ wsL_law_r30))))))))))))))))))))))))))))) ++ wsX50 ++ wsX60 ++ wsX20 ++ wsX00 ++ wsX10 ++ wsX40 ++ wsX30 ++ ([] : List Cond)
end
section
set_option maxRecDepth 20000 in
theorem wsLi_1 : ∀ w ∈ wsL_law_r1, w ∈ lw_tbl := fun w h => (goodIn_p wsL_law_r1 [61, 64] (by decide +kernel) (by decide +kernel) w h).1
set_option maxRecDepth 20000 in
theorem wsLi_2 : ∀ w ∈ wsL_law_r2, w ∈ lw_tbl := fun w h => (goodIn_p wsL_law_r2 [69, 76, 139] (by decide +kernel) (by decide +kernel) w h).1
set_option maxRecDepth 20000 in
theorem wsLi_3 : ∀ w ∈ wsL_law_r3, w ∈ lw_tbl := fun w h => (goodIn_p wsL_law_r3 [158, 164, 556] (by decide +kernel) (by decide +kernel) w h).1
set_option maxRecDepth 20000 in
theorem wsLi_4 : ∀ w ∈ wsL_law_r4, w ∈ lw_tbl := fun w h => (goodIn_p wsL_law_r4 [560, 237, 241] (by decide +kernel) (by decide +kernel) w h).1
set_option maxRecDepth 20000 in
theorem wsLi_5 : ∀ w ∈ wsL_law_r5, w ∈ lw_tbl := fun w h => (goodIn_p wsL_law_r5 [245, 252, 255, 258] (by decide +kernel) (by decide +kernel) w h).1
set_option maxRecDepth 20000 in
theorem wsLi_6 : ∀ w ∈ wsL_law_r6, w ∈ lw_tbl := fun w h => (goodIn_p wsL_law_r6 [261, 270, 274, 279, 283] (by decide +kernel) (by decide +kernel) w h).1
end
section
set_option maxRecDepth 20000 in
theorem wsLi_7 : ∀ w ∈ wsL_law_r7, w ∈ lw_tbl := fun w h => (goodIn_p wsL_law_r7 [287, 632, 635, 638, 642, 645, 648] (by decide +kernel) (by decide +kernel) w h).1
set_option maxRecDepth 20000 in
theorem wsLi_8 : ∀ w ∈ wsL_law_r8, w ∈ lw_tbl := fun w h => (goodIn_p wsL_law_r8 [652, 656, 660, 664, 668, 672] (by decide +kernel) (by decide +kernel) w h).1
set_option maxRecDepth 20000 in
theorem wsLi_9 : ∀ w ∈ wsL_law_r9, w ∈ lw_tbl := fun w h => (goodIn_p wsL_law_r9 [677, 681, 292, 296, 685] (by decide +kernel) (by decide +kernel) w h).1
set_option maxRecDepth 20000 in
theorem wsLi_10 : ∀ w ∈ wsL_law_r10, w ∈ lw_tbl := fun w h => (goodIn_p wsL_law_r10 [689, 300, 304, 693, 697, 308] (by decide +kernel) (by decide +kernel) w h).1
set_option maxRecDepth 20000 in
theorem wsLi_11 : ∀ w ∈ wsL_law_r11, w ∈ lw_tbl := fun w h => (goodIn_p wsL_law_r11 [312, 315, 701, 319, 323, 327] (by decide +kernel) (by decide +kernel) w h).1
set_option maxRecDepth 20000 in
theorem wsLi_12 : ∀ w ∈ wsL_law_r12, w ∈ lw_tbl := fun w h => (goodIn_p wsL_law_r12 [331, 335, 339, 705, 709] (by decide +kernel) (by decide +kernel) w h).1
end
section
set_option maxRecDepth 20000 in
theorem wsLi_13 : ∀ w ∈ wsL_law_r13, w ∈ lw_tbl := fun w h => (goodIn_p wsL_law_r13 [714, 717, 343, 347, 352, 356] (by decide +kernel) (by decide +kernel) w h).1
set_option maxRecDepth 20000 in
theorem wsLi_14 : ∀ w ∈ wsL_law_r14, w ∈ lw_tbl := fun w h => (goodIn_p wsL_law_r14 [361, 365, 369, 373, 377, 380] (by decide +kernel) (by decide +kernel) w h).1
set_option maxRecDepth 20000 in
theorem wsLi_15 : ∀ w ∈ wsL_law_r15, w ∈ lw_tbl := fun w h => (goodIn_p wsL_law_r15 [721, 725, 730, 734, 739] (by decide +kernel) (by decide +kernel) w h).1
set_option maxRecDepth 20000 in
theorem wsLi_16 : ∀ w ∈ wsL_law_r16, w ∈ lw_tbl := fun w h => (goodIn_p wsL_law_r16 [743, 747, 751, 755, 759, 762] (by decide +kernel) (by decide +kernel) w h).1
set_option maxRecDepth 20000 in
theorem wsLi_17 : ∀ w ∈ wsL_law_r17, w ∈ lw_tbl := fun w h => (goodIn_p wsL_law_r17 [385, 389, 766, 393, 397, 770] (by decide +kernel) (by decide +kernel) w h).1
set_option maxRecDepth 20000 in
theorem wsLi_18 : ∀ w ∈ wsL_law_r18, w ∈ lw_tbl := fun w h => (goodIn_p wsL_law_r18 [401, 405, 409, 413] (by decide +kernel) (by decide +kernel) w h).1
end
section
set_option maxRecDepth 20000 in
theorem wsLi_19 : ∀ w ∈ wsL_law_r19, w ∈ lw_tbl := fun w h => (goodIn_p wsL_law_r19 [417, 421, 425, 430, 434, 438] (by decide +kernel) (by decide +kernel) w h).1
set_option maxRecDepth 20000 in
theorem wsLi_20 : ∀ w ∈ wsL_law_r20, w ∈ lw_tbl := fun w h => (goodIn_p wsL_law_r20 [442, 446, 450, 454, 458] (by decide +kernel) (by decide +kernel) w h).1
set_option maxRecDepth 20000 in
theorem wsLi_21 : ∀ w ∈ wsL_law_r21, w ∈ lw_tbl := fun w h => (goodIn_p wsL_law_r21 [774, 778, 782, 786, 790] (by decide +kernel) (by decide +kernel) w h).1
set_option maxRecDepth 20000 in
theorem wsLi_22 : ∀ w ∈ wsL_law_r22, w ∈ lw_tbl := fun w h => (goodIn_p wsL_law_r22 [794, 798, 802, 462, 806, 466] (by decide +kernel) (by decide +kernel) w h).1
set_option maxRecDepth 20000 in
theorem wsLi_23 : ∀ w ∈ wsL_law_r23, w ∈ lw_tbl := fun w h => (goodIn_p wsL_law_r23 [470, 810, 474, 814, 478] (by decide +kernel) (by decide +kernel) w h).1
set_option maxRecDepth 20000 in
theorem wsLi_24 : ∀ w ∈ wsL_law_r24, w ∈ lw_tbl := fun w h => (goodIn_p wsL_law_r24 [818, 482, 822] (by decide +kernel) (by decide +kernel) w h).1
end
section
set_option maxRecDepth 20000 in
theorem wsLi_25 : ∀ w ∈ wsL_law_r25, w ∈ lw_tbl := fun w h => (goodIn_p wsL_law_r25 [826, 492, 830, 499] (by decide +kernel) (by decide +kernel) w h).1
set_option maxRecDepth 20000 in
theorem wsLi_26 : ∀ w ∈ wsL_law_r26, w ∈ lw_tbl := fun w h => (goodIn_p wsL_law_r26 [503, 836, 840, 507, 844, 513] (by decide +kernel) (by decide +kernel) w h).1
set_option maxRecDepth 20000 in
theorem wsLi_27 : ∀ w ∈ wsL_law_r27, w ∈ lw_tbl := fun w h => (goodIn_p wsL_law_r27 [848, 852, 856, 519, 860] (by decide +kernel) (by decide +kernel) w h).1
set_option maxRecDepth 20000 in
theorem wsLi_28 : ∀ w ∈ wsL_law_r28, w ∈ lw_tbl := fun w h => (goodIn_p wsL_law_r28 [523, 527, 864, 531, 535] (by decide +kernel) (by decide +kernel) w h).1
set_option maxRecDepth 20000 in
theorem wsLi_29 : ∀ w ∈ wsL_law_r29, w ∈ lw_tbl := fun w h => (goodIn_p wsL_law_r29 [868, 872, 540, 876, 544] (by decide +kernel) (by decide +kernel) w h).1
set_option maxRecDepth 20000 in
theorem wsLi_30 : ∀ w ∈ wsL_law_r30, w ∈ lw_tbl := fun w h => (goodIn_p wsL_law_r30 [548, 551, 880] (by decide +kernel) (by decide +kernel) w h).1
end
section
set_option maxRecDepth 20000 in
theorem wsLi_wsX50 : ∀ w ∈ wsX50, w ∈ lw_tbl := by decide +kernel
set_option maxRecDepth 20000 in
theorem wsLi_wsX60 : ∀ w ∈ wsX60, w ∈ lw_tbl := by decide +kernel
set_option maxRecDepth 20000 in
theorem wsLi_wsX20 : ∀ w ∈ wsX20, w ∈ lw_tbl := by decide +kernel
set_option maxRecDepth 20000 in
theorem wsLi_wsX00 : ∀ w ∈ wsX00, w ∈ lw_tbl := by decide +kernel
set_option maxRecDepth 20000 in
theorem wsLi_wsX10 : ∀ w ∈ wsX10, w ∈ lw_tbl := by decide +kernel
set_option maxRecDepth 20000 in
theorem wsLi_wsX40 : ∀ w ∈ wsX40, w ∈ lw_tbl := by decide +kernel
set_option maxRecDepth 20000 in
theorem wsLi_wsX30 : ∀ w ∈ wsX30, w ∈ lw_tbl := by decide +kernel
theorem wsL_law_in : ∀ w ∈ wsL_law, w ∈ lw_tbl := by
  intro w h
  simp only [wsL_law, List.mem_append, List.not_mem_nil, or_false] at h
  rcases h with ((((((((h | h | h | h | h | h | h | h | h | h | h | h | h | h | h | h | h | h | h | h | h | h | h | h | h | h | h | h | h | h) | h) | h) | h) | h) | h) | h) | h)
  · exact wsLi_1 w h
  · exact wsLi_2 w h
  · exact wsLi_3 w h
  · exact wsLi_4 w h
  · exact wsLi_5 w h
  · exact wsLi_6 w h
  · exact wsLi_7 w h
  · exact wsLi_8 w h
  · exact wsLi_9 w h
  · exact wsLi_10 w h
  · exact wsLi_11 w h
  · exact wsLi_12 w h
  · exact wsLi_13 w h
  · exact wsLi_14 w h
  · exact wsLi_15 w h
  · exact wsLi_16 w h
  · exact wsLi_17 w h
  · exact wsLi_18 w h
  · exact wsLi_19 w h
  · exact wsLi_20 w h
  · exact wsLi_21 w h
  · exact wsLi_22 w h
  · exact wsLi_23 w h
  · exact wsLi_24 w h
  · exact wsLi_25 w h
  · exact wsLi_26 w h
  · exact wsLi_27 w h
  · exact wsLi_28 w h
  · exact wsLi_29 w h
  · exact wsLi_30 w h
  · exact wsLi_wsX50 w h
  · exact wsLi_wsX60 w h
  · exact wsLi_wsX20 w h
  · exact wsLi_wsX00 w h
  · exact wsLi_wsX10 w h
  · exact wsLi_wsX40 w h
  · exact wsLi_wsX30 w h
theorem inlX0 : ∀ w ∈ wsX00, w ∈ wsL_law := fun _ h => List.mem_append_left _ (List.mem_append_left _ (List.mem_append_left _ (List.mem_append_left _ (List.mem_append_right _ h))))
theorem inX0 : ∀ w ∈ wsX00, w ∈ lw_tbl := fun w h => wsL_law_in w (inlX0 w h)
theorem inlX1 : ∀ w ∈ wsX10, w ∈ wsL_law := fun _ h => List.mem_append_left _ (List.mem_append_left _ (List.mem_append_left _ (List.mem_append_right _ h)))
theorem inX1 : ∀ w ∈ wsX10, w ∈ lw_tbl := fun w h => wsL_law_in w (inlX1 w h)
theorem inlX2 : ∀ w ∈ wsX20, w ∈ wsL_law := fun _ h => List.mem_append_left _ (List.mem_append_left _ (List.mem_append_left _ (List.mem_append_left _ (List.mem_append_left _ (List.mem_append_right _ h)))))
theorem inX2 : ∀ w ∈ wsX20, w ∈ lw_tbl := fun w h => wsL_law_in w (inlX2 w h)
theorem inlX3 : ∀ w ∈ wsX30, w ∈ wsL_law := fun _ h => List.mem_append_left _ (List.mem_append_right _ h)
theorem inX3 : ∀ w ∈ wsX30, w ∈ lw_tbl := fun w h => wsL_law_in w (inlX3 w h)
theorem inlX4 : ∀ w ∈ wsX40, w ∈ wsL_law := fun _ h => List.mem_append_left _ (List.mem_append_left _ (List.mem_append_right _ h))
theorem inX4 : ∀ w ∈ wsX40, w ∈ lw_tbl := fun w h => wsL_law_in w (inlX4 w h)
theorem inlX5 : ∀ w ∈ wsX50, w ∈ wsL_law := fun _ h => List.mem_append_left _ (List.mem_append_left _ (List.mem_append_left _ (List.mem_append_left _ (List.mem_append_left _ (List.mem_append_left _ (List.mem_append_left _ (List.mem_append_right _ h)))))))
theorem inX5 : ∀ w ∈ wsX50, w ∈ lw_tbl := fun w h => wsL_law_in w (inlX5 w h)
theorem inlX6 : ∀ w ∈ wsX60, w ∈ wsL_law := fun _ h => List.mem_append_left _ (List.mem_append_left _ (List.mem_append_left _ (List.mem_append_left _ (List.mem_append_left _ (List.mem_append_left _ (List.mem_append_right _ h))))))
theorem inX6 : ∀ w ∈ wsX60, w ∈ lw_tbl := fun w h => wsL_law_in w (inlX6 w h)
theorem inJ9 : ∀ w ∈ wsJ90, w ∈ lw_tbl := by decide +kernel
theorem inJ10 : ∀ w ∈ wsJ100, w ∈ lw_tbl := by decide +kernel
abbrev vwCl : List vw_C := [(RX0, TX0, 2), (RX1, TX1, 8), (RX2, TX2, 4), (RX3, TX3, 2), (RX4, TX4, 8), (RX5, TX5, 10), (RX6, TX6, 22)]
end
section
set_option maxRecDepth 20000 in
theorem ggX0_init_X2_init : GoodIn wsX0_init wsX2_init := goodIn_r _ [10, 11, 2, 3, 12, 13, 14, 15, 16, 17, 18, 19, 20, 21, 24, 25, 26, 27, 28, 29, 30, 31, 32, 33, 34, 35] (by decide +kernel) (by decide +kernel)
set_option maxRecDepth 20000 in
theorem gX0_init_X2_init : GoodIn wsX0_init (wsX2_init) := ggX0_init_X2_init
theorem dX0_init_0 : decode cX0_init 0 = .ok (.aload_n 0, 1) := by decide +kernel
theorem dX0_init_1 : decode cX0_init 1 = .ok (.invokespecial 3, 3) := by decide +kernel
theorem dX0_init_4 : decode cX0_init 4 = .ok (.aload_n 0, 1) := by decide +kernel
theorem dX0_init_5 : decode cX0_init 5 = .ok (.iconst 4, 1) := by decide +kernel
theorem dX0_init_6 : decode cX0_init 6 = .ok (.anewarray 9, 3) := by decide +kernel
theorem dX0_init_9 : decode cX0_init 9 = .ok (.putfield 11, 3) := by decide +kernel
theorem dX0_init_12 : decode cX0_init 12 = .ok (.iconst 0, 1) := by decide +kernel
theorem dX0_init_13 : decode cX0_init 13 = .ok (.istore_n 1, 1) := by decide +kernel
theorem dX0_init_14 : decode cX0_init 14 = .ok (.iload_n 1, 1) := by decide +kernel
theorem dX0_init_15 : decode cX0_init 15 = .ok (.iconst 4, 1) := by decide +kernel
theorem dX0_init_16 : decode cX0_init 16 = .ok (.if_icmp .ge 22, 3) := by decide +kernel
theorem dX0_init_19 : decode cX0_init 19 = .ok (.aload_n 0, 1) := by decide +kernel
theorem dX0_init_20 : decode cX0_init 20 = .ok (.getfield 11, 3) := by decide +kernel
theorem dX0_init_23 : decode cX0_init 23 = .ok (.iload_n 1, 1) := by decide +kernel
theorem dX0_init_24 : decode cX0_init 24 = .ok (.new 9, 3) := by decide +kernel
theorem dX0_init_27 : decode cX0_init 27 = .ok (.dup, 1) := by decide +kernel
theorem dX0_init_28 : decode cX0_init 28 = .ok (.invokespecial 17, 3) := by decide +kernel
theorem dX0_init_31 : decode cX0_init 31 = .ok (.aastore, 1) := by decide +kernel
theorem dX0_init_32 : decode cX0_init 32 = .ok (.iinc 1 1, 3) := by decide +kernel
theorem dX0_init_35 : decode cX0_init 35 = .ok (.goto (-21), 3) := by decide +kernel
theorem dX0_init_38 : decode cX0_init 38 = .ok (.return_, 1) := by decide +kernel
set_option maxRecDepth 20000 in
theorem ggX0_push_X0_dropOldest : GoodIn wsX0_push wsX0_dropOldest := goodIn_r _ [7, 2, 1, 34, 35] (by decide +kernel) (by decide +kernel)
set_option maxRecDepth 20000 in
theorem gX0_push_X0_dropOldest : GoodIn wsX0_push (wsV RX0 22 RX0 yX0_dropOldest wsX0_dropOldest) := goodIn_app (goodIn_of _ (by decide +kernel)) ggX0_push_X0_dropOldest
set_option maxRecDepth 20000 in
theorem ggX0_push_X2_copyFrom : GoodIn wsX0_push wsX2_copyFrom := goodIn_r _ [12, 13, 14, 15, 16, 17, 18, 19, 20, 21, 22, 23, 24, 25, 26, 27, 28, 29, 30, 31, 32, 33, 36, 37, 38, 39, 40, 41, 42, 43, 44, 45, 46, 47] (by decide +kernel) (by decide +kernel)
set_option maxRecDepth 20000 in
theorem gX0_push_X2_copyFrom : GoodIn wsX0_push (wsV RX0 25 RX2 yX2_copyFrom wsX2_copyFrom) := goodIn_app (goodIn_of _ (by decide +kernel)) ggX0_push_X2_copyFrom
theorem dX0_push_0 : decode cX0_push 0 = .ok (.aload_n 0, 1) := by decide +kernel
theorem dX0_push_1 : decode cX0_push 1 = .ok (.getfield 18, 3) := by decide +kernel
theorem dX0_push_4 : decode cX0_push 4 = .ok (.iconst 4, 1) := by decide +kernel
theorem dX0_push_5 : decode cX0_push 5 = .ok (.if_icmp .lt 7, 3) := by decide +kernel
theorem dX0_push_8 : decode cX0_push 8 = .ok (.aload_n 0, 1) := by decide +kernel
theorem dX0_push_9 : decode cX0_push 9 = .ok (.invokevirtual 22, 3) := by decide +kernel
theorem dX0_push_12 : decode cX0_push 12 = .ok (.aload_n 0, 1) := by decide +kernel
theorem dX0_push_13 : decode cX0_push 13 = .ok (.getfield 11, 3) := by decide +kernel
theorem dX0_push_16 : decode cX0_push 16 = .ok (.aload_n 0, 1) := by decide +kernel
theorem dX0_push_17 : decode cX0_push 17 = .ok (.getfield 18, 3) := by decide +kernel
theorem dX0_push_20 : decode cX0_push 20 = .ok (.aaload, 1) := by decide +kernel
theorem dX0_push_21 : decode cX0_push 21 = .ok (.aload_n 1, 1) := by decide +kernel
theorem dX0_push_22 : decode cX0_push 22 = .ok (.invokevirtual 25, 3) := by decide +kernel
theorem dX0_push_25 : decode cX0_push 25 = .ok (.aload_n 0, 1) := by decide +kernel
theorem dX0_push_26 : decode cX0_push 26 = .ok (.dup, 1) := by decide +kernel
theorem dX0_push_27 : decode cX0_push 27 = .ok (.getfield 18, 3) := by decide +kernel
theorem dX0_push_30 : decode cX0_push 30 = .ok (.iconst 1, 1) := by decide +kernel
theorem dX0_push_31 : decode cX0_push 31 = .ok (.iadd, 1) := by decide +kernel
theorem dX0_push_32 : decode cX0_push 32 = .ok (.putfield 18, 3) := by decide +kernel
theorem dX0_push_35 : decode cX0_push 35 = .ok (.return_, 1) := by decide +kernel
theorem dX0_dropOldest_0 : decode cX0_dropOldest 0 = .ok (.aload_n 0, 1) := by decide +kernel
theorem dX0_dropOldest_1 : decode cX0_dropOldest 1 = .ok (.getfield 11, 3) := by decide +kernel
theorem dX0_dropOldest_4 : decode cX0_dropOldest 4 = .ok (.iconst 0, 1) := by decide +kernel
theorem dX0_dropOldest_5 : decode cX0_dropOldest 5 = .ok (.aaload, 1) := by decide +kernel
theorem dX0_dropOldest_6 : decode cX0_dropOldest 6 = .ok (.astore_n 1, 1) := by decide +kernel
theorem dX0_dropOldest_7 : decode cX0_dropOldest 7 = .ok (.iconst 1, 1) := by decide +kernel
theorem dX0_dropOldest_8 : decode cX0_dropOldest 8 = .ok (.istore_n 2, 1) := by decide +kernel
theorem dX0_dropOldest_9 : decode cX0_dropOldest 9 = .ok (.iload_n 2, 1) := by decide +kernel
theorem dX0_dropOldest_10 : decode cX0_dropOldest 10 = .ok (.iconst 4, 1) := by decide +kernel
theorem dX0_dropOldest_11 : decode cX0_dropOldest 11 = .ok (.if_icmp .ge 23, 3) := by decide +kernel
theorem dX0_dropOldest_14 : decode cX0_dropOldest 14 = .ok (.aload_n 0, 1) := by decide +kernel
theorem dX0_dropOldest_15 : decode cX0_dropOldest 15 = .ok (.getfield 11, 3) := by decide +kernel
theorem dX0_dropOldest_18 : decode cX0_dropOldest 18 = .ok (.iload_n 2, 1) := by decide +kernel
theorem dX0_dropOldest_19 : decode cX0_dropOldest 19 = .ok (.iconst 1, 1) := by decide +kernel
theorem dX0_dropOldest_20 : decode cX0_dropOldest 20 = .ok (.isub, 1) := by decide +kernel
theorem dX0_dropOldest_21 : decode cX0_dropOldest 21 = .ok (.aload_n 0, 1) := by decide +kernel
theorem dX0_dropOldest_22 : decode cX0_dropOldest 22 = .ok (.getfield 11, 3) := by decide +kernel
theorem dX0_dropOldest_25 : decode cX0_dropOldest 25 = .ok (.iload_n 2, 1) := by decide +kernel
theorem dX0_dropOldest_26 : decode cX0_dropOldest 26 = .ok (.aaload, 1) := by decide +kernel
theorem dX0_dropOldest_27 : decode cX0_dropOldest 27 = .ok (.aastore, 1) := by decide +kernel
theorem dX0_dropOldest_28 : decode cX0_dropOldest 28 = .ok (.iinc 2 1, 3) := by decide +kernel
theorem dX0_dropOldest_31 : decode cX0_dropOldest 31 = .ok (.goto (-22), 3) := by decide +kernel
theorem dX0_dropOldest_34 : decode cX0_dropOldest 34 = .ok (.aload_n 0, 1) := by decide +kernel
theorem dX0_dropOldest_35 : decode cX0_dropOldest 35 = .ok (.getfield 11, 3) := by decide +kernel
theorem dX0_dropOldest_38 : decode cX0_dropOldest 38 = .ok (.iconst 3, 1) := by decide +kernel
theorem dX0_dropOldest_39 : decode cX0_dropOldest 39 = .ok (.aload_n 1, 1) := by decide +kernel
theorem dX0_dropOldest_40 : decode cX0_dropOldest 40 = .ok (.aastore, 1) := by decide +kernel
theorem dX0_dropOldest_41 : decode cX0_dropOldest 41 = .ok (.aload_n 0, 1) := by decide +kernel
theorem dX0_dropOldest_42 : decode cX0_dropOldest 42 = .ok (.iconst 3, 1) := by decide +kernel
theorem dX0_dropOldest_43 : decode cX0_dropOldest 43 = .ok (.putfield 18, 3) := by decide +kernel
theorem dX0_dropOldest_46 : decode cX0_dropOldest 46 = .ok (.return_, 1) := by decide +kernel
set_option maxRecDepth 20000 in
theorem ggX0_popInto_X2_copyFrom : GoodIn wsX0_popInto wsX2_copyFrom := goodIn_r _ [7, 8, 9, 10, 11, 12, 13, 14, 15, 16, 17, 18, 19, 20, 21, 22, 23, 24, 25, 26, 27, 28, 31, 32, 33, 34, 35, 36, 37, 38, 39, 40, 41, 42] (by decide +kernel) (by decide +kernel)
set_option maxRecDepth 20000 in
theorem gX0_popInto_X2_copyFrom : GoodIn wsX0_popInto (wsV RX0 25 RX2 yX2_copyFrom wsX2_copyFrom) := goodIn_app (goodIn_of _ (by decide +kernel)) ggX0_popInto_X2_copyFrom
theorem dX0_popInto_0 : decode cX0_popInto 0 = .ok (.aload_n 0, 1) := by decide +kernel
theorem dX0_popInto_1 : decode cX0_popInto 1 = .ok (.getfield 18, 3) := by decide +kernel
theorem dX0_popInto_4 : decode cX0_popInto 4 = .ok (.iconst 1, 1) := by decide +kernel
theorem dX0_popInto_5 : decode cX0_popInto 5 = .ok (.if_icmp .ge 6, 3) := by decide +kernel
theorem dX0_popInto_8 : decode cX0_popInto 8 = .ok (.bipush (-5), 2) := by decide +kernel
theorem dX0_popInto_10 : decode cX0_popInto 10 = .ok (.ireturn, 1) := by decide +kernel
theorem dX0_popInto_11 : decode cX0_popInto 11 = .ok (.aload_n 0, 1) := by decide +kernel
theorem dX0_popInto_12 : decode cX0_popInto 12 = .ok (.dup, 1) := by decide +kernel
theorem dX0_popInto_13 : decode cX0_popInto 13 = .ok (.getfield 18, 3) := by decide +kernel
theorem dX0_popInto_16 : decode cX0_popInto 16 = .ok (.iconst 1, 1) := by decide +kernel
theorem dX0_popInto_17 : decode cX0_popInto 17 = .ok (.isub, 1) := by decide +kernel
theorem dX0_popInto_18 : decode cX0_popInto 18 = .ok (.putfield 18, 3) := by decide +kernel
theorem dX0_popInto_21 : decode cX0_popInto 21 = .ok (.aload_n 1, 1) := by decide +kernel
theorem dX0_popInto_22 : decode cX0_popInto 22 = .ok (.aload_n 0, 1) := by decide +kernel
theorem dX0_popInto_23 : decode cX0_popInto 23 = .ok (.getfield 11, 3) := by decide +kernel
theorem dX0_popInto_26 : decode cX0_popInto 26 = .ok (.aload_n 0, 1) := by decide +kernel
theorem dX0_popInto_27 : decode cX0_popInto 27 = .ok (.getfield 18, 3) := by decide +kernel
theorem dX0_popInto_30 : decode cX0_popInto 30 = .ok (.aaload, 1) := by decide +kernel
theorem dX0_popInto_31 : decode cX0_popInto 31 = .ok (.invokevirtual 25, 3) := by decide +kernel
theorem dX0_popInto_34 : decode cX0_popInto 34 = .ok (.aload_n 0, 1) := by decide +kernel
theorem dX0_popInto_35 : decode cX0_popInto 35 = .ok (.getfield 18, 3) := by decide +kernel
theorem dX0_popInto_38 : decode cX0_popInto 38 = .ok (.ireturn, 1) := by decide +kernel
theorem dX1_init_0 : decode cX1_init 0 = .ok (.aload_n 0, 1) := by decide +kernel
theorem dX1_init_1 : decode cX1_init 1 = .ok (.invokespecial 3, 3) := by decide +kernel
theorem dX1_init_4 : decode cX1_init 4 = .ok (.aload_n 0, 1) := by decide +kernel
theorem dX1_init_5 : decode cX1_init 5 = .ok (.bipush 6, 2) := by decide +kernel
theorem dX1_init_7 : decode cX1_init 7 = .ok (.newarray .int, 2) := by decide +kernel
theorem dX1_init_9 : decode cX1_init 9 = .ok (.dup, 1) := by decide +kernel
theorem dX1_init_10 : decode cX1_init 10 = .ok (.iconst 0, 1) := by decide +kernel
theorem dX1_init_11 : decode cX1_init 11 = .ok (.iconst 1, 1) := by decide +kernel
theorem dX1_init_12 : decode cX1_init 12 = .ok (.iastore, 1) := by decide +kernel
theorem dX1_init_13 : decode cX1_init 13 = .ok (.dup, 1) := by decide +kernel
theorem dX1_init_14 : decode cX1_init 14 = .ok (.iconst 1, 1) := by decide +kernel
theorem dX1_init_15 : decode cX1_init 15 = .ok (.iconst 2, 1) := by decide +kernel
theorem dX1_init_16 : decode cX1_init 16 = .ok (.iastore, 1) := by decide +kernel
theorem dX1_init_17 : decode cX1_init 17 = .ok (.dup, 1) := by decide +kernel
theorem dX1_init_18 : decode cX1_init 18 = .ok (.iconst 2, 1) := by decide +kernel
theorem dX1_init_19 : decode cX1_init 19 = .ok (.iconst 0, 1) := by decide +kernel
theorem dX1_init_20 : decode cX1_init 20 = .ok (.iastore, 1) := by decide +kernel
theorem dX1_init_21 : decode cX1_init 21 = .ok (.dup, 1) := by decide +kernel
theorem dX1_init_22 : decode cX1_init 22 = .ok (.iconst 3, 1) := by decide +kernel
theorem dX1_init_23 : decode cX1_init 23 = .ok (.iconst 0, 1) := by decide +kernel
theorem dX1_init_24 : decode cX1_init 24 = .ok (.iastore, 1) := by decide +kernel
theorem dX1_init_25 : decode cX1_init 25 = .ok (.dup, 1) := by decide +kernel
theorem dX1_init_26 : decode cX1_init 26 = .ok (.iconst 4, 1) := by decide +kernel
theorem dX1_init_27 : decode cX1_init 27 = .ok (.iconst 0, 1) := by decide +kernel
theorem dX1_init_28 : decode cX1_init 28 = .ok (.iastore, 1) := by decide +kernel
theorem dX1_init_29 : decode cX1_init 29 = .ok (.dup, 1) := by decide +kernel
theorem dX1_init_30 : decode cX1_init 30 = .ok (.iconst 5, 1) := by decide +kernel
theorem dX1_init_31 : decode cX1_init 31 = .ok (.iconst 0, 1) := by decide +kernel
theorem dX1_init_32 : decode cX1_init 32 = .ok (.iastore, 1) := by decide +kernel
theorem dX1_init_33 : decode cX1_init 33 = .ok (.putfield 9, 3) := by decide +kernel
theorem dX1_init_36 : decode cX1_init 36 = .ok (.aload_n 0, 1) := by decide +kernel
theorem dX1_init_37 : decode cX1_init 37 = .ok (.bipush 10, 2) := by decide +kernel
theorem dX1_init_39 : decode cX1_init 39 = .ok (.putfield 15, 3) := by decide +kernel
theorem dX1_init_42 : decode cX1_init 42 = .ok (.return_, 1) := by decide +kernel
theorem dX1_isSetting_0 : decode cX1_isSetting 0 = .ok (.iload_n 0, 1) := by decide +kernel
theorem dX1_isSetting_1 : decode cX1_isSetting 1 = .ok (.ifCond .lt 13, 3) := by decide +kernel
theorem dX1_isSetting_4 : decode cX1_isSetting 4 = .ok (.iload_n 0, 1) := by decide +kernel
theorem dX1_isSetting_5 : decode cX1_isSetting 5 = .ok (.bipush 6, 2) := by decide +kernel
theorem dX1_isSetting_7 : decode cX1_isSetting 7 = .ok (.if_icmp .ge 7, 3) := by decide +kernel
theorem dX1_isSetting_10 : decode cX1_isSetting 10 = .ok (.iconst 1, 1) := by decide +kernel
theorem dX1_isSetting_11 : decode cX1_isSetting 11 = .ok (.goto 4, 3) := by decide +kernel
theorem dX1_isSetting_14 : decode cX1_isSetting 14 = .ok (.iconst 0, 1) := by decide +kernel
theorem dX1_isSetting_15 : decode cX1_isSetting 15 = .ok (.ireturn, 1) := by decide +kernel
set_option maxRecDepth 20000 in
theorem ggX1_isInRange_X1_isSetting : GoodIn wsX1_isInRange wsX1_isSetting := goodIn_r _ [6] (by decide +kernel) (by decide +kernel)
set_option maxRecDepth 20000 in
theorem gX1_isInRange_X1_isSetting : GoodIn wsX1_isInRange (va_wsS RX1 19 yX1_isSetting wsX1_isSetting) := goodIn_app (goodIn_of _ (by decide +kernel)) ggX1_isInRange_X1_isSetting
theorem dX1_isInRange_0 : decode cX1_isInRange 0 = .ok (.iload_n 0, 1) := by decide +kernel
theorem dX1_isInRange_1 : decode cX1_isInRange 1 = .ok (.invokestatic 19, 3) := by decide +kernel
theorem dX1_isInRange_4 : decode cX1_isInRange 4 = .ok (.ifCond .eq 25, 3) := by decide +kernel
theorem dX1_isInRange_7 : decode cX1_isInRange 7 = .ok (.iload_n 1, 1) := by decide +kernel
theorem dX1_isInRange_8 : decode cX1_isInRange 8 = .ok (.getstatic 23, 3) := by decide +kernel
theorem dX1_isInRange_11 : decode cX1_isInRange 11 = .ok (.iload_n 0, 1) := by decide +kernel
theorem dX1_isInRange_12 : decode cX1_isInRange 12 = .ok (.iaload, 1) := by decide +kernel
theorem dX1_isInRange_13 : decode cX1_isInRange 13 = .ok (.if_icmp .lt 16, 3) := by decide +kernel
theorem dX1_isInRange_16 : decode cX1_isInRange 16 = .ok (.iload_n 1, 1) := by decide +kernel
theorem dX1_isInRange_17 : decode cX1_isInRange 17 = .ok (.getstatic 26, 3) := by decide +kernel
theorem dX1_isInRange_20 : decode cX1_isInRange 20 = .ok (.iload_n 0, 1) := by decide +kernel
theorem dX1_isInRange_21 : decode cX1_isInRange 21 = .ok (.iaload, 1) := by decide +kernel
theorem dX1_isInRange_22 : decode cX1_isInRange 22 = .ok (.if_icmp .gt 7, 3) := by decide +kernel
theorem dX1_isInRange_25 : decode cX1_isInRange 25 = .ok (.iconst 1, 1) := by decide +kernel
theorem dX1_isInRange_26 : decode cX1_isInRange 26 = .ok (.goto 4, 3) := by decide +kernel
theorem dX1_isInRange_29 : decode cX1_isInRange 29 = .ok (.iconst 0, 1) := by decide +kernel
theorem dX1_isInRange_30 : decode cX1_isInRange 30 = .ok (.ireturn, 1) := by decide +kernel
theorem dX1_copyFrom_0 : decode cX1_copyFrom 0 = .ok (.aload_n 1, 1) := by decide +kernel
theorem dX1_copyFrom_1 : decode cX1_copyFrom 1 = .ok (.getfield 9, 3) := by decide +kernel
theorem dX1_copyFrom_4 : decode cX1_copyFrom 4 = .ok (.iconst 0, 1) := by decide +kernel
theorem dX1_copyFrom_5 : decode cX1_copyFrom 5 = .ok (.aload_n 0, 1) := by decide +kernel
theorem dX1_copyFrom_6 : decode cX1_copyFrom 6 = .ok (.getfield 9, 3) := by decide +kernel
theorem dX1_copyFrom_9 : decode cX1_copyFrom 9 = .ok (.iconst 0, 1) := by decide +kernel
theorem dX1_copyFrom_10 : decode cX1_copyFrom 10 = .ok (.bipush 6, 2) := by decide +kernel
theorem dX1_copyFrom_12 : decode cX1_copyFrom 12 = .ok (.invokestatic 29, 3) := by decide +kernel
theorem dX1_copyFrom_15 : decode cX1_copyFrom 15 = .ok (.aload_n 0, 1) := by decide +kernel
theorem dX1_copyFrom_16 : decode cX1_copyFrom 16 = .ok (.aload_n 1, 1) := by decide +kernel
theorem dX1_copyFrom_17 : decode cX1_copyFrom 17 = .ok (.getfield 35, 3) := by decide +kernel
theorem dX1_copyFrom_20 : decode cX1_copyFrom 20 = .ok (.putfield 35, 3) := by decide +kernel
theorem dX1_copyFrom_23 : decode cX1_copyFrom 23 = .ok (.aload_n 0, 1) := by decide +kernel
theorem dX1_copyFrom_24 : decode cX1_copyFrom 24 = .ok (.aload_n 1, 1) := by decide +kernel
theorem dX1_copyFrom_25 : decode cX1_copyFrom 25 = .ok (.getfield 38, 3) := by decide +kernel
theorem dX1_copyFrom_28 : decode cX1_copyFrom 28 = .ok (.putfield 38, 3) := by decide +kernel
theorem dX1_copyFrom_31 : decode cX1_copyFrom 31 = .ok (.aload_n 0, 1) := by decide +kernel
theorem dX1_copyFrom_32 : decode cX1_copyFrom 32 = .ok (.aload_n 1, 1) := by decide +kernel
theorem dX1_copyFrom_33 : decode cX1_copyFrom 33 = .ok (.getfield 15, 3) := by decide +kernel
theorem dX1_copyFrom_36 : decode cX1_copyFrom 36 = .ok (.putfield 15, 3) := by decide +kernel
theorem dX1_copyFrom_39 : decode cX1_copyFrom 39 = .ok (.aload_n 0, 1) := by decide +kernel
theorem dX1_copyFrom_40 : decode cX1_copyFrom 40 = .ok (.aload_n 1, 1) := by decide +kernel
theorem dX1_copyFrom_41 : decode cX1_copyFrom 41 = .ok (.getfield 41, 3) := by decide +kernel
theorem dX1_copyFrom_44 : decode cX1_copyFrom 44 = .ok (.putfield 41, 3) := by decide +kernel
theorem dX1_copyFrom_47 : decode cX1_copyFrom 47 = .ok (.aload_n 0, 1) := by decide +kernel
theorem dX1_copyFrom_48 : decode cX1_copyFrom 48 = .ok (.aload_n 1, 1) := by decide +kernel
theorem dX1_copyFrom_49 : decode cX1_copyFrom 49 = .ok (.getfield 45, 3) := by decide +kernel
theorem dX1_copyFrom_52 : decode cX1_copyFrom 52 = .ok (.putfield 45, 3) := by decide +kernel
theorem dX1_copyFrom_55 : decode cX1_copyFrom 55 = .ok (.aload_n 0, 1) := by decide +kernel
theorem dX1_copyFrom_56 : decode cX1_copyFrom 56 = .ok (.aload_n 1, 1) := by decide +kernel
theorem dX1_copyFrom_57 : decode cX1_copyFrom 57 = .ok (.getfield 49, 3) := by decide +kernel
theorem dX1_copyFrom_60 : decode cX1_copyFrom 60 = .ok (.putfield 49, 3) := by decide +kernel
theorem dX1_copyFrom_63 : decode cX1_copyFrom 63 = .ok (.aload_n 0, 1) := by decide +kernel
theorem dX1_copyFrom_64 : decode cX1_copyFrom 64 = .ok (.aload_n 1, 1) := by decide +kernel
theorem dX1_copyFrom_65 : decode cX1_copyFrom 65 = .ok (.getfield 52, 3) := by decide +kernel
theorem dX1_copyFrom_68 : decode cX1_copyFrom 68 = .ok (.putfield 52, 3) := by decide +kernel
theorem dX1_copyFrom_71 : decode cX1_copyFrom 71 = .ok (.return_, 1) := by decide +kernel
theorem dX1_capacityAt_0 : decode cX1_capacityAt 0 = .ok (.aload_n 0, 1) := by decide +kernel
theorem dX1_capacityAt_1 : decode cX1_capacityAt 1 = .ok (.getfield 9, 3) := by decide +kernel
theorem dX1_capacityAt_4 : decode cX1_capacityAt 4 = .ok (.iconst 0, 1) := by decide +kernel
theorem dX1_capacityAt_5 : decode cX1_capacityAt 5 = .ok (.iaload, 1) := by decide +kernel
theorem dX1_capacityAt_6 : decode cX1_capacityAt 6 = .ok (.bipush 40, 2) := by decide +kernel
theorem dX1_capacityAt_8 : decode cX1_capacityAt 8 = .ok (.aload_n 0, 1) := by decide +kernel
theorem dX1_capacityAt_9 : decode cX1_capacityAt 9 = .ok (.getfield 9, 3) := by decide +kernel
theorem dX1_capacityAt_12 : decode cX1_capacityAt 12 = .ok (.iconst 1, 1) := by decide +kernel
theorem dX1_capacityAt_13 : decode cX1_capacityAt 13 = .ok (.iaload, 1) := by decide +kernel
theorem dX1_capacityAt_14 : decode cX1_capacityAt 14 = .ok (.iconst 1, 1) := by decide +kernel
theorem dX1_capacityAt_15 : decode cX1_capacityAt 15 = .ok (.isub, 1) := by decide +kernel
theorem dX1_capacityAt_16 : decode cX1_capacityAt 16 = .ok (.iload_n 1, 1) := by decide +kernel
theorem dX1_capacityAt_17 : decode cX1_capacityAt 17 = .ok (.imul, 1) := by decide +kernel
theorem dX1_capacityAt_18 : decode cX1_capacityAt 18 = .ok (.iadd, 1) := by decide +kernel
theorem dX1_capacityAt_19 : decode cX1_capacityAt 19 = .ok (.imul, 1) := by decide +kernel
theorem dX1_capacityAt_20 : decode cX1_capacityAt 20 = .ok (.ireturn, 1) := by decide +kernel
set_option maxRecDepth 20000 in
theorem ggX1_stored_X1_capacityAt : GoodIn wsX1_stored wsX1_capacityAt := goodIn_r _ [9, 10, 11, 12, 13, 14, 15, 16, 17, 18] (by decide +kernel) (by decide +kernel)
set_option maxRecDepth 20000 in
theorem gX1_stored_X1_capacityAt : GoodIn wsX1_stored (wsV RX1 55 RX1 yX1_capacityAt wsX1_capacityAt) := goodIn_app (goodIn_of _ (by decide +kernel)) ggX1_stored_X1_capacityAt
theorem dX1_stored_0 : decode cX1_stored 0 = .ok (.aload_n 0, 1) := by decide +kernel
theorem dX1_stored_1 : decode cX1_stored 1 = .ok (.getfield 41, 3) := by decide +kernel
theorem dX1_stored_4 : decode cX1_stored 4 = .ok (.ifCond .eq 15, 3) := by decide +kernel
theorem dX1_stored_7 : decode cX1_stored 7 = .ok (.aload_n 0, 1) := by decide +kernel
theorem dX1_stored_8 : decode cX1_stored 8 = .ok (.getfield 15, 3) := by decide +kernel
theorem dX1_stored_11 : decode cX1_stored 11 = .ok (.i2l, 1) := by decide +kernel
theorem dX1_stored_12 : decode cX1_stored 12 = .ok (.aload_n 0, 1) := by decide +kernel
theorem dX1_stored_13 : decode cX1_stored 13 = .ok (.getfield 38, 3) := by decide +kernel
theorem dX1_stored_16 : decode cX1_stored 16 = .ok (.i2l, 1) := by decide +kernel
theorem dX1_stored_17 : decode cX1_stored 17 = .ok (.lmul, 1) := by decide +kernel
theorem dX1_stored_18 : decode cX1_stored 18 = .ok (.lreturn, 1) := by decide +kernel
theorem dX1_stored_19 : decode cX1_stored 19 = .ok (.aload_n 0, 1) := by decide +kernel
theorem dX1_stored_20 : decode cX1_stored 20 = .ok (.aload_n 0, 1) := by decide +kernel
theorem dX1_stored_21 : decode cX1_stored 21 = .ok (.getfield 35, 3) := by decide +kernel
theorem dX1_stored_24 : decode cX1_stored 24 = .ok (.invokevirtual 55, 3) := by decide +kernel
theorem dX1_stored_27 : decode cX1_stored 27 = .ok (.i2l, 1) := by decide +kernel
theorem dX1_stored_28 : decode cX1_stored 28 = .ok (.lstore_n 1, 1) := by decide +kernel
theorem dX1_stored_29 : decode cX1_stored 29 = .ok (.lload_n 1, 1) := by decide +kernel
theorem dX1_stored_30 : decode cX1_stored 30 = .ok (.lconst 1, 1) := by decide +kernel
theorem dX1_stored_31 : decode cX1_stored 31 = .ok (.lcmp, 1) := by decide +kernel
theorem dX1_stored_32 : decode cX1_stored 32 = .ok (.ifCond .ge 7, 3) := by decide +kernel
theorem dX1_stored_35 : decode cX1_stored 35 = .ok (.lconst 0, 1) := by decide +kernel
theorem dX1_stored_36 : decode cX1_stored 36 = .ok (.goto 16, 3) := by decide +kernel
theorem dX1_stored_39 : decode cX1_stored 39 = .ok (.aload_n 0, 1) := by decide +kernel
theorem dX1_stored_40 : decode cX1_stored 40 = .ok (.getfield 38, 3) := by decide +kernel
theorem dX1_stored_43 : decode cX1_stored 43 = .ok (.i2l, 1) := by decide +kernel
theorem dX1_stored_44 : decode cX1_stored 44 = .ok (.aload_n 0, 1) := by decide +kernel
theorem dX1_stored_45 : decode cX1_stored 45 = .ok (.getfield 38, 3) := by decide +kernel
theorem dX1_stored_48 : decode cX1_stored 48 = .ok (.i2l, 1) := by decide +kernel
theorem dX1_stored_49 : decode cX1_stored 49 = .ok (.lmul, 1) := by decide +kernel
theorem dX1_stored_50 : decode cX1_stored 50 = .ok (.lload_n 1, 1) := by decide +kernel
theorem dX1_stored_51 : decode cX1_stored 51 = .ok (.ldiv, 1) := by decide +kernel
theorem dX1_stored_52 : decode cX1_stored 52 = .ok (.lreturn, 1) := by decide +kernel
theorem dX1_pullOf_0 : decode cX1_pullOf 0 = .ok (.aload_n 0, 1) := by decide +kernel
theorem dX1_pullOf_1 : decode cX1_pullOf 1 = .ok (.getfield 9, 3) := by decide +kernel
theorem dX1_pullOf_4 : decode cX1_pullOf 4 = .ok (.iconst 0, 1) := by decide +kernel
theorem dX1_pullOf_5 : decode cX1_pullOf 5 = .ok (.iaload, 1) := by decide +kernel
theorem dX1_pullOf_6 : decode cX1_pullOf 6 = .ok (.aload_n 0, 1) := by decide +kernel
theorem dX1_pullOf_7 : decode cX1_pullOf 7 = .ok (.getfield 9, 3) := by decide +kernel
theorem dX1_pullOf_10 : decode cX1_pullOf 10 = .ok (.iconst 1, 1) := by decide +kernel
theorem dX1_pullOf_11 : decode cX1_pullOf 11 = .ok (.iaload, 1) := by decide +kernel
theorem dX1_pullOf_12 : decode cX1_pullOf 12 = .ok (.iconst 1, 1) := by decide +kernel
theorem dX1_pullOf_13 : decode cX1_pullOf 13 = .ok (.isub, 1) := by decide +kernel
theorem dX1_pullOf_14 : decode cX1_pullOf 14 = .ok (.imul, 1) := by decide +kernel
theorem dX1_pullOf_15 : decode cX1_pullOf 15 = .ok (.iload_n 1, 1) := by decide +kernel
theorem dX1_pullOf_16 : decode cX1_pullOf 16 = .ok (.imul, 1) := by decide +kernel
theorem dX1_pullOf_17 : decode cX1_pullOf 17 = .ok (.iload_n 1, 1) := by decide +kernel
theorem dX1_pullOf_18 : decode cX1_pullOf 18 = .ok (.imul, 1) := by decide +kernel
theorem dX1_pullOf_19 : decode cX1_pullOf 19 = .ok (.ireturn, 1) := by decide +kernel
set_option maxRecDepth 20000 in
theorem ggX1_pullAt_X1_pullOf : GoodIn wsX1_pullAt wsX1_pullOf := goodIn_r _ [9, 3, 14, 15, 16, 17, 18, 19, 20, 21] (by decide +kernel) (by decide +kernel)
set_option maxRecDepth 20000 in
theorem gX1_pullAt_X1_pullOf : GoodIn wsX1_pullAt (wsV RX1 59 RX1 yX1_pullOf wsX1_pullOf) := goodIn_app (goodIn_of _ (by decide +kernel)) ggX1_pullAt_X1_pullOf
set_option maxRecDepth 20000 in
theorem ggX1_pullAt_X1_capacityAt : GoodIn wsX1_pullAt wsX1_capacityAt := goodIn_r _ [13, 3, 14, 15, 16, 17, 18, 19, 20, 21] (by decide +kernel) (by decide +kernel)
set_option maxRecDepth 20000 in
theorem gX1_pullAt_X1_capacityAt : GoodIn wsX1_pullAt (wsV RX1 55 RX1 yX1_capacityAt wsX1_capacityAt) := goodIn_app (goodIn_of _ (by decide +kernel)) ggX1_pullAt_X1_capacityAt
theorem dX1_pullAt_0 : decode cX1_pullAt 0 = .ok (.aload_n 0, 1) := by decide +kernel
theorem dX1_pullAt_1 : decode cX1_pullAt 1 = .ok (.getfield 41, 3) := by decide +kernel
theorem dX1_pullAt_4 : decode cX1_pullAt 4 = .ok (.ifCond .eq 12, 3) := by decide +kernel
theorem dX1_pullAt_7 : decode cX1_pullAt 7 = .ok (.aload_n 0, 1) := by decide +kernel
theorem dX1_pullAt_8 : decode cX1_pullAt 8 = .ok (.aload_n 0, 1) := by decide +kernel
theorem dX1_pullAt_9 : decode cX1_pullAt 9 = .ok (.getfield 15, 3) := by decide +kernel
theorem dX1_pullAt_12 : decode cX1_pullAt 12 = .ok (.invokevirtual 59, 3) := by decide +kernel
theorem dX1_pullAt_15 : decode cX1_pullAt 15 = .ok (.ireturn, 1) := by decide +kernel
theorem dX1_pullAt_16 : decode cX1_pullAt 16 = .ok (.aload_n 0, 1) := by decide +kernel
theorem dX1_pullAt_17 : decode cX1_pullAt 17 = .ok (.iload_n 1, 1) := by decide +kernel
theorem dX1_pullAt_18 : decode cX1_pullAt 18 = .ok (.invokevirtual 55, 3) := by decide +kernel
theorem dX1_pullAt_21 : decode cX1_pullAt 21 = .ok (.i2l, 1) := by decide +kernel
theorem dX1_pullAt_22 : decode cX1_pullAt 22 = .ok (.lstore_n 2, 1) := by decide +kernel
theorem dX1_pullAt_23 : decode cX1_pullAt 23 = .ok (.lload_n 2, 1) := by decide +kernel
theorem dX1_pullAt_24 : decode cX1_pullAt 24 = .ok (.lconst 1, 1) := by decide +kernel
theorem dX1_pullAt_25 : decode cX1_pullAt 25 = .ok (.lcmp, 1) := by decide +kernel
theorem dX1_pullAt_26 : decode cX1_pullAt 26 = .ok (.ifCond .ge 5, 3) := by decide +kernel
theorem dX1_pullAt_29 : decode cX1_pullAt 29 = .ok (.iconst 0, 1) := by decide +kernel
theorem dX1_pullAt_30 : decode cX1_pullAt 30 = .ok (.ireturn, 1) := by decide +kernel
theorem dX1_pullAt_31 : decode cX1_pullAt 31 = .ok (.aload_n 0, 1) := by decide +kernel
theorem dX1_pullAt_32 : decode cX1_pullAt 32 = .ok (.getfield 9, 3) := by decide +kernel
theorem dX1_pullAt_35 : decode cX1_pullAt 35 = .ok (.iconst 0, 1) := by decide +kernel
theorem dX1_pullAt_36 : decode cX1_pullAt 36 = .ok (.iaload, 1) := by decide +kernel
theorem dX1_pullAt_37 : decode cX1_pullAt 37 = .ok (.aload_n 0, 1) := by decide +kernel
theorem dX1_pullAt_38 : decode cX1_pullAt 38 = .ok (.getfield 9, 3) := by decide +kernel
theorem dX1_pullAt_41 : decode cX1_pullAt 41 = .ok (.iconst 1, 1) := by decide +kernel
theorem dX1_pullAt_42 : decode cX1_pullAt 42 = .ok (.iaload, 1) := by decide +kernel
theorem dX1_pullAt_43 : decode cX1_pullAt 43 = .ok (.iconst 1, 1) := by decide +kernel
theorem dX1_pullAt_44 : decode cX1_pullAt 44 = .ok (.isub, 1) := by decide +kernel
theorem dX1_pullAt_45 : decode cX1_pullAt 45 = .ok (.imul, 1) := by decide +kernel
theorem dX1_pullAt_46 : decode cX1_pullAt 46 = .ok (.i2l, 1) := by decide +kernel
theorem dX1_pullAt_47 : decode cX1_pullAt 47 = .ok (.lstore 4, 2) := by decide +kernel
theorem dX1_pullAt_49 : decode cX1_pullAt 49 = .ok (.lload 4, 2) := by decide +kernel
theorem dX1_pullAt_51 : decode cX1_pullAt 51 = .ok (.aload_n 0, 1) := by decide +kernel
theorem dX1_pullAt_52 : decode cX1_pullAt 52 = .ok (.getfield 38, 3) := by decide +kernel
theorem dX1_pullAt_55 : decode cX1_pullAt 55 = .ok (.i2l, 1) := by decide +kernel
theorem dX1_pullAt_56 : decode cX1_pullAt 56 = .ok (.lmul, 1) := by decide +kernel
theorem dX1_pullAt_57 : decode cX1_pullAt 57 = .ok (.aload_n 0, 1) := by decide +kernel
theorem dX1_pullAt_58 : decode cX1_pullAt 58 = .ok (.getfield 38, 3) := by decide +kernel
theorem dX1_pullAt_61 : decode cX1_pullAt 61 = .ok (.i2l, 1) := by decide +kernel
theorem dX1_pullAt_62 : decode cX1_pullAt 62 = .ok (.lmul, 1) := by decide +kernel
theorem dX1_pullAt_63 : decode cX1_pullAt 63 = .ok (.lload_n 2, 1) := by decide +kernel
theorem dX1_pullAt_64 : decode cX1_pullAt 64 = .ok (.lload_n 2, 1) := by decide +kernel
theorem dX1_pullAt_65 : decode cX1_pullAt 65 = .ok (.lmul, 1) := by decide +kernel
theorem dX1_pullAt_66 : decode cX1_pullAt 66 = .ok (.ldiv, 1) := by decide +kernel
theorem dX1_pullAt_67 : decode cX1_pullAt 67 = .ok (.l2i, 1) := by decide +kernel
theorem dX1_pullAt_68 : decode cX1_pullAt 68 = .ok (.ireturn, 1) := by decide +kernel
theorem dX1_drawnBackAt_0 : decode cX1_drawnBackAt 0 = .ok (.aload_n 0, 1) := by decide +kernel
theorem dX1_drawnBackAt_1 : decode cX1_drawnBackAt 1 = .ok (.getfield 9, 3) := by decide +kernel
theorem dX1_drawnBackAt_4 : decode cX1_drawnBackAt 4 = .ok (.iconst 2, 1) := by decide +kernel
theorem dX1_drawnBackAt_5 : decode cX1_drawnBackAt 5 = .ok (.iaload, 1) := by decide +kernel
theorem dX1_drawnBackAt_6 : decode cX1_drawnBackAt 6 = .ok (.iload_n 1, 1) := by decide +kernel
theorem dX1_drawnBackAt_7 : decode cX1_drawnBackAt 7 = .ok (.aload_n 0, 1) := by decide +kernel
theorem dX1_drawnBackAt_8 : decode cX1_drawnBackAt 8 = .ok (.getfield 9, 3) := by decide +kernel
theorem dX1_drawnBackAt_11 : decode cX1_drawnBackAt 11 = .ok (.iconst 3, 1) := by decide +kernel
theorem dX1_drawnBackAt_12 : decode cX1_drawnBackAt 12 = .ok (.iaload, 1) := by decide +kernel
theorem dX1_drawnBackAt_13 : decode cX1_drawnBackAt 13 = .ok (.isub, 1) := by decide +kernel
theorem dX1_drawnBackAt_14 : decode cX1_drawnBackAt 14 = .ok (.imul, 1) := by decide +kernel
theorem dX1_drawnBackAt_15 : decode cX1_drawnBackAt 15 = .ok (.ireturn, 1) := by decide +kernel
set_option maxRecDepth 20000 in
theorem ggX1_netAt_X1_pullAt : GoodIn wsX1_netAt wsX1_pullAt := goodIn_r _ [5, 6, 7, 8, 9, 10, 11, 12, 4, 13, 14, 15, 16, 17, 22, 23, 24, 25, 26, 27, 28, 29] (by decide +kernel) (by decide +kernel)
set_option maxRecDepth 20000 in
theorem gX1_netAt_X1_pullAt : GoodIn wsX1_netAt (wsV RX1 62 RX1 yX1_pullAt wsX1_pullAt) := goodIn_app (goodIn_of _ (by decide +kernel)) ggX1_netAt_X1_pullAt
set_option maxRecDepth 20000 in
theorem ggX1_netAt_X1_drawnBackAt : GoodIn wsX1_netAt wsX1_drawnBackAt := goodIn_r _ [21, 8, 22, 23, 24, 25, 26, 27, 28, 29] (by decide +kernel) (by decide +kernel)
set_option maxRecDepth 20000 in
theorem gX1_netAt_X1_drawnBackAt : GoodIn wsX1_netAt (wsV RX1 65 RX1 yX1_drawnBackAt wsX1_drawnBackAt) := goodIn_app (goodIn_of _ (by decide +kernel)) ggX1_netAt_X1_drawnBackAt
theorem dX1_netAt_0 : decode cX1_netAt 0 = .ok (.aload_n 0, 1) := by decide +kernel
theorem dX1_netAt_1 : decode cX1_netAt 1 = .ok (.iload_n 1, 1) := by decide +kernel
theorem dX1_netAt_2 : decode cX1_netAt 2 = .ok (.invokevirtual 62, 3) := by decide +kernel
theorem dX1_netAt_5 : decode cX1_netAt 5 = .ok (.aload_n 0, 1) := by decide +kernel
theorem dX1_netAt_6 : decode cX1_netAt 6 = .ok (.iload_n 1, 1) := by decide +kernel
theorem dX1_netAt_7 : decode cX1_netAt 7 = .ok (.invokevirtual 65, 3) := by decide +kernel
theorem dX1_netAt_10 : decode cX1_netAt 10 = .ok (.isub, 1) := by decide +kernel
theorem dX1_netAt_11 : decode cX1_netAt 11 = .ok (.ireturn, 1) := by decide +kernel
theorem dX1_stepBy_0 : decode cX1_stepBy 0 = .ok (.iload_n 1, 1) := by decide +kernel
theorem dX1_stepBy_1 : decode cX1_stepBy 1 = .ok (.invokestatic 68, 3) := by decide +kernel
theorem dX1_stepBy_4 : decode cX1_stepBy 4 = .ok (.aload_n 0, 1) := by decide +kernel
theorem dX1_stepBy_5 : decode cX1_stepBy 5 = .ok (.getfield 9, 3) := by decide +kernel
theorem dX1_stepBy_8 : decode cX1_stepBy 8 = .ok (.iconst 4, 1) := by decide +kernel
theorem dX1_stepBy_9 : decode cX1_stepBy 9 = .ok (.iaload, 1) := by decide +kernel
theorem dX1_stepBy_10 : decode cX1_stepBy 10 = .ok (.if_icmp .gt 5, 3) := by decide +kernel
theorem dX1_stepBy_13 : decode cX1_stepBy 13 = .ok (.iconst 0, 1) := by decide +kernel
theorem dX1_stepBy_14 : decode cX1_stepBy 14 = .ok (.ireturn, 1) := by decide +kernel
theorem dX1_stepBy_15 : decode cX1_stepBy 15 = .ok (.iload_n 1, 1) := by decide +kernel
theorem dX1_stepBy_16 : decode cX1_stepBy 16 = .ok (.ifCond .le 18, 3) := by decide +kernel
theorem dX1_stepBy_19 : decode cX1_stepBy 19 = .ok (.aload_n 0, 1) := by decide +kernel
theorem dX1_stepBy_20 : decode cX1_stepBy 20 = .ok (.getfield 35, 3) := by decide +kernel
theorem dX1_stepBy_23 : decode cX1_stepBy 23 = .ok (.bipush 40, 2) := by decide +kernel
theorem dX1_stepBy_25 : decode cX1_stepBy 25 = .ok (.if_icmp .ge 7, 3) := by decide +kernel
theorem dX1_stepBy_28 : decode cX1_stepBy 28 = .ok (.iconst 1, 1) := by decide +kernel
theorem dX1_stepBy_29 : decode cX1_stepBy 29 = .ok (.goto 4, 3) := by decide +kernel
theorem dX1_stepBy_32 : decode cX1_stepBy 32 = .ok (.iconst 0, 1) := by decide +kernel
theorem dX1_stepBy_33 : decode cX1_stepBy 33 = .ok (.ireturn, 1) := by decide +kernel
theorem dX1_stepBy_34 : decode cX1_stepBy 34 = .ok (.aload_n 0, 1) := by decide +kernel
theorem dX1_stepBy_35 : decode cX1_stepBy 35 = .ok (.getfield 35, 3) := by decide +kernel
theorem dX1_stepBy_38 : decode cX1_stepBy 38 = .ok (.ifCond .le 7, 3) := by decide +kernel
theorem dX1_stepBy_41 : decode cX1_stepBy 41 = .ok (.iconst (-1), 1) := by decide +kernel
theorem dX1_stepBy_42 : decode cX1_stepBy 42 = .ok (.goto 4, 3) := by decide +kernel
theorem dX1_stepBy_45 : decode cX1_stepBy 45 = .ok (.iconst 0, 1) := by decide +kernel
theorem dX1_stepBy_46 : decode cX1_stepBy 46 = .ok (.ireturn, 1) := by decide +kernel
set_option maxRecDepth 20000 in
theorem ggX1_reasonNow_X1_netAt : GoodIn wsX1_reasonNow wsX1_netAt := goodIn_r _ [11, 12, 13, 14, 10, 15, 16, 17, 6, 18, 19, 20, 21, 22, 23, 24, 25, 26, 27, 28, 29, 30, 35, 36, 37, 38, 39, 40, 41, 42] (by decide +kernel) (by decide +kernel)
set_option maxRecDepth 20000 in
theorem gX1_reasonNow_X1_netAt : GoodIn wsX1_reasonNow (wsV RX1 73 RX1 yX1_netAt wsX1_netAt) := goodIn_app (goodIn_of _ (by decide +kernel)) ggX1_reasonNow_X1_netAt
set_option maxRecDepth 20000 in
theorem ggX1_reasonNow_X1_stepBy : GoodIn wsX1_reasonNow wsX1_stepBy := goodIn_r _ [34, 2, 3, 4, 5, 6, 1, 35, 36, 37, 38, 39, 40, 41, 42] (by decide +kernel) (by decide +kernel)
set_option maxRecDepth 20000 in
theorem gX1_reasonNow_X1_stepBy : GoodIn wsX1_reasonNow (wsV RX1 76 RX1 yX1_stepBy wsX1_stepBy) := goodIn_app (goodIn_of _ (by decide +kernel)) ggX1_reasonNow_X1_stepBy
theorem dX1_reasonNow_0 : decode cX1_reasonNow 0 = .ok (.aload_n 0, 1) := by decide +kernel
theorem dX1_reasonNow_1 : decode cX1_reasonNow 1 = .ok (.aload_n 0, 1) := by decide +kernel
theorem dX1_reasonNow_2 : decode cX1_reasonNow 2 = .ok (.getfield 35, 3) := by decide +kernel
theorem dX1_reasonNow_5 : decode cX1_reasonNow 5 = .ok (.invokevirtual 73, 3) := by decide +kernel
theorem dX1_reasonNow_8 : decode cX1_reasonNow 8 = .ok (.istore_n 1, 1) := by decide +kernel
theorem dX1_reasonNow_9 : decode cX1_reasonNow 9 = .ok (.aload_n 0, 1) := by decide +kernel
theorem dX1_reasonNow_10 : decode cX1_reasonNow 10 = .ok (.iload_n 1, 1) := by decide +kernel
theorem dX1_reasonNow_11 : decode cX1_reasonNow 11 = .ok (.invokevirtual 76, 3) := by decide +kernel
theorem dX1_reasonNow_14 : decode cX1_reasonNow 14 = .ok (.ifCond .eq 13, 3) := by decide +kernel
theorem dX1_reasonNow_17 : decode cX1_reasonNow 17 = .ok (.iload_n 1, 1) := by decide +kernel
theorem dX1_reasonNow_18 : decode cX1_reasonNow 18 = .ok (.ifCond .le 7, 3) := by decide +kernel
theorem dX1_reasonNow_21 : decode cX1_reasonNow 21 = .ok (.iconst 0, 1) := by decide +kernel
theorem dX1_reasonNow_22 : decode cX1_reasonNow 22 = .ok (.goto 4, 3) := by decide +kernel
theorem dX1_reasonNow_25 : decode cX1_reasonNow 25 = .ok (.iconst 1, 1) := by decide +kernel
theorem dX1_reasonNow_26 : decode cX1_reasonNow 26 = .ok (.ireturn, 1) := by decide +kernel
theorem dX1_reasonNow_27 : decode cX1_reasonNow 27 = .ok (.iload_n 1, 1) := by decide +kernel
theorem dX1_reasonNow_28 : decode cX1_reasonNow 28 = .ok (.ifCond .ne 5, 3) := by decide +kernel
theorem dX1_reasonNow_31 : decode cX1_reasonNow 31 = .ok (.iconst 2, 1) := by decide +kernel
theorem dX1_reasonNow_32 : decode cX1_reasonNow 32 = .ok (.ireturn, 1) := by decide +kernel
theorem dX1_reasonNow_33 : decode cX1_reasonNow 33 = .ok (.iload_n 1, 1) := by decide +kernel
theorem dX1_reasonNow_34 : decode cX1_reasonNow 34 = .ok (.invokestatic 68, 3) := by decide +kernel
theorem dX1_reasonNow_37 : decode cX1_reasonNow 37 = .ok (.aload_n 0, 1) := by decide +kernel
theorem dX1_reasonNow_38 : decode cX1_reasonNow 38 = .ok (.getfield 9, 3) := by decide +kernel
theorem dX1_reasonNow_41 : decode cX1_reasonNow 41 = .ok (.iconst 4, 1) := by decide +kernel
theorem dX1_reasonNow_42 : decode cX1_reasonNow 42 = .ok (.iaload, 1) := by decide +kernel
theorem dX1_reasonNow_43 : decode cX1_reasonNow 43 = .ok (.if_icmp .gt 7, 3) := by decide +kernel
theorem dX1_reasonNow_46 : decode cX1_reasonNow 46 = .ok (.iconst 3, 1) := by decide +kernel
theorem dX1_reasonNow_47 : decode cX1_reasonNow 47 = .ok (.goto 4, 3) := by decide +kernel
theorem dX1_reasonNow_50 : decode cX1_reasonNow 50 = .ok (.iconst 4, 1) := by decide +kernel
theorem dX1_reasonNow_51 : decode cX1_reasonNow 51 = .ok (.ireturn, 1) := by decide +kernel
set_option maxRecDepth 20000 in
theorem ggX1_isDrawnInAt_X1_pullOf : GoodIn wsX1_isDrawnInAt wsX1_pullOf := goodIn_r _ [6, 1, 11, 12, 13, 14, 15, 16, 17, 18] (by decide +kernel) (by decide +kernel)
set_option maxRecDepth 20000 in
theorem gX1_isDrawnInAt_X1_pullOf : GoodIn wsX1_isDrawnInAt (wsV RX1 59 RX1 yX1_pullOf wsX1_pullOf) := goodIn_app (goodIn_of _ (by decide +kernel)) ggX1_isDrawnInAt_X1_pullOf
set_option maxRecDepth 20000 in
theorem ggX1_isDrawnInAt_X1_drawnBackAt : GoodIn wsX1_isDrawnInAt wsX1_drawnBackAt := goodIn_r _ [10, 1, 11, 12, 13, 14, 15, 16, 17, 18] (by decide +kernel) (by decide +kernel)
set_option maxRecDepth 20000 in
theorem gX1_isDrawnInAt_X1_drawnBackAt : GoodIn wsX1_isDrawnInAt (wsV RX1 65 RX1 yX1_drawnBackAt wsX1_drawnBackAt) := goodIn_app (goodIn_of _ (by decide +kernel)) ggX1_isDrawnInAt_X1_drawnBackAt
theorem dX1_isDrawnInAt_0 : decode cX1_isDrawnInAt 0 = .ok (.iload_n 1, 1) := by decide +kernel
theorem dX1_isDrawnInAt_1 : decode cX1_isDrawnInAt 1 = .ok (.bipush 40, 2) := by decide +kernel
theorem dX1_isDrawnInAt_3 : decode cX1_isDrawnInAt 3 = .ok (.if_icmp .ge 27, 3) := by decide +kernel
theorem dX1_isDrawnInAt_6 : decode cX1_isDrawnInAt 6 = .ok (.aload_n 0, 1) := by decide +kernel
theorem dX1_isDrawnInAt_7 : decode cX1_isDrawnInAt 7 = .ok (.iload_n 2, 1) := by decide +kernel
theorem dX1_isDrawnInAt_8 : decode cX1_isDrawnInAt 8 = .ok (.invokevirtual 59, 3) := by decide +kernel
theorem dX1_isDrawnInAt_11 : decode cX1_isDrawnInAt 11 = .ok (.aload_n 0, 1) := by decide +kernel
theorem dX1_isDrawnInAt_12 : decode cX1_isDrawnInAt 12 = .ok (.iload_n 1, 1) := by decide +kernel
theorem dX1_isDrawnInAt_13 : decode cX1_isDrawnInAt 13 = .ok (.invokevirtual 65, 3) := by decide +kernel
theorem dX1_isDrawnInAt_16 : decode cX1_isDrawnInAt 16 = .ok (.isub, 1) := by decide +kernel
theorem dX1_isDrawnInAt_17 : decode cX1_isDrawnInAt 17 = .ok (.aload_n 0, 1) := by decide +kernel
theorem dX1_isDrawnInAt_18 : decode cX1_isDrawnInAt 18 = .ok (.getfield 9, 3) := by decide +kernel
theorem dX1_isDrawnInAt_21 : decode cX1_isDrawnInAt 21 = .ok (.iconst 4, 1) := by decide +kernel
theorem dX1_isDrawnInAt_22 : decode cX1_isDrawnInAt 22 = .ok (.iaload, 1) := by decide +kernel
theorem dX1_isDrawnInAt_23 : decode cX1_isDrawnInAt 23 = .ok (.if_icmp .le 7, 3) := by decide +kernel
theorem dX1_isDrawnInAt_26 : decode cX1_isDrawnInAt 26 = .ok (.iconst 1, 1) := by decide +kernel
theorem dX1_isDrawnInAt_27 : decode cX1_isDrawnInAt 27 = .ok (.goto 4, 3) := by decide +kernel
theorem dX1_isDrawnInAt_30 : decode cX1_isDrawnInAt 30 = .ok (.iconst 0, 1) := by decide +kernel
theorem dX1_isDrawnInAt_31 : decode cX1_isDrawnInAt 31 = .ok (.ireturn, 1) := by decide +kernel
set_option maxRecDepth 20000 in
theorem ggX1_isDrawnAllTheWayIn_X1_isDrawnInAt : GoodIn wsX1_isDrawnAllTheWayIn wsX1_isDrawnInAt := goodIn_r _ [6, 7, 8, 9, 10, 5, 11, 12, 13, 14, 15, 16, 17, 18, 19, 20, 21, 22, 23] (by decide +kernel) (by decide +kernel)
set_option maxRecDepth 20000 in
theorem gX1_isDrawnAllTheWayIn_X1_isDrawnInAt : GoodIn wsX1_isDrawnAllTheWayIn (wsV RX1 79 RX1 yX1_isDrawnInAt wsX1_isDrawnInAt) := goodIn_app (goodIn_of _ (by decide +kernel)) ggX1_isDrawnAllTheWayIn_X1_isDrawnInAt
theorem dX1_isDrawnAllTheWayIn_0 : decode cX1_isDrawnAllTheWayIn 0 = .ok (.aload_n 0, 1) := by decide +kernel
theorem dX1_isDrawnAllTheWayIn_1 : decode cX1_isDrawnAllTheWayIn 1 = .ok (.getfield 35, 3) := by decide +kernel
theorem dX1_isDrawnAllTheWayIn_4 : decode cX1_isDrawnAllTheWayIn 4 = .ok (.istore_n 2, 1) := by decide +kernel
theorem dX1_isDrawnAllTheWayIn_5 : decode cX1_isDrawnAllTheWayIn 5 = .ok (.iload_n 2, 1) := by decide +kernel
theorem dX1_isDrawnAllTheWayIn_6 : decode cX1_isDrawnAllTheWayIn 6 = .ok (.bipush 40, 2) := by decide +kernel
theorem dX1_isDrawnAllTheWayIn_8 : decode cX1_isDrawnAllTheWayIn 8 = .ok (.if_icmp .ge 20, 3) := by decide +kernel
theorem dX1_isDrawnAllTheWayIn_11 : decode cX1_isDrawnAllTheWayIn 11 = .ok (.aload_n 0, 1) := by decide +kernel
theorem dX1_isDrawnAllTheWayIn_12 : decode cX1_isDrawnAllTheWayIn 12 = .ok (.iload_n 2, 1) := by decide +kernel
theorem dX1_isDrawnAllTheWayIn_13 : decode cX1_isDrawnAllTheWayIn 13 = .ok (.iload_n 1, 1) := by decide +kernel
theorem dX1_isDrawnAllTheWayIn_14 : decode cX1_isDrawnAllTheWayIn 14 = .ok (.invokevirtual 79, 3) := by decide +kernel
theorem dX1_isDrawnAllTheWayIn_17 : decode cX1_isDrawnAllTheWayIn 17 = .ok (.ifCond .ne 5, 3) := by decide +kernel
theorem dX1_isDrawnAllTheWayIn_20 : decode cX1_isDrawnAllTheWayIn 20 = .ok (.iconst 0, 1) := by decide +kernel
theorem dX1_isDrawnAllTheWayIn_21 : decode cX1_isDrawnAllTheWayIn 21 = .ok (.ireturn, 1) := by decide +kernel
theorem dX1_isDrawnAllTheWayIn_22 : decode cX1_isDrawnAllTheWayIn 22 = .ok (.iinc 2 1, 3) := by decide +kernel
theorem dX1_isDrawnAllTheWayIn_25 : decode cX1_isDrawnAllTheWayIn 25 = .ok (.goto (-20), 3) := by decide +kernel
theorem dX1_isDrawnAllTheWayIn_28 : decode cX1_isDrawnAllTheWayIn 28 = .ok (.iconst 1, 1) := by decide +kernel
theorem dX1_isDrawnAllTheWayIn_29 : decode cX1_isDrawnAllTheWayIn 29 = .ok (.ireturn, 1) := by decide +kernel
set_option maxRecDepth 20000 in
theorem ggX1_movesInTick_X1_leakAway : GoodIn wsX1_movesInTick wsX1_leakAway := goodIn_r _ [6, 7, 8, 9, 10, 11, 12, 13, 5, 14, 15, 1, 16, 17, 18, 19, 50, 51, 52, 53, 54, 55, 56, 57] (by decide +kernel) (by decide +kernel)
set_option maxRecDepth 20000 in
theorem gX1_movesInTick_X1_leakAway : GoodIn wsX1_movesInTick (wsV RX1 83 RX1 yX1_leakAway wsX1_leakAway) := goodIn_app (goodIn_of _ (by decide +kernel)) ggX1_movesInTick_X1_leakAway
set_option maxRecDepth 20000 in
theorem ggX1_movesInTick_X1_netAt : GoodIn wsX1_movesInTick wsX1_netAt := goodIn_r _ [23, 24, 25, 26, 5, 27, 7, 15, 9, 8, 28, 29, 30, 31, 16, 17, 18, 19, 32, 33, 34, 35, 50, 51, 52, 53, 54, 55, 56, 57] (by decide +kernel) (by decide +kernel)
set_option maxRecDepth 20000 in
theorem gX1_movesInTick_X1_netAt : GoodIn wsX1_movesInTick (wsV RX1 73 RX1 yX1_netAt wsX1_netAt) := goodIn_app (goodIn_of _ (by decide +kernel)) ggX1_movesInTick_X1_netAt
set_option maxRecDepth 20000 in
theorem ggX1_movesInTick_X1_stepBy : GoodIn wsX1_movesInTick wsX1_stepBy := goodIn_r _ [39, 40, 41, 42, 43, 9, 1, 50, 51, 52, 53, 54, 55, 56, 57] (by decide +kernel) (by decide +kernel)
set_option maxRecDepth 20000 in
theorem gX1_movesInTick_X1_stepBy : GoodIn wsX1_movesInTick (wsV RX1 76 RX1 yX1_stepBy wsX1_stepBy) := goodIn_app (goodIn_of _ (by decide +kernel)) ggX1_movesInTick_X1_stepBy
set_option maxRecDepth 20000 in
theorem ggX1_movesInTick_X1_holdVoltage : GoodIn wsX1_movesInTick wsX1_holdVoltage := goodIn_r _ [47, 7, 1, 15, 48, 49, 8, 16, 17, 18, 5, 19, 9, 50, 51, 52, 53, 54, 55, 56, 57] (by decide +kernel) (by decide +kernel)
set_option maxRecDepth 20000 in
theorem gX1_movesInTick_X1_holdVoltage : GoodIn wsX1_movesInTick (wsV RX1 86 RX1 yX1_holdVoltage wsX1_holdVoltage) := goodIn_app (goodIn_of _ (by decide +kernel)) ggX1_movesInTick_X1_holdVoltage
theorem dX1_movesInTick_0 : decode cX1_movesInTick 0 = .ok (.aload_n 0, 1) := by decide +kernel
theorem dX1_movesInTick_1 : decode cX1_movesInTick 1 = .ok (.invokevirtual 83, 3) := by decide +kernel
theorem dX1_movesInTick_4 : decode cX1_movesInTick 4 = .ok (.aload_n 0, 1) := by decide +kernel
theorem dX1_movesInTick_5 : decode cX1_movesInTick 5 = .ok (.aload_n 0, 1) := by decide +kernel
theorem dX1_movesInTick_6 : decode cX1_movesInTick 6 = .ok (.aload_n 0, 1) := by decide +kernel
theorem dX1_movesInTick_7 : decode cX1_movesInTick 7 = .ok (.getfield 35, 3) := by decide +kernel
theorem dX1_movesInTick_10 : decode cX1_movesInTick 10 = .ok (.invokevirtual 73, 3) := by decide +kernel
theorem dX1_movesInTick_13 : decode cX1_movesInTick 13 = .ok (.invokevirtual 76, 3) := by decide +kernel
theorem dX1_movesInTick_16 : decode cX1_movesInTick 16 = .ok (.istore_n 1, 1) := by decide +kernel
theorem dX1_movesInTick_17 : decode cX1_movesInTick 17 = .ok (.aload_n 0, 1) := by decide +kernel
theorem dX1_movesInTick_18 : decode cX1_movesInTick 18 = .ok (.dup, 1) := by decide +kernel
theorem dX1_movesInTick_19 : decode cX1_movesInTick 19 = .ok (.getfield 35, 3) := by decide +kernel
theorem dX1_movesInTick_22 : decode cX1_movesInTick 22 = .ok (.iload_n 1, 1) := by decide +kernel
theorem dX1_movesInTick_23 : decode cX1_movesInTick 23 = .ok (.iadd, 1) := by decide +kernel
theorem dX1_movesInTick_24 : decode cX1_movesInTick 24 = .ok (.putfield 35, 3) := by decide +kernel
theorem dX1_movesInTick_27 : decode cX1_movesInTick 27 = .ok (.aload_n 0, 1) := by decide +kernel
theorem dX1_movesInTick_28 : decode cX1_movesInTick 28 = .ok (.invokevirtual 86, 3) := by decide +kernel
theorem dX1_movesInTick_31 : decode cX1_movesInTick 31 = .ok (.iload_n 1, 1) := by decide +kernel
theorem dX1_movesInTick_32 : decode cX1_movesInTick 32 = .ok (.ifCond .eq 7, 3) := by decide +kernel
theorem dX1_movesInTick_35 : decode cX1_movesInTick 35 = .ok (.iconst 1, 1) := by decide +kernel
theorem dX1_movesInTick_36 : decode cX1_movesInTick 36 = .ok (.goto 4, 3) := by decide +kernel
theorem dX1_movesInTick_39 : decode cX1_movesInTick 39 = .ok (.iconst 0, 1) := by decide +kernel
theorem dX1_movesInTick_40 : decode cX1_movesInTick 40 = .ok (.ireturn, 1) := by decide +kernel
set_option maxRecDepth 20000 in
theorem ggX1_leakAway_X1_stored : GoodIn wsX1_leakAway wsX1_stored := goodIn_r _ [9, 1, 10, 2, 11, 12, 13, 14, 8, 15, 3, 16, 17, 18, 19, 20, 21, 22, 23] (by decide +kernel) (by decide +kernel)
set_option maxRecDepth 20000 in
theorem gX1_leakAway_X1_stored : GoodIn wsX1_leakAway (wsV RX1 89 RX1 yX1_stored wsX1_stored) := goodIn_app (goodIn_of _ (by decide +kernel)) ggX1_leakAway_X1_stored
theorem dX1_leakAway_0 : decode cX1_leakAway 0 = .ok (.aload_n 0, 1) := by decide +kernel
theorem dX1_leakAway_1 : decode cX1_leakAway 1 = .ok (.getfield 41, 3) := by decide +kernel
theorem dX1_leakAway_4 : decode cX1_leakAway 4 = .ok (.ifCond .eq 4, 3) := by decide +kernel
theorem dX1_leakAway_7 : decode cX1_leakAway 7 = .ok (.return_, 1) := by decide +kernel
theorem dX1_leakAway_8 : decode cX1_leakAway 8 = .ok (.aload_n 0, 1) := by decide +kernel
theorem dX1_leakAway_9 : decode cX1_leakAway 9 = .ok (.invokevirtual 89, 3) := by decide +kernel
theorem dX1_leakAway_12 : decode cX1_leakAway 12 = .ok (.lstore_n 1, 1) := by decide +kernel
theorem dX1_leakAway_13 : decode cX1_leakAway 13 = .ok (.aload_n 0, 1) := by decide +kernel
theorem dX1_leakAway_14 : decode cX1_leakAway 14 = .ok (.dup, 1) := by decide +kernel
theorem dX1_leakAway_15 : decode cX1_leakAway 15 = .ok (.getfield 38, 3) := by decide +kernel
theorem dX1_leakAway_18 : decode cX1_leakAway 18 = .ok (.aload_n 0, 1) := by decide +kernel
theorem dX1_leakAway_19 : decode cX1_leakAway 19 = .ok (.getfield 38, 3) := by decide +kernel
theorem dX1_leakAway_22 : decode cX1_leakAway 22 = .ok (.aload_n 0, 1) := by decide +kernel
theorem dX1_leakAway_23 : decode cX1_leakAway 23 = .ok (.getfield 9, 3) := by decide +kernel
theorem dX1_leakAway_26 : decode cX1_leakAway 26 = .ok (.iconst 5, 1) := by decide +kernel
theorem dX1_leakAway_27 : decode cX1_leakAway 27 = .ok (.iaload, 1) := by decide +kernel
theorem dX1_leakAway_28 : decode cX1_leakAway 28 = .ok (.imul, 1) := by decide +kernel
theorem dX1_leakAway_29 : decode cX1_leakAway 29 = .ok (.sipush 1000, 3) := by decide +kernel
theorem dX1_leakAway_32 : decode cX1_leakAway 32 = .ok (.idiv, 1) := by decide +kernel
theorem dX1_leakAway_33 : decode cX1_leakAway 33 = .ok (.isub, 1) := by decide +kernel
theorem dX1_leakAway_34 : decode cX1_leakAway 34 = .ok (.putfield 38, 3) := by decide +kernel
theorem dX1_leakAway_37 : decode cX1_leakAway 37 = .ok (.aload_n 0, 1) := by decide +kernel
theorem dX1_leakAway_38 : decode cX1_leakAway 38 = .ok (.dup, 1) := by decide +kernel
theorem dX1_leakAway_39 : decode cX1_leakAway 39 = .ok (.getfield 49, 3) := by decide +kernel
theorem dX1_leakAway_42 : decode cX1_leakAway 42 = .ok (.lload_n 1, 1) := by decide +kernel
theorem dX1_leakAway_43 : decode cX1_leakAway 43 = .ok (.aload_n 0, 1) := by decide +kernel
theorem dX1_leakAway_44 : decode cX1_leakAway 44 = .ok (.invokevirtual 89, 3) := by decide +kernel
theorem dX1_leakAway_47 : decode cX1_leakAway 47 = .ok (.lsub, 1) := by decide +kernel
theorem dX1_leakAway_48 : decode cX1_leakAway 48 = .ok (.ladd, 1) := by decide +kernel
theorem dX1_leakAway_49 : decode cX1_leakAway 49 = .ok (.putfield 49, 3) := by decide +kernel
theorem dX1_leakAway_52 : decode cX1_leakAway 52 = .ok (.return_, 1) := by decide +kernel
set_option maxRecDepth 20000 in
theorem ggX1_holdVoltage_X1_capacityAt : GoodIn wsX1_holdVoltage wsX1_capacityAt := goodIn_r _ [11, 12, 13, 14, 15, 16, 17, 18, 19, 20] (by decide +kernel) (by decide +kernel)
set_option maxRecDepth 20000 in
theorem gX1_holdVoltage_X1_capacityAt : GoodIn wsX1_holdVoltage (wsV RX1 55 RX1 yX1_capacityAt wsX1_capacityAt) := goodIn_app (goodIn_of _ (by decide +kernel)) ggX1_holdVoltage_X1_capacityAt
theorem dX1_holdVoltage_0 : decode cX1_holdVoltage 0 = .ok (.aload_n 0, 1) := by decide +kernel
theorem dX1_holdVoltage_1 : decode cX1_holdVoltage 1 = .ok (.getfield 41, 3) := by decide +kernel
theorem dX1_holdVoltage_4 : decode cX1_holdVoltage 4 = .ok (.ifCond .ne 4, 3) := by decide +kernel
theorem dX1_holdVoltage_7 : decode cX1_holdVoltage 7 = .ok (.return_, 1) := by decide +kernel
theorem dX1_holdVoltage_8 : decode cX1_holdVoltage 8 = .ok (.aload_n 0, 1) := by decide +kernel
theorem dX1_holdVoltage_9 : decode cX1_holdVoltage 9 = .ok (.aload_n 0, 1) := by decide +kernel
theorem dX1_holdVoltage_10 : decode cX1_holdVoltage 10 = .ok (.getfield 35, 3) := by decide +kernel
theorem dX1_holdVoltage_13 : decode cX1_holdVoltage 13 = .ok (.invokevirtual 55, 3) := by decide +kernel
theorem dX1_holdVoltage_16 : decode cX1_holdVoltage 16 = .ok (.aload_n 0, 1) := by decide +kernel
theorem dX1_holdVoltage_17 : decode cX1_holdVoltage 17 = .ok (.getfield 15, 3) := by decide +kernel
theorem dX1_holdVoltage_20 : decode cX1_holdVoltage 20 = .ok (.imul, 1) := by decide +kernel
theorem dX1_holdVoltage_21 : decode cX1_holdVoltage 21 = .ok (.istore_n 1, 1) := by decide +kernel
theorem dX1_holdVoltage_22 : decode cX1_holdVoltage 22 = .ok (.aload_n 0, 1) := by decide +kernel
theorem dX1_holdVoltage_23 : decode cX1_holdVoltage 23 = .ok (.dup, 1) := by decide +kernel
theorem dX1_holdVoltage_24 : decode cX1_holdVoltage 24 = .ok (.getfield 45, 3) := by decide +kernel
theorem dX1_holdVoltage_27 : decode cX1_holdVoltage 27 = .ok (.ldc2_w 93, 3) := by decide +kernel
theorem dX1_holdVoltage_30 : decode cX1_holdVoltage 30 = .ok (.aload_n 0, 1) := by decide +kernel
theorem dX1_holdVoltage_31 : decode cX1_holdVoltage 31 = .ok (.getfield 15, 3) := by decide +kernel
theorem dX1_holdVoltage_34 : decode cX1_holdVoltage 34 = .ok (.i2l, 1) := by decide +kernel
theorem dX1_holdVoltage_35 : decode cX1_holdVoltage 35 = .ok (.lmul, 1) := by decide +kernel
theorem dX1_holdVoltage_36 : decode cX1_holdVoltage 36 = .ok (.iload_n 1, 1) := by decide +kernel
theorem dX1_holdVoltage_37 : decode cX1_holdVoltage 37 = .ok (.aload_n 0, 1) := by decide +kernel
theorem dX1_holdVoltage_38 : decode cX1_holdVoltage 38 = .ok (.getfield 38, 3) := by decide +kernel
theorem dX1_holdVoltage_41 : decode cX1_holdVoltage 41 = .ok (.isub, 1) := by decide +kernel
theorem dX1_holdVoltage_42 : decode cX1_holdVoltage 42 = .ok (.i2l, 1) := by decide +kernel
theorem dX1_holdVoltage_43 : decode cX1_holdVoltage 43 = .ok (.lmul, 1) := by decide +kernel
theorem dX1_holdVoltage_44 : decode cX1_holdVoltage 44 = .ok (.ladd, 1) := by decide +kernel
theorem dX1_holdVoltage_45 : decode cX1_holdVoltage 45 = .ok (.putfield 45, 3) := by decide +kernel
theorem dX1_holdVoltage_48 : decode cX1_holdVoltage 48 = .ok (.aload_n 0, 1) := by decide +kernel
theorem dX1_holdVoltage_49 : decode cX1_holdVoltage 49 = .ok (.iload_n 1, 1) := by decide +kernel
theorem dX1_holdVoltage_50 : decode cX1_holdVoltage 50 = .ok (.putfield 38, 3) := by decide +kernel
theorem dX1_holdVoltage_53 : decode cX1_holdVoltage 53 = .ok (.return_, 1) := by decide +kernel
set_option maxRecDepth 20000 in
theorem ggX2_init_X1_init : GoodIn wsX2_init wsX1_init := goodIn_r _ [9, 10, 2, 3, 11, 12, 13, 18, 19, 20, 21, 22, 23, 24, 25] (by decide +kernel) (by decide +kernel)
set_option maxRecDepth 20000 in
theorem gX2_init_X1_init_n17 : GoodIn wsX2_init (wsX1_init) := ggX2_init_X1_init
theorem dX2_init_0 : decode cX2_init 0 = .ok (.aload_n 0, 1) := by decide +kernel
theorem dX2_init_1 : decode cX2_init 1 = .ok (.invokespecial 3, 3) := by decide +kernel
theorem dX2_init_4 : decode cX2_init 4 = .ok (.aload_n 0, 1) := by decide +kernel
theorem dX2_init_5 : decode cX2_init 5 = .ok (.iconst 4, 1) := by decide +kernel
theorem dX2_init_6 : decode cX2_init 6 = .ok (.anewarray 9, 3) := by decide +kernel
theorem dX2_init_9 : decode cX2_init 9 = .ok (.putfield 11, 3) := by decide +kernel
theorem dX2_init_12 : decode cX2_init 12 = .ok (.iconst 0, 1) := by decide +kernel
theorem dX2_init_13 : decode cX2_init 13 = .ok (.istore_n 1, 1) := by decide +kernel
theorem dX2_init_14 : decode cX2_init 14 = .ok (.iload_n 1, 1) := by decide +kernel
theorem dX2_init_15 : decode cX2_init 15 = .ok (.iconst 4, 1) := by decide +kernel
theorem dX2_init_16 : decode cX2_init 16 = .ok (.if_icmp .ge 22, 3) := by decide +kernel
theorem dX2_init_19 : decode cX2_init 19 = .ok (.aload_n 0, 1) := by decide +kernel
theorem dX2_init_20 : decode cX2_init 20 = .ok (.getfield 11, 3) := by decide +kernel
theorem dX2_init_23 : decode cX2_init 23 = .ok (.iload_n 1, 1) := by decide +kernel
theorem dX2_init_24 : decode cX2_init 24 = .ok (.new 9, 3) := by decide +kernel
theorem dX2_init_27 : decode cX2_init 27 = .ok (.dup, 1) := by decide +kernel
theorem dX2_init_28 : decode cX2_init 28 = .ok (.invokespecial 17, 3) := by decide +kernel
theorem dX2_init_31 : decode cX2_init 31 = .ok (.aastore, 1) := by decide +kernel
theorem dX2_init_32 : decode cX2_init 32 = .ok (.iinc 1 1, 3) := by decide +kernel
theorem dX2_init_35 : decode cX2_init 35 = .ok (.goto (-21), 3) := by decide +kernel
theorem dX2_init_38 : decode cX2_init 38 = .ok (.return_, 1) := by decide +kernel
set_option maxRecDepth 20000 in
theorem ggX2_copyFrom_X1_copyFrom : GoodIn wsX2_copyFrom wsX1_copyFrom := goodIn_r _ [9, 10, 11, 12, 13, 14, 15, 16, 17, 18, 19, 20, 21, 26, 27, 28, 29, 30, 31, 32, 33] (by decide +kernel) (by decide +kernel)
set_option maxRecDepth 20000 in
theorem gX2_copyFrom_X1_copyFrom : GoodIn wsX2_copyFrom (wsV RX2 18 RX1 yX1_copyFrom wsX1_copyFrom) := goodIn_app (goodIn_of _ (by decide +kernel)) ggX2_copyFrom_X1_copyFrom
theorem dX2_copyFrom_0 : decode cX2_copyFrom 0 = .ok (.iconst 0, 1) := by decide +kernel
theorem dX2_copyFrom_1 : decode cX2_copyFrom 1 = .ok (.istore_n 2, 1) := by decide +kernel
theorem dX2_copyFrom_2 : decode cX2_copyFrom 2 = .ok (.iload_n 2, 1) := by decide +kernel
theorem dX2_copyFrom_3 : decode cX2_copyFrom 3 = .ok (.iconst 4, 1) := by decide +kernel
theorem dX2_copyFrom_4 : decode cX2_copyFrom 4 = .ok (.if_icmp .ge 24, 3) := by decide +kernel
theorem dX2_copyFrom_7 : decode cX2_copyFrom 7 = .ok (.aload_n 0, 1) := by decide +kernel
theorem dX2_copyFrom_8 : decode cX2_copyFrom 8 = .ok (.getfield 11, 3) := by decide +kernel
theorem dX2_copyFrom_11 : decode cX2_copyFrom 11 = .ok (.iload_n 2, 1) := by decide +kernel
theorem dX2_copyFrom_12 : decode cX2_copyFrom 12 = .ok (.aaload, 1) := by decide +kernel
theorem dX2_copyFrom_13 : decode cX2_copyFrom 13 = .ok (.aload_n 1, 1) := by decide +kernel
theorem dX2_copyFrom_14 : decode cX2_copyFrom 14 = .ok (.getfield 11, 3) := by decide +kernel
theorem dX2_copyFrom_17 : decode cX2_copyFrom 17 = .ok (.iload_n 2, 1) := by decide +kernel
theorem dX2_copyFrom_18 : decode cX2_copyFrom 18 = .ok (.aaload, 1) := by decide +kernel
theorem dX2_copyFrom_19 : decode cX2_copyFrom 19 = .ok (.invokevirtual 18, 3) := by decide +kernel
theorem dX2_copyFrom_22 : decode cX2_copyFrom 22 = .ok (.iinc 2 1, 3) := by decide +kernel
theorem dX2_copyFrom_25 : decode cX2_copyFrom 25 = .ok (.goto (-23), 3) := by decide +kernel
theorem dX2_copyFrom_28 : decode cX2_copyFrom 28 = .ok (.aload_n 0, 1) := by decide +kernel
theorem dX2_copyFrom_29 : decode cX2_copyFrom 29 = .ok (.aload_n 1, 1) := by decide +kernel
theorem dX2_copyFrom_30 : decode cX2_copyFrom 30 = .ok (.getfield 22, 3) := by decide +kernel
theorem dX2_copyFrom_33 : decode cX2_copyFrom 33 = .ok (.putfield 22, 3) := by decide +kernel
theorem dX2_copyFrom_36 : decode cX2_copyFrom 36 = .ok (.aload_n 0, 1) := by decide +kernel
theorem dX2_copyFrom_37 : decode cX2_copyFrom 37 = .ok (.aload_n 1, 1) := by decide +kernel
theorem dX2_copyFrom_38 : decode cX2_copyFrom 38 = .ok (.getfield 26, 3) := by decide +kernel
theorem dX2_copyFrom_41 : decode cX2_copyFrom 41 = .ok (.putfield 26, 3) := by decide +kernel
theorem dX2_copyFrom_44 : decode cX2_copyFrom 44 = .ok (.aload_n 0, 1) := by decide +kernel
theorem dX2_copyFrom_45 : decode cX2_copyFrom 45 = .ok (.aload_n 1, 1) := by decide +kernel
theorem dX2_copyFrom_46 : decode cX2_copyFrom 46 = .ok (.getfield 29, 3) := by decide +kernel
theorem dX2_copyFrom_49 : decode cX2_copyFrom 49 = .ok (.putfield 29, 3) := by decide +kernel
theorem dX2_copyFrom_52 : decode cX2_copyFrom 52 = .ok (.return_, 1) := by decide +kernel
set_option maxRecDepth 20000 in
theorem ggX2_change_X5_isPair : GoodIn wsX2_change wsX5_isPair := goodIn_r _ [5] (by decide +kernel) (by decide +kernel)
set_option maxRecDepth 20000 in
theorem gX2_change_X5_isPair_n32 : GoodIn wsX2_change (wsX5_isPair) := ggX2_change_X5_isPair
set_option maxRecDepth 20000 in
theorem ggX2_change_X1_isSetting : GoodIn wsX2_change wsX1_isSetting := goodIn_r _ [9] (by decide +kernel) (by decide +kernel)
set_option maxRecDepth 20000 in
theorem gX2_change_X1_isSetting : GoodIn wsX2_change (va_wsS RX2 36 yX1_isSetting wsX1_isSetting) := goodIn_app (goodIn_of _ (by decide +kernel)) ggX2_change_X1_isSetting
set_option maxRecDepth 20000 in
theorem ggX2_change_X1_isInRange : GoodIn wsX2_change wsX1_isInRange := goodIn_r _ [12, 13, 14, 15, 7, 8, 9] (by decide +kernel) (by decide +kernel)
set_option maxRecDepth 20000 in
theorem gX2_change_X1_isInRange : GoodIn wsX2_change (va_wsS RX2 39 yX1_isInRange wsX1_isInRange) := goodIn_app (goodIn_of _ (by decide +kernel)) ggX2_change_X1_isInRange
set_option maxRecDepth 20000 in
theorem ggX2_change_X1_holdVoltage : GoodIn wsX2_change wsX1_holdVoltage := goodIn_r _ [19, 20, 21, 22, 23, 24, 25, 26, 27, 28, 8, 29, 30, 35, 36, 37, 38, 39, 40, 41, 42] (by decide +kernel) (by decide +kernel)
set_option maxRecDepth 20000 in
theorem gX2_change_X1_holdVoltage : GoodIn wsX2_change (wsV RX2 47 RX1 yX1_holdVoltage wsX1_holdVoltage) := goodIn_app (goodIn_of _ (by decide +kernel)) ggX2_change_X1_holdVoltage
theorem dX2_change_0 : decode cX2_change 0 = .ok (.iload_n 1, 1) := by decide +kernel
theorem dX2_change_1 : decode cX2_change 1 = .ok (.invokestatic 32, 3) := by decide +kernel
theorem dX2_change_4 : decode cX2_change 4 = .ok (.ifCond .eq 10, 3) := by decide +kernel
theorem dX2_change_7 : decode cX2_change 7 = .ok (.iload_n 2, 1) := by decide +kernel
theorem dX2_change_8 : decode cX2_change 8 = .ok (.invokestatic 36, 3) := by decide +kernel
theorem dX2_change_11 : decode cX2_change 11 = .ok (.ifCond .ne 5, 3) := by decide +kernel
theorem dX2_change_14 : decode cX2_change 14 = .ok (.iconst (-1), 1) := by decide +kernel
theorem dX2_change_15 : decode cX2_change 15 = .ok (.ireturn, 1) := by decide +kernel
theorem dX2_change_16 : decode cX2_change 16 = .ok (.iload_n 2, 1) := by decide +kernel
theorem dX2_change_17 : decode cX2_change 17 = .ok (.iload_n 3, 1) := by decide +kernel
theorem dX2_change_18 : decode cX2_change 18 = .ok (.invokestatic 39, 3) := by decide +kernel
theorem dX2_change_21 : decode cX2_change 21 = .ok (.ifCond .ne 6, 3) := by decide +kernel
theorem dX2_change_24 : decode cX2_change 24 = .ok (.bipush (-2), 2) := by decide +kernel
theorem dX2_change_26 : decode cX2_change 26 = .ok (.ireturn, 1) := by decide +kernel
theorem dX2_change_27 : decode cX2_change 27 = .ok (.aload_n 0, 1) := by decide +kernel
theorem dX2_change_28 : decode cX2_change 28 = .ok (.getfield 11, 3) := by decide +kernel
theorem dX2_change_31 : decode cX2_change 31 = .ok (.iload_n 1, 1) := by decide +kernel
theorem dX2_change_32 : decode cX2_change 32 = .ok (.aaload, 1) := by decide +kernel
theorem dX2_change_33 : decode cX2_change 33 = .ok (.astore 4, 2) := by decide +kernel
theorem dX2_change_35 : decode cX2_change 35 = .ok (.aload 4, 2) := by decide +kernel
theorem dX2_change_37 : decode cX2_change 37 = .ok (.getfield 43, 3) := by decide +kernel
theorem dX2_change_40 : decode cX2_change 40 = .ok (.iload_n 2, 1) := by decide +kernel
theorem dX2_change_41 : decode cX2_change 41 = .ok (.iaload, 1) := by decide +kernel
theorem dX2_change_42 : decode cX2_change 42 = .ok (.istore 5, 2) := by decide +kernel
theorem dX2_change_44 : decode cX2_change 44 = .ok (.iload 5, 2) := by decide +kernel
theorem dX2_change_46 : decode cX2_change 46 = .ok (.iload_n 3, 1) := by decide +kernel
theorem dX2_change_47 : decode cX2_change 47 = .ok (.if_icmp .ne 6, 3) := by decide +kernel
theorem dX2_change_50 : decode cX2_change 50 = .ok (.bipush (-5), 2) := by decide +kernel
theorem dX2_change_52 : decode cX2_change 52 = .ok (.ireturn, 1) := by decide +kernel
theorem dX2_change_53 : decode cX2_change 53 = .ok (.aload 4, 2) := by decide +kernel
theorem dX2_change_55 : decode cX2_change 55 = .ok (.getfield 43, 3) := by decide +kernel
theorem dX2_change_58 : decode cX2_change 58 = .ok (.iload_n 2, 1) := by decide +kernel
theorem dX2_change_59 : decode cX2_change 59 = .ok (.iload_n 3, 1) := by decide +kernel
theorem dX2_change_60 : decode cX2_change 60 = .ok (.iastore, 1) := by decide +kernel
theorem dX2_change_61 : decode cX2_change 61 = .ok (.aload 4, 2) := by decide +kernel
theorem dX2_change_63 : decode cX2_change 63 = .ok (.invokevirtual 47, 3) := by decide +kernel
theorem dX2_change_66 : decode cX2_change 66 = .ok (.iload 5, 2) := by decide +kernel
theorem dX2_change_68 : decode cX2_change 68 = .ok (.ireturn, 1) := by decide +kernel
set_option maxRecDepth 20000 in
theorem ggX2_connect_X5_isPair : GoodIn wsX2_connect wsX5_isPair := goodIn_r _ [7] (by decide +kernel) (by decide +kernel)
set_option maxRecDepth 20000 in
theorem gX2_connect_X5_isPair_n32 : GoodIn wsX2_connect (wsX5_isPair) := ggX2_connect_X5_isPair
set_option maxRecDepth 20000 in
theorem ggX2_connect_X1_holdVoltage : GoodIn wsX2_connect wsX1_holdVoltage := goodIn_r _ [12, 13, 14, 15, 16, 17, 18, 19, 20, 21, 11, 22, 23, 28, 29, 30, 31, 32, 33, 34, 35] (by decide +kernel) (by decide +kernel)
set_option maxRecDepth 20000 in
theorem gX2_connect_X1_holdVoltage : GoodIn wsX2_connect (wsV RX2 47 RX1 yX1_holdVoltage wsX1_holdVoltage) := goodIn_app (goodIn_of _ (by decide +kernel)) ggX2_connect_X1_holdVoltage
theorem dX2_connect_0 : decode cX2_connect 0 = .ok (.iload_n 1, 1) := by decide +kernel
theorem dX2_connect_1 : decode cX2_connect 1 = .ok (.invokestatic 32, 3) := by decide +kernel
theorem dX2_connect_4 : decode cX2_connect 4 = .ok (.ifCond .ne 5, 3) := by decide +kernel
theorem dX2_connect_7 : decode cX2_connect 7 = .ok (.iconst (-1), 1) := by decide +kernel
theorem dX2_connect_8 : decode cX2_connect 8 = .ok (.ireturn, 1) := by decide +kernel
theorem dX2_connect_9 : decode cX2_connect 9 = .ok (.iload_n 2, 1) := by decide +kernel
theorem dX2_connect_10 : decode cX2_connect 10 = .ok (.ifCond .lt 9, 3) := by decide +kernel
theorem dX2_connect_13 : decode cX2_connect 13 = .ok (.iload_n 2, 1) := by decide +kernel
theorem dX2_connect_14 : decode cX2_connect 14 = .ok (.bipush 30, 2) := by decide +kernel
theorem dX2_connect_16 : decode cX2_connect 16 = .ok (.if_icmp .le 6, 3) := by decide +kernel
theorem dX2_connect_19 : decode cX2_connect 19 = .ok (.bipush (-2), 2) := by decide +kernel
theorem dX2_connect_21 : decode cX2_connect 21 = .ok (.ireturn, 1) := by decide +kernel
theorem dX2_connect_22 : decode cX2_connect 22 = .ok (.aload_n 0, 1) := by decide +kernel
theorem dX2_connect_23 : decode cX2_connect 23 = .ok (.getfield 11, 3) := by decide +kernel
theorem dX2_connect_26 : decode cX2_connect 26 = .ok (.iload_n 1, 1) := by decide +kernel
theorem dX2_connect_27 : decode cX2_connect 27 = .ok (.aaload, 1) := by decide +kernel
theorem dX2_connect_28 : decode cX2_connect 28 = .ok (.astore_n 3, 1) := by decide +kernel
theorem dX2_connect_29 : decode cX2_connect 29 = .ok (.aload_n 3, 1) := by decide +kernel
theorem dX2_connect_30 : decode cX2_connect 30 = .ok (.getfield 50, 3) := by decide +kernel
theorem dX2_connect_33 : decode cX2_connect 33 = .ok (.ifCond .eq 14, 3) := by decide +kernel
theorem dX2_connect_36 : decode cX2_connect 36 = .ok (.aload_n 3, 1) := by decide +kernel
theorem dX2_connect_37 : decode cX2_connect 37 = .ok (.getfield 54, 3) := by decide +kernel
theorem dX2_connect_40 : decode cX2_connect 40 = .ok (.iload_n 2, 1) := by decide +kernel
theorem dX2_connect_41 : decode cX2_connect 41 = .ok (.if_icmp .ne 6, 3) := by decide +kernel
theorem dX2_connect_44 : decode cX2_connect 44 = .ok (.bipush (-5), 2) := by decide +kernel
theorem dX2_connect_46 : decode cX2_connect 46 = .ok (.ireturn, 1) := by decide +kernel
theorem dX2_connect_47 : decode cX2_connect 47 = .ok (.aload_n 3, 1) := by decide +kernel
theorem dX2_connect_48 : decode cX2_connect 48 = .ok (.iconst 1, 1) := by decide +kernel
theorem dX2_connect_49 : decode cX2_connect 49 = .ok (.putfield 50, 3) := by decide +kernel
theorem dX2_connect_52 : decode cX2_connect 52 = .ok (.aload_n 3, 1) := by decide +kernel
theorem dX2_connect_53 : decode cX2_connect 53 = .ok (.iload_n 2, 1) := by decide +kernel
theorem dX2_connect_54 : decode cX2_connect 54 = .ok (.putfield 54, 3) := by decide +kernel
theorem dX2_connect_57 : decode cX2_connect 57 = .ok (.aload_n 3, 1) := by decide +kernel
theorem dX2_connect_58 : decode cX2_connect 58 = .ok (.invokevirtual 47, 3) := by decide +kernel
theorem dX2_connect_61 : decode cX2_connect 61 = .ok (.aload_n 3, 1) := by decide +kernel
theorem dX2_connect_62 : decode cX2_connect 62 = .ok (.getfield 57, 3) := by decide +kernel
theorem dX2_connect_65 : decode cX2_connect 65 = .ok (.ireturn, 1) := by decide +kernel
set_option maxRecDepth 20000 in
theorem ggX2_disconnect_X5_isPair : GoodIn wsX2_disconnect wsX5_isPair := goodIn_r _ [6] (by decide +kernel) (by decide +kernel)
set_option maxRecDepth 20000 in
theorem gX2_disconnect_X5_isPair_n32 : GoodIn wsX2_disconnect (wsX5_isPair) := ggX2_disconnect_X5_isPair
theorem dX2_disconnect_0 : decode cX2_disconnect 0 = .ok (.iload_n 1, 1) := by decide +kernel
theorem dX2_disconnect_1 : decode cX2_disconnect 1 = .ok (.invokestatic 32, 3) := by decide +kernel
theorem dX2_disconnect_4 : decode cX2_disconnect 4 = .ok (.ifCond .ne 5, 3) := by decide +kernel
theorem dX2_disconnect_7 : decode cX2_disconnect 7 = .ok (.iconst (-1), 1) := by decide +kernel
theorem dX2_disconnect_8 : decode cX2_disconnect 8 = .ok (.ireturn, 1) := by decide +kernel
theorem dX2_disconnect_9 : decode cX2_disconnect 9 = .ok (.aload_n 0, 1) := by decide +kernel
theorem dX2_disconnect_10 : decode cX2_disconnect 10 = .ok (.getfield 11, 3) := by decide +kernel
theorem dX2_disconnect_13 : decode cX2_disconnect 13 = .ok (.iload_n 1, 1) := by decide +kernel
theorem dX2_disconnect_14 : decode cX2_disconnect 14 = .ok (.aaload, 1) := by decide +kernel
theorem dX2_disconnect_15 : decode cX2_disconnect 15 = .ok (.astore_n 2, 1) := by decide +kernel
theorem dX2_disconnect_16 : decode cX2_disconnect 16 = .ok (.aload_n 2, 1) := by decide +kernel
theorem dX2_disconnect_17 : decode cX2_disconnect 17 = .ok (.getfield 50, 3) := by decide +kernel
theorem dX2_disconnect_20 : decode cX2_disconnect 20 = .ok (.ifCond .ne 6, 3) := by decide +kernel
theorem dX2_disconnect_23 : decode cX2_disconnect 23 = .ok (.bipush (-5), 2) := by decide +kernel
theorem dX2_disconnect_25 : decode cX2_disconnect 25 = .ok (.ireturn, 1) := by decide +kernel
theorem dX2_disconnect_26 : decode cX2_disconnect 26 = .ok (.aload_n 2, 1) := by decide +kernel
theorem dX2_disconnect_27 : decode cX2_disconnect 27 = .ok (.iconst 0, 1) := by decide +kernel
theorem dX2_disconnect_28 : decode cX2_disconnect 28 = .ok (.putfield 50, 3) := by decide +kernel
theorem dX2_disconnect_31 : decode cX2_disconnect 31 = .ok (.aload_n 2, 1) := by decide +kernel
theorem dX2_disconnect_32 : decode cX2_disconnect 32 = .ok (.getfield 57, 3) := by decide +kernel
theorem dX2_disconnect_35 : decode cX2_disconnect 35 = .ok (.ireturn, 1) := by decide +kernel
set_option maxRecDepth 20000 in
theorem ggX2_putSlab_X5_isPair : GoodIn wsX2_putSlab wsX5_isPair := goodIn_r _ [5] (by decide +kernel) (by decide +kernel)
set_option maxRecDepth 20000 in
theorem gX2_putSlab_X5_isPair_n32 : GoodIn wsX2_putSlab (wsX5_isPair) := ggX2_putSlab_X5_isPair
set_option maxRecDepth 20000 in
theorem ggX2_putSlab_X5_isDepth : GoodIn wsX2_putSlab wsX5_isDepth := goodIn_r _ [7] (by decide +kernel) (by decide +kernel)
set_option maxRecDepth 20000 in
theorem gX2_putSlab_X5_isDepth_n60 : GoodIn wsX2_putSlab (wsX5_isDepth) := ggX2_putSlab_X5_isDepth
set_option maxRecDepth 20000 in
theorem ggX2_putSlab_X1_holdVoltage : GoodIn wsX2_putSlab wsX1_holdVoltage := goodIn_r _ [12, 13, 14, 15, 16, 17, 18, 19, 20, 21, 11, 22, 23, 28, 29, 30, 31, 32, 33, 34, 35] (by decide +kernel) (by decide +kernel)
set_option maxRecDepth 20000 in
theorem gX2_putSlab_X1_holdVoltage : GoodIn wsX2_putSlab (wsV RX2 47 RX1 yX1_holdVoltage wsX1_holdVoltage) := goodIn_app (goodIn_of _ (by decide +kernel)) ggX2_putSlab_X1_holdVoltage
theorem dX2_putSlab_0 : decode cX2_putSlab 0 = .ok (.iload_n 1, 1) := by decide +kernel
theorem dX2_putSlab_1 : decode cX2_putSlab 1 = .ok (.invokestatic 32, 3) := by decide +kernel
theorem dX2_putSlab_4 : decode cX2_putSlab 4 = .ok (.ifCond .ne 5, 3) := by decide +kernel
theorem dX2_putSlab_7 : decode cX2_putSlab 7 = .ok (.iconst (-1), 1) := by decide +kernel
theorem dX2_putSlab_8 : decode cX2_putSlab 8 = .ok (.ireturn, 1) := by decide +kernel
theorem dX2_putSlab_9 : decode cX2_putSlab 9 = .ok (.iload_n 2, 1) := by decide +kernel
theorem dX2_putSlab_10 : decode cX2_putSlab 10 = .ok (.invokestatic 60, 3) := by decide +kernel
theorem dX2_putSlab_13 : decode cX2_putSlab 13 = .ok (.ifCond .ne 6, 3) := by decide +kernel
theorem dX2_putSlab_16 : decode cX2_putSlab 16 = .ok (.bipush (-2), 2) := by decide +kernel
theorem dX2_putSlab_18 : decode cX2_putSlab 18 = .ok (.ireturn, 1) := by decide +kernel
theorem dX2_putSlab_19 : decode cX2_putSlab 19 = .ok (.aload_n 0, 1) := by decide +kernel
theorem dX2_putSlab_20 : decode cX2_putSlab 20 = .ok (.getfield 11, 3) := by decide +kernel
theorem dX2_putSlab_23 : decode cX2_putSlab 23 = .ok (.iload_n 1, 1) := by decide +kernel
theorem dX2_putSlab_24 : decode cX2_putSlab 24 = .ok (.aaload, 1) := by decide +kernel
theorem dX2_putSlab_25 : decode cX2_putSlab 25 = .ok (.astore_n 3, 1) := by decide +kernel
theorem dX2_putSlab_26 : decode cX2_putSlab 26 = .ok (.aload_n 3, 1) := by decide +kernel
theorem dX2_putSlab_27 : decode cX2_putSlab 27 = .ok (.getfield 63, 3) := by decide +kernel
theorem dX2_putSlab_30 : decode cX2_putSlab 30 = .ok (.istore 4, 2) := by decide +kernel
theorem dX2_putSlab_32 : decode cX2_putSlab 32 = .ok (.iload 4, 2) := by decide +kernel
theorem dX2_putSlab_34 : decode cX2_putSlab 34 = .ok (.iload_n 2, 1) := by decide +kernel
theorem dX2_putSlab_35 : decode cX2_putSlab 35 = .ok (.if_icmp .ne 6, 3) := by decide +kernel
theorem dX2_putSlab_38 : decode cX2_putSlab 38 = .ok (.bipush (-5), 2) := by decide +kernel
theorem dX2_putSlab_40 : decode cX2_putSlab 40 = .ok (.ireturn, 1) := by decide +kernel
theorem dX2_putSlab_41 : decode cX2_putSlab 41 = .ok (.aload_n 3, 1) := by decide +kernel
theorem dX2_putSlab_42 : decode cX2_putSlab 42 = .ok (.iload_n 2, 1) := by decide +kernel
theorem dX2_putSlab_43 : decode cX2_putSlab 43 = .ok (.putfield 63, 3) := by decide +kernel
theorem dX2_putSlab_46 : decode cX2_putSlab 46 = .ok (.aload_n 3, 1) := by decide +kernel
theorem dX2_putSlab_47 : decode cX2_putSlab 47 = .ok (.invokevirtual 47, 3) := by decide +kernel
theorem dX2_putSlab_50 : decode cX2_putSlab 50 = .ok (.iload 4, 2) := by decide +kernel
theorem dX2_putSlab_52 : decode cX2_putSlab 52 = .ok (.ireturn, 1) := by decide +kernel
set_option maxRecDepth 20000 in
theorem ggX2_share_X5_isPair : GoodIn wsX2_share wsX5_isPair := goodIn_r _ [9] (by decide +kernel) (by decide +kernel)
set_option maxRecDepth 20000 in
theorem gX2_share_X5_isPair_n32 : GoodIn wsX2_share (wsX5_isPair) := ggX2_share_X5_isPair
set_option maxRecDepth 20000 in
theorem ggX2_share_X1_capacityAt : GoodIn wsX2_share wsX1_capacityAt := goodIn_r _ [14, 15, 42, 43, 44, 45, 46, 47, 48, 49] (by decide +kernel) (by decide +kernel)
set_option maxRecDepth 20000 in
theorem gX2_share_X1_capacityAt : GoodIn wsX2_share (wsV RX2 66 RX1 yX1_capacityAt wsX1_capacityAt) := goodIn_app (goodIn_of _ (by decide +kernel)) ggX2_share_X1_capacityAt
set_option maxRecDepth 20000 in
theorem ggX2_share_X2_shareOf : GoodIn wsX2_share wsX2_shareOf := goodIn_r _ [19] (by decide +kernel) (by decide +kernel)
set_option maxRecDepth 20000 in
theorem gX2_share_X2_shareOf : GoodIn wsX2_share (va_wsS RX2 70 yX2_shareOf wsX2_shareOf) := goodIn_app (goodIn_of _ (by decide +kernel)) ggX2_share_X2_shareOf
set_option maxRecDepth 20000 in
theorem ggX2_share_X2_moveCharges : GoodIn wsX2_share wsX2_moveCharges := goodIn_r _ [22, 3, 23, 24, 25, 26, 27, 13, 28, 29, 30, 31, 32, 33, 11, 12, 14, 15, 34, 35, 36, 37, 42, 43, 44, 45, 46, 47, 48, 49] (by decide +kernel) (by decide +kernel)
set_option maxRecDepth 20000 in
theorem gX2_share_X2_moveCharges : GoodIn wsX2_share (va_wsS RX2 75 yX2_moveCharges wsX2_moveCharges) := goodIn_app (goodIn_of _ (by decide +kernel)) ggX2_share_X2_moveCharges
theorem dX2_share_0 : decode cX2_share 0 = .ok (.iload_n 1, 1) := by decide +kernel
theorem dX2_share_1 : decode cX2_share 1 = .ok (.invokestatic 32, 3) := by decide +kernel
theorem dX2_share_4 : decode cX2_share 4 = .ok (.ifCond .eq 10, 3) := by decide +kernel
theorem dX2_share_7 : decode cX2_share 7 = .ok (.iload_n 2, 1) := by decide +kernel
theorem dX2_share_8 : decode cX2_share 8 = .ok (.invokestatic 32, 3) := by decide +kernel
theorem dX2_share_11 : decode cX2_share 11 = .ok (.ifCond .ne 5, 3) := by decide +kernel
theorem dX2_share_14 : decode cX2_share 14 = .ok (.iconst (-1), 1) := by decide +kernel
theorem dX2_share_15 : decode cX2_share 15 = .ok (.ireturn, 1) := by decide +kernel
theorem dX2_share_16 : decode cX2_share 16 = .ok (.iload_n 1, 1) := by decide +kernel
theorem dX2_share_17 : decode cX2_share 17 = .ok (.iload_n 2, 1) := by decide +kernel
theorem dX2_share_18 : decode cX2_share 18 = .ok (.if_icmp .ne 6, 3) := by decide +kernel
theorem dX2_share_21 : decode cX2_share 21 = .ok (.bipush (-2), 2) := by decide +kernel
theorem dX2_share_23 : decode cX2_share 23 = .ok (.ireturn, 1) := by decide +kernel
theorem dX2_share_24 : decode cX2_share 24 = .ok (.aload_n 0, 1) := by decide +kernel
theorem dX2_share_25 : decode cX2_share 25 = .ok (.getfield 11, 3) := by decide +kernel
theorem dX2_share_28 : decode cX2_share 28 = .ok (.iload_n 1, 1) := by decide +kernel
theorem dX2_share_29 : decode cX2_share 29 = .ok (.aaload, 1) := by decide +kernel
theorem dX2_share_30 : decode cX2_share 30 = .ok (.astore_n 3, 1) := by decide +kernel
theorem dX2_share_31 : decode cX2_share 31 = .ok (.aload_n 0, 1) := by decide +kernel
theorem dX2_share_32 : decode cX2_share 32 = .ok (.getfield 11, 3) := by decide +kernel
theorem dX2_share_35 : decode cX2_share 35 = .ok (.iload_n 2, 1) := by decide +kernel
theorem dX2_share_36 : decode cX2_share 36 = .ok (.aaload, 1) := by decide +kernel
theorem dX2_share_37 : decode cX2_share 37 = .ok (.astore 4, 2) := by decide +kernel
theorem dX2_share_39 : decode cX2_share 39 = .ok (.aload_n 3, 1) := by decide +kernel
theorem dX2_share_40 : decode cX2_share 40 = .ok (.getfield 50, 3) := by decide +kernel
theorem dX2_share_43 : decode cX2_share 43 = .ok (.ifCond .ne 11, 3) := by decide +kernel
theorem dX2_share_46 : decode cX2_share 46 = .ok (.aload 4, 2) := by decide +kernel
theorem dX2_share_48 : decode cX2_share 48 = .ok (.getfield 50, 3) := by decide +kernel
theorem dX2_share_51 : decode cX2_share 51 = .ok (.ifCond .eq 6, 3) := by decide +kernel
theorem dX2_share_54 : decode cX2_share 54 = .ok (.bipush (-4), 2) := by decide +kernel
theorem dX2_share_56 : decode cX2_share 56 = .ok (.ireturn, 1) := by decide +kernel
theorem dX2_share_57 : decode cX2_share 57 = .ok (.aload_n 3, 1) := by decide +kernel
theorem dX2_share_58 : decode cX2_share 58 = .ok (.getfield 57, 3) := by decide +kernel
theorem dX2_share_61 : decode cX2_share 61 = .ok (.aload 4, 2) := by decide +kernel
theorem dX2_share_63 : decode cX2_share 63 = .ok (.getfield 57, 3) := by decide +kernel
theorem dX2_share_66 : decode cX2_share 66 = .ok (.iadd, 1) := by decide +kernel
theorem dX2_share_67 : decode cX2_share 67 = .ok (.istore 5, 2) := by decide +kernel
theorem dX2_share_69 : decode cX2_share 69 = .ok (.iload 5, 2) := by decide +kernel
theorem dX2_share_71 : decode cX2_share 71 = .ok (.aload_n 3, 1) := by decide +kernel
theorem dX2_share_72 : decode cX2_share 72 = .ok (.aload_n 3, 1) := by decide +kernel
theorem dX2_share_73 : decode cX2_share 73 = .ok (.getfield 63, 3) := by decide +kernel
theorem dX2_share_76 : decode cX2_share 76 = .ok (.invokevirtual 66, 3) := by decide +kernel
theorem dX2_share_79 : decode cX2_share 79 = .ok (.aload 4, 2) := by decide +kernel
theorem dX2_share_81 : decode cX2_share 81 = .ok (.aload 4, 2) := by decide +kernel
theorem dX2_share_83 : decode cX2_share 83 = .ok (.getfield 63, 3) := by decide +kernel
theorem dX2_share_86 : decode cX2_share 86 = .ok (.invokevirtual 66, 3) := by decide +kernel
theorem dX2_share_89 : decode cX2_share 89 = .ok (.invokestatic 70, 3) := by decide +kernel
theorem dX2_share_92 : decode cX2_share 92 = .ok (.istore 6, 2) := by decide +kernel
theorem dX2_share_94 : decode cX2_share 94 = .ok (.iload 6, 2) := by decide +kernel
theorem dX2_share_96 : decode cX2_share 96 = .ok (.ldc 74, 2) := by decide +kernel
theorem dX2_share_98 : decode cX2_share 98 = .ok (.if_icmp .gt 13, 3) := by decide +kernel
theorem dX2_share_101 : decode cX2_share 101 = .ok (.iload 5, 2) := by decide +kernel
theorem dX2_share_103 : decode cX2_share 103 = .ok (.iload 6, 2) := by decide +kernel
theorem dX2_share_105 : decode cX2_share 105 = .ok (.isub, 1) := by decide +kernel
theorem dX2_share_106 : decode cX2_share 106 = .ok (.ldc 74, 2) := by decide +kernel
theorem dX2_share_108 : decode cX2_share 108 = .ok (.if_icmp .le 6, 3) := by decide +kernel
theorem dX2_share_111 : decode cX2_share 111 = .ok (.bipush (-3), 2) := by decide +kernel
theorem dX2_share_113 : decode cX2_share 113 = .ok (.ireturn, 1) := by decide +kernel
theorem dX2_share_114 : decode cX2_share 114 = .ok (.iload 6, 2) := by decide +kernel
theorem dX2_share_116 : decode cX2_share 116 = .ok (.aload_n 3, 1) := by decide +kernel
theorem dX2_share_117 : decode cX2_share 117 = .ok (.getfield 57, 3) := by decide +kernel
theorem dX2_share_120 : decode cX2_share 120 = .ok (.if_icmp .ne 6, 3) := by decide +kernel
theorem dX2_share_123 : decode cX2_share 123 = .ok (.bipush (-5), 2) := by decide +kernel
theorem dX2_share_125 : decode cX2_share 125 = .ok (.ireturn, 1) := by decide +kernel
theorem dX2_share_126 : decode cX2_share 126 = .ok (.aload_n 3, 1) := by decide +kernel
theorem dX2_share_127 : decode cX2_share 127 = .ok (.aload 4, 2) := by decide +kernel
theorem dX2_share_129 : decode cX2_share 129 = .ok (.iload 6, 2) := by decide +kernel
theorem dX2_share_131 : decode cX2_share 131 = .ok (.invokestatic 75, 3) := by decide +kernel
theorem dX2_share_134 : decode cX2_share 134 = .ok (.aload_n 0, 1) := by decide +kernel
theorem dX2_share_135 : decode cX2_share 135 = .ok (.dup, 1) := by decide +kernel
theorem dX2_share_136 : decode cX2_share 136 = .ok (.getfield 26, 3) := by decide +kernel
theorem dX2_share_139 : decode cX2_share 139 = .ok (.iconst 1, 1) := by decide +kernel
theorem dX2_share_140 : decode cX2_share 140 = .ok (.iadd, 1) := by decide +kernel
theorem dX2_share_141 : decode cX2_share 141 = .ok (.putfield 26, 3) := by decide +kernel
theorem dX2_share_144 : decode cX2_share 144 = .ok (.iload 6, 2) := by decide +kernel
theorem dX2_share_146 : decode cX2_share 146 = .ok (.ireturn, 1) := by decide +kernel
theorem dX2_shareOf_0 : decode cX2_shareOf 0 = .ok (.iload_n 1, 1) := by decide +kernel
theorem dX2_shareOf_1 : decode cX2_shareOf 1 = .ok (.iload_n 2, 1) := by decide +kernel
theorem dX2_shareOf_2 : decode cX2_shareOf 2 = .ok (.iadd, 1) := by decide +kernel
theorem dX2_shareOf_3 : decode cX2_shareOf 3 = .ok (.istore_n 3, 1) := by decide +kernel
theorem dX2_shareOf_4 : decode cX2_shareOf 4 = .ok (.iload_n 3, 1) := by decide +kernel
theorem dX2_shareOf_5 : decode cX2_shareOf 5 = .ok (.iconst 1, 1) := by decide +kernel
theorem dX2_shareOf_6 : decode cX2_shareOf 6 = .ok (.if_icmp .ge 7, 3) := by decide +kernel
theorem dX2_shareOf_9 : decode cX2_shareOf 9 = .ok (.iconst 0, 1) := by decide +kernel
theorem dX2_shareOf_10 : decode cX2_shareOf 10 = .ok (.goto 12, 3) := by decide +kernel
theorem dX2_shareOf_13 : decode cX2_shareOf 13 = .ok (.iload_n 0, 1) := by decide +kernel
theorem dX2_shareOf_14 : decode cX2_shareOf 14 = .ok (.i2l, 1) := by decide +kernel
theorem dX2_shareOf_15 : decode cX2_shareOf 15 = .ok (.iload_n 1, 1) := by decide +kernel
theorem dX2_shareOf_16 : decode cX2_shareOf 16 = .ok (.i2l, 1) := by decide +kernel
theorem dX2_shareOf_17 : decode cX2_shareOf 17 = .ok (.lmul, 1) := by decide +kernel
theorem dX2_shareOf_18 : decode cX2_shareOf 18 = .ok (.iload_n 3, 1) := by decide +kernel
theorem dX2_shareOf_19 : decode cX2_shareOf 19 = .ok (.i2l, 1) := by decide +kernel
theorem dX2_shareOf_20 : decode cX2_shareOf 20 = .ok (.ldiv, 1) := by decide +kernel
theorem dX2_shareOf_21 : decode cX2_shareOf 21 = .ok (.l2i, 1) := by decide +kernel
theorem dX2_shareOf_22 : decode cX2_shareOf 22 = .ok (.ireturn, 1) := by decide +kernel
set_option maxRecDepth 20000 in
theorem ggX2_moveCharges_X1_stored : GoodIn wsX2_moveCharges wsX1_stored := goodIn_r _ [8, 9, 10, 11, 12, 13, 14, 15, 7, 16, 17, 22, 23, 24, 25, 26, 27, 28, 29] (by decide +kernel) (by decide +kernel)
set_option maxRecDepth 20000 in
theorem gX2_moveCharges_X1_stored : GoodIn wsX2_moveCharges (wsV RX2 79 RX1 yX1_stored wsX1_stored) := goodIn_app (goodIn_of _ (by decide +kernel)) ggX2_moveCharges_X1_stored
set_option maxRecDepth 20000 in
theorem ggX2_moveCharges_J9_floorDiv_f86c9 : GoodIn wsX2_moveCharges wsJ9_floorDiv_f86c9 := goodIn_r _ [21] (by decide +kernel) (by decide +kernel)
set_option maxRecDepth 20000 in
theorem gX2_moveCharges_J9_floorDiv_f86c9 : GoodIn wsX2_moveCharges (va_wsS RX2 85 yJ9_floorDiv_f86c9 wsJ9_floorDiv_f86c9) := goodIn_app (goodIn_of _ (by decide +kernel)) ggX2_moveCharges_J9_floorDiv_f86c9
theorem dX2_moveCharges_0 : decode cX2_moveCharges 0 = .ok (.aload_n 0, 1) := by decide +kernel
theorem dX2_moveCharges_1 : decode cX2_moveCharges 1 = .ok (.invokevirtual 79, 3) := by decide +kernel
theorem dX2_moveCharges_4 : decode cX2_moveCharges 4 = .ok (.aload_n 1, 1) := by decide +kernel
theorem dX2_moveCharges_5 : decode cX2_moveCharges 5 = .ok (.invokevirtual 79, 3) := by decide +kernel
theorem dX2_moveCharges_8 : decode cX2_moveCharges 8 = .ok (.ladd, 1) := by decide +kernel
theorem dX2_moveCharges_9 : decode cX2_moveCharges 9 = .ok (.lstore_n 3, 1) := by decide +kernel
theorem dX2_moveCharges_10 : decode cX2_moveCharges 10 = .ok (.aload_n 1, 1) := by decide +kernel
theorem dX2_moveCharges_11 : decode cX2_moveCharges 11 = .ok (.dup, 1) := by decide +kernel
theorem dX2_moveCharges_12 : decode cX2_moveCharges 12 = .ok (.getfield 57, 3) := by decide +kernel
theorem dX2_moveCharges_15 : decode cX2_moveCharges 15 = .ok (.aload_n 0, 1) := by decide +kernel
theorem dX2_moveCharges_16 : decode cX2_moveCharges 16 = .ok (.getfield 57, 3) := by decide +kernel
theorem dX2_moveCharges_19 : decode cX2_moveCharges 19 = .ok (.iload_n 2, 1) := by decide +kernel
theorem dX2_moveCharges_20 : decode cX2_moveCharges 20 = .ok (.isub, 1) := by decide +kernel
theorem dX2_moveCharges_21 : decode cX2_moveCharges 21 = .ok (.iadd, 1) := by decide +kernel
theorem dX2_moveCharges_22 : decode cX2_moveCharges 22 = .ok (.putfield 57, 3) := by decide +kernel
theorem dX2_moveCharges_25 : decode cX2_moveCharges 25 = .ok (.aload_n 0, 1) := by decide +kernel
theorem dX2_moveCharges_26 : decode cX2_moveCharges 26 = .ok (.iload_n 2, 1) := by decide +kernel
theorem dX2_moveCharges_27 : decode cX2_moveCharges 27 = .ok (.putfield 57, 3) := by decide +kernel
theorem dX2_moveCharges_30 : decode cX2_moveCharges 30 = .ok (.lload_n 3, 1) := by decide +kernel
theorem dX2_moveCharges_31 : decode cX2_moveCharges 31 = .ok (.aload_n 0, 1) := by decide +kernel
theorem dX2_moveCharges_32 : decode cX2_moveCharges 32 = .ok (.invokevirtual 79, 3) := by decide +kernel
theorem dX2_moveCharges_35 : decode cX2_moveCharges 35 = .ok (.lsub, 1) := by decide +kernel
theorem dX2_moveCharges_36 : decode cX2_moveCharges 36 = .ok (.aload_n 1, 1) := by decide +kernel
theorem dX2_moveCharges_37 : decode cX2_moveCharges 37 = .ok (.invokevirtual 79, 3) := by decide +kernel
theorem dX2_moveCharges_40 : decode cX2_moveCharges 40 = .ok (.lsub, 1) := by decide +kernel
theorem dX2_moveCharges_41 : decode cX2_moveCharges 41 = .ok (.lstore 5, 2) := by decide +kernel
theorem dX2_moveCharges_43 : decode cX2_moveCharges 43 = .ok (.lload 5, 2) := by decide +kernel
theorem dX2_moveCharges_45 : decode cX2_moveCharges 45 = .ok (.ldc2_w 83, 3) := by decide +kernel
theorem dX2_moveCharges_48 : decode cX2_moveCharges 48 = .ok (.invokestatic 85, 3) := by decide +kernel
theorem dX2_moveCharges_51 : decode cX2_moveCharges 51 = .ok (.lstore 7, 2) := by decide +kernel
theorem dX2_moveCharges_53 : decode cX2_moveCharges 53 = .ok (.aload_n 0, 1) := by decide +kernel
theorem dX2_moveCharges_54 : decode cX2_moveCharges 54 = .ok (.dup, 1) := by decide +kernel
theorem dX2_moveCharges_55 : decode cX2_moveCharges 55 = .ok (.getfield 91, 3) := by decide +kernel
theorem dX2_moveCharges_58 : decode cX2_moveCharges 58 = .ok (.lload 7, 2) := by decide +kernel
theorem dX2_moveCharges_60 : decode cX2_moveCharges 60 = .ok (.ladd, 1) := by decide +kernel
theorem dX2_moveCharges_61 : decode cX2_moveCharges 61 = .ok (.putfield 91, 3) := by decide +kernel
theorem dX2_moveCharges_64 : decode cX2_moveCharges 64 = .ok (.aload_n 1, 1) := by decide +kernel
theorem dX2_moveCharges_65 : decode cX2_moveCharges 65 = .ok (.dup, 1) := by decide +kernel
theorem dX2_moveCharges_66 : decode cX2_moveCharges 66 = .ok (.getfield 91, 3) := by decide +kernel
theorem dX2_moveCharges_69 : decode cX2_moveCharges 69 = .ok (.lload 5, 2) := by decide +kernel
theorem dX2_moveCharges_71 : decode cX2_moveCharges 71 = .ok (.lload 7, 2) := by decide +kernel
theorem dX2_moveCharges_73 : decode cX2_moveCharges 73 = .ok (.lsub, 1) := by decide +kernel
theorem dX2_moveCharges_74 : decode cX2_moveCharges 74 = .ok (.ladd, 1) := by decide +kernel
theorem dX2_moveCharges_75 : decode cX2_moveCharges 75 = .ok (.putfield 91, 3) := by decide +kernel
theorem dX2_moveCharges_78 : decode cX2_moveCharges 78 = .ok (.return_, 1) := by decide +kernel
set_option maxRecDepth 20000 in
theorem ggX2_letPass_X1_movesInTick : GoodIn wsX2_letPass wsX1_movesInTick := goodIn_r _ [9, 10, 11, 12, 13, 8, 14, 15, 16, 17, 18, 19, 20, 21, 22, 23, 24, 25, 26, 27, 28, 29, 30, 31, 32, 33, 34, 35, 36, 37, 38, 39, 40, 41, 42, 43, 44, 45, 46, 47, 48, 49, 50, 51, 52, 53, 54, 55, 56, 57, 62, 63, 64, 65, 66, 67, 68, 69] (by decide +kernel) (by decide +kernel)
set_option maxRecDepth 20000 in
theorem gX2_letPass_X1_movesInTick : GoodIn wsX2_letPass (wsV RX2 96 RX1 yX1_movesInTick wsX1_movesInTick) := goodIn_app (goodIn_of _ (by decide +kernel)) ggX2_letPass_X1_movesInTick
theorem dX2_letPass_0 : decode cX2_letPass 0 = .ok (.iload_n 1, 1) := by decide +kernel
theorem dX2_letPass_1 : decode cX2_letPass 1 = .ok (.iconst 1, 1) := by decide +kernel
theorem dX2_letPass_2 : decode cX2_letPass 2 = .ok (.if_icmp .lt 9, 3) := by decide +kernel
theorem dX2_letPass_5 : decode cX2_letPass 5 = .ok (.iload_n 1, 1) := by decide +kernel
theorem dX2_letPass_6 : decode cX2_letPass 6 = .ok (.bipush 99, 2) := by decide +kernel
theorem dX2_letPass_8 : decode cX2_letPass 8 = .ok (.if_icmp .le 6, 3) := by decide +kernel
theorem dX2_letPass_11 : decode cX2_letPass 11 = .ok (.bipush (-2), 2) := by decide +kernel
theorem dX2_letPass_13 : decode cX2_letPass 13 = .ok (.ireturn, 1) := by decide +kernel
theorem dX2_letPass_14 : decode cX2_letPass 14 = .ok (.aload_n 0, 1) := by decide +kernel
theorem dX2_letPass_15 : decode cX2_letPass 15 = .ok (.getfield 22, 3) := by decide +kernel
theorem dX2_letPass_18 : decode cX2_letPass 18 = .ok (.iload_n 1, 1) := by decide +kernel
theorem dX2_letPass_19 : decode cX2_letPass 19 = .ok (.iadd, 1) := by decide +kernel
theorem dX2_letPass_20 : decode cX2_letPass 20 = .ok (.ldc 95, 2) := by decide +kernel
theorem dX2_letPass_22 : decode cX2_letPass 22 = .ok (.if_icmp .le 6, 3) := by decide +kernel
theorem dX2_letPass_25 : decode cX2_letPass 25 = .ok (.bipush (-3), 2) := by decide +kernel
theorem dX2_letPass_27 : decode cX2_letPass 27 = .ok (.ireturn, 1) := by decide +kernel
theorem dX2_letPass_28 : decode cX2_letPass 28 = .ok (.iconst 0, 1) := by decide +kernel
theorem dX2_letPass_29 : decode cX2_letPass 29 = .ok (.istore_n 2, 1) := by decide +kernel
theorem dX2_letPass_30 : decode cX2_letPass 30 = .ok (.iconst 0, 1) := by decide +kernel
theorem dX2_letPass_31 : decode cX2_letPass 31 = .ok (.istore_n 3, 1) := by decide +kernel
theorem dX2_letPass_32 : decode cX2_letPass 32 = .ok (.iload_n 3, 1) := by decide +kernel
theorem dX2_letPass_33 : decode cX2_letPass 33 = .ok (.iload_n 1, 1) := by decide +kernel
theorem dX2_letPass_34 : decode cX2_letPass 34 = .ok (.if_icmp .ge 52, 3) := by decide +kernel
theorem dX2_letPass_37 : decode cX2_letPass 37 = .ok (.iconst 0, 1) := by decide +kernel
theorem dX2_letPass_38 : decode cX2_letPass 38 = .ok (.istore_n 2, 1) := by decide +kernel
theorem dX2_letPass_39 : decode cX2_letPass 39 = .ok (.iconst 0, 1) := by decide +kernel
theorem dX2_letPass_40 : decode cX2_letPass 40 = .ok (.istore 4, 2) := by decide +kernel
theorem dX2_letPass_42 : decode cX2_letPass 42 = .ok (.iload 4, 2) := by decide +kernel
theorem dX2_letPass_44 : decode cX2_letPass 44 = .ok (.iconst 4, 1) := by decide +kernel
theorem dX2_letPass_45 : decode cX2_letPass 45 = .ok (.if_icmp .ge 25, 3) := by decide +kernel
theorem dX2_letPass_48 : decode cX2_letPass 48 = .ok (.aload_n 0, 1) := by decide +kernel
theorem dX2_letPass_49 : decode cX2_letPass 49 = .ok (.getfield 11, 3) := by decide +kernel
theorem dX2_letPass_52 : decode cX2_letPass 52 = .ok (.iload 4, 2) := by decide +kernel
theorem dX2_letPass_54 : decode cX2_letPass 54 = .ok (.aaload, 1) := by decide +kernel
theorem dX2_letPass_55 : decode cX2_letPass 55 = .ok (.invokevirtual 96, 3) := by decide +kernel
theorem dX2_letPass_58 : decode cX2_letPass 58 = .ok (.ifCond .eq 6, 3) := by decide +kernel
theorem dX2_letPass_61 : decode cX2_letPass 61 = .ok (.iinc 2 1, 3) := by decide +kernel
theorem dX2_letPass_64 : decode cX2_letPass 64 = .ok (.iinc 4 1, 3) := by decide +kernel
theorem dX2_letPass_67 : decode cX2_letPass 67 = .ok (.goto (-25), 3) := by decide +kernel
theorem dX2_letPass_70 : decode cX2_letPass 70 = .ok (.aload_n 0, 1) := by decide +kernel
theorem dX2_letPass_71 : decode cX2_letPass 71 = .ok (.dup, 1) := by decide +kernel
theorem dX2_letPass_72 : decode cX2_letPass 72 = .ok (.getfield 29, 3) := by decide +kernel
theorem dX2_letPass_75 : decode cX2_letPass 75 = .ok (.iload_n 2, 1) := by decide +kernel
theorem dX2_letPass_76 : decode cX2_letPass 76 = .ok (.iadd, 1) := by decide +kernel
theorem dX2_letPass_77 : decode cX2_letPass 77 = .ok (.putfield 29, 3) := by decide +kernel
theorem dX2_letPass_80 : decode cX2_letPass 80 = .ok (.iinc 3 1, 3) := by decide +kernel
theorem dX2_letPass_83 : decode cX2_letPass 83 = .ok (.goto (-51), 3) := by decide +kernel
theorem dX2_letPass_86 : decode cX2_letPass 86 = .ok (.aload_n 0, 1) := by decide +kernel
theorem dX2_letPass_87 : decode cX2_letPass 87 = .ok (.dup, 1) := by decide +kernel
theorem dX2_letPass_88 : decode cX2_letPass 88 = .ok (.getfield 22, 3) := by decide +kernel
theorem dX2_letPass_91 : decode cX2_letPass 91 = .ok (.iload_n 1, 1) := by decide +kernel
theorem dX2_letPass_92 : decode cX2_letPass 92 = .ok (.iadd, 1) := by decide +kernel
theorem dX2_letPass_93 : decode cX2_letPass 93 = .ok (.putfield 22, 3) := by decide +kernel
theorem dX2_letPass_96 : decode cX2_letPass 96 = .ok (.iload_n 2, 1) := by decide +kernel
theorem dX2_letPass_97 : decode cX2_letPass 97 = .ok (.ireturn, 1) := by decide +kernel
end
section
theorem dX3_init_0 : decode cX3_init 0 = .ok (.aload_n 0, 1) := by decide +kernel
theorem dX3_init_1 : decode cX3_init 1 = .ok (.invokespecial 3, 3) := by decide +kernel
theorem dX3_init_4 : decode cX3_init 4 = .ok (.aload_n 0, 1) := by decide +kernel
theorem dX3_init_5 : decode cX3_init 5 = .ok (.bipush 60, 2) := by decide +kernel
theorem dX3_init_7 : decode cX3_init 7 = .ok (.newarray .char, 2) := by decide +kernel
theorem dX3_init_9 : decode cX3_init 9 = .ok (.putfield 9, 3) := by decide +kernel
theorem dX3_init_12 : decode cX3_init 12 = .ok (.return_, 1) := by decide +kernel
theorem dX3_append_0 : decode cX3_append 0 = .ok (.aload_n 0, 1) := by decide +kernel
theorem dX3_append_1 : decode cX3_append 1 = .ok (.getfield 15, 3) := by decide +kernel
theorem dX3_append_4 : decode cX3_append 4 = .ok (.bipush 60, 2) := by decide +kernel
theorem dX3_append_6 : decode cX3_append 6 = .ok (.if_icmp .lt 6, 3) := by decide +kernel
theorem dX3_append_9 : decode cX3_append 9 = .ok (.bipush (-3), 2) := by decide +kernel
theorem dX3_append_11 : decode cX3_append 11 = .ok (.ireturn, 1) := by decide +kernel
theorem dX3_append_12 : decode cX3_append 12 = .ok (.aload_n 0, 1) := by decide +kernel
theorem dX3_append_13 : decode cX3_append 13 = .ok (.getfield 9, 3) := by decide +kernel
theorem dX3_append_16 : decode cX3_append 16 = .ok (.aload_n 0, 1) := by decide +kernel
theorem dX3_append_17 : decode cX3_append 17 = .ok (.getfield 15, 3) := by decide +kernel
theorem dX3_append_20 : decode cX3_append 20 = .ok (.iload_n 1, 1) := by decide +kernel
theorem dX3_append_21 : decode cX3_append 21 = .ok (.castore, 1) := by decide +kernel
theorem dX3_append_22 : decode cX3_append 22 = .ok (.aload_n 0, 1) := by decide +kernel
theorem dX3_append_23 : decode cX3_append 23 = .ok (.dup, 1) := by decide +kernel
theorem dX3_append_24 : decode cX3_append 24 = .ok (.getfield 15, 3) := by decide +kernel
theorem dX3_append_27 : decode cX3_append 27 = .ok (.iconst 1, 1) := by decide +kernel
theorem dX3_append_28 : decode cX3_append 28 = .ok (.iadd, 1) := by decide +kernel
theorem dX3_append_29 : decode cX3_append 29 = .ok (.putfield 15, 3) := by decide +kernel
theorem dX3_append_32 : decode cX3_append 32 = .ok (.aload_n 0, 1) := by decide +kernel
theorem dX3_append_33 : decode cX3_append 33 = .ok (.getfield 15, 3) := by decide +kernel
theorem dX3_append_36 : decode cX3_append 36 = .ok (.ireturn, 1) := by decide +kernel
theorem dX3_empty_0 : decode cX3_empty 0 = .ok (.aload_n 0, 1) := by decide +kernel
theorem dX3_empty_1 : decode cX3_empty 1 = .ok (.getfield 15, 3) := by decide +kernel
theorem dX3_empty_4 : decode cX3_empty 4 = .ok (.istore_n 1, 1) := by decide +kernel
theorem dX3_empty_5 : decode cX3_empty 5 = .ok (.aload_n 0, 1) := by decide +kernel
theorem dX3_empty_6 : decode cX3_empty 6 = .ok (.iconst 0, 1) := by decide +kernel
theorem dX3_empty_7 : decode cX3_empty 7 = .ok (.putfield 15, 3) := by decide +kernel
theorem dX3_empty_10 : decode cX3_empty 10 = .ok (.iload_n 1, 1) := by decide +kernel
theorem dX3_empty_11 : decode cX3_empty 11 = .ok (.ireturn, 1) := by decide +kernel
theorem dX3_signAt_0 : decode cX3_signAt 0 = .ok (.iload_n 1, 1) := by decide +kernel
theorem dX3_signAt_1 : decode cX3_signAt 1 = .ok (.ifCond .lt 20, 3) := by decide +kernel
theorem dX3_signAt_4 : decode cX3_signAt 4 = .ok (.iload_n 1, 1) := by decide +kernel
theorem dX3_signAt_5 : decode cX3_signAt 5 = .ok (.aload_n 0, 1) := by decide +kernel
theorem dX3_signAt_6 : decode cX3_signAt 6 = .ok (.getfield 15, 3) := by decide +kernel
theorem dX3_signAt_9 : decode cX3_signAt 9 = .ok (.if_icmp .ge 12, 3) := by decide +kernel
theorem dX3_signAt_12 : decode cX3_signAt 12 = .ok (.aload_n 0, 1) := by decide +kernel
theorem dX3_signAt_13 : decode cX3_signAt 13 = .ok (.getfield 9, 3) := by decide +kernel
theorem dX3_signAt_16 : decode cX3_signAt 16 = .ok (.iload_n 1, 1) := by decide +kernel
theorem dX3_signAt_17 : decode cX3_signAt 17 = .ok (.caload, 1) := by decide +kernel
theorem dX3_signAt_18 : decode cX3_signAt 18 = .ok (.goto 4, 3) := by decide +kernel
theorem dX3_signAt_21 : decode cX3_signAt 21 = .ok (.iconst 0, 1) := by decide +kernel
theorem dX3_signAt_22 : decode cX3_signAt 22 = .ok (.ireturn, 1) := by decide +kernel
set_option maxRecDepth 20000 in
theorem ggX4_init_X3_init : GoodIn wsX4_init wsX3_init := goodIn_r _ [13, 14, 2, 3, 15, 16, 17, 18] (by decide +kernel) (by decide +kernel)
set_option maxRecDepth 20000 in
theorem gX4_init_X3_init_n11 : GoodIn wsX4_init (wsX3_init) := ggX4_init_X3_init
theorem dX4_init_0 : decode cX4_init 0 = .ok (.aload_n 0, 1) := by decide +kernel
theorem dX4_init_1 : decode cX4_init 1 = .ok (.invokespecial 3, 3) := by decide +kernel
theorem dX4_init_4 : decode cX4_init 4 = .ok (.aload_n 0, 1) := by decide +kernel
theorem dX4_init_5 : decode cX4_init 5 = .ok (.new 9, 3) := by decide +kernel
theorem dX4_init_8 : decode cX4_init 8 = .ok (.dup, 1) := by decide +kernel
theorem dX4_init_9 : decode cX4_init 9 = .ok (.invokespecial 11, 3) := by decide +kernel
theorem dX4_init_12 : decode cX4_init 12 = .ok (.putfield 12, 3) := by decide +kernel
theorem dX4_init_15 : decode cX4_init 15 = .ok (.aload_n 0, 1) := by decide +kernel
theorem dX4_init_16 : decode cX4_init 16 = .ok (.bipush 20, 2) := by decide +kernel
theorem dX4_init_18 : decode cX4_init 18 = .ok (.newarray .int, 2) := by decide +kernel
theorem dX4_init_20 : decode cX4_init 20 = .ok (.putfield 18, 3) := by decide +kernel
theorem dX4_init_23 : decode cX4_init 23 = .ok (.aload_n 0, 1) := by decide +kernel
theorem dX4_init_24 : decode cX4_init 24 = .ok (.bipush 20, 2) := by decide +kernel
theorem dX4_init_26 : decode cX4_init 26 = .ok (.newarray .int, 2) := by decide +kernel
theorem dX4_init_28 : decode cX4_init 28 = .ok (.putfield 22, 3) := by decide +kernel
theorem dX4_init_31 : decode cX4_init 31 = .ok (.aload_n 0, 1) := by decide +kernel
theorem dX4_init_32 : decode cX4_init 32 = .ok (.bipush 20, 2) := by decide +kernel
theorem dX4_init_34 : decode cX4_init 34 = .ok (.newarray .int, 2) := by decide +kernel
theorem dX4_init_36 : decode cX4_init 36 = .ok (.putfield 25, 3) := by decide +kernel
theorem dX4_init_39 : decode cX4_init 39 = .ok (.return_, 1) := by decide +kernel
set_option maxRecDepth 20000 in
theorem ggX4_kindOf_X4_isThing : GoodIn wsX4_kindOf wsX4_isThing := goodIn_r _ [6, 7, 8, 9, 10, 11, 12, 13, 14, 15] (by decide +kernel) (by decide +kernel)
set_option maxRecDepth 20000 in
theorem gX4_kindOf_X4_isThing : GoodIn wsX4_kindOf (wsV RX4 28 RX4 yX4_isThing wsX4_isThing) := goodIn_app (goodIn_of _ (by decide +kernel)) ggX4_kindOf_X4_isThing
theorem dX4_kindOf_0 : decode cX4_kindOf 0 = .ok (.aload_n 0, 1) := by decide +kernel
theorem dX4_kindOf_1 : decode cX4_kindOf 1 = .ok (.iload_n 1, 1) := by decide +kernel
theorem dX4_kindOf_2 : decode cX4_kindOf 2 = .ok (.invokevirtual 28, 3) := by decide +kernel
theorem dX4_kindOf_5 : decode cX4_kindOf 5 = .ok (.ifCond .eq 12, 3) := by decide +kernel
theorem dX4_kindOf_8 : decode cX4_kindOf 8 = .ok (.aload_n 0, 1) := by decide +kernel
theorem dX4_kindOf_9 : decode cX4_kindOf 9 = .ok (.getfield 18, 3) := by decide +kernel
theorem dX4_kindOf_12 : decode cX4_kindOf 12 = .ok (.iload_n 1, 1) := by decide +kernel
theorem dX4_kindOf_13 : decode cX4_kindOf 13 = .ok (.iaload, 1) := by decide +kernel
theorem dX4_kindOf_14 : decode cX4_kindOf 14 = .ok (.goto 4, 3) := by decide +kernel
theorem dX4_kindOf_17 : decode cX4_kindOf 17 = .ok (.iconst 0, 1) := by decide +kernel
theorem dX4_kindOf_18 : decode cX4_kindOf 18 = .ok (.ireturn, 1) := by decide +kernel
set_option maxRecDepth 20000 in
theorem ggX4_pairOf_X4_isThing : GoodIn wsX4_pairOf wsX4_isThing := goodIn_r _ [6, 7, 8, 9, 10, 11, 12, 13, 14, 15] (by decide +kernel) (by decide +kernel)
set_option maxRecDepth 20000 in
theorem gX4_pairOf_X4_isThing : GoodIn wsX4_pairOf (wsV RX4 28 RX4 yX4_isThing wsX4_isThing) := goodIn_app (goodIn_of _ (by decide +kernel)) ggX4_pairOf_X4_isThing
theorem dX4_pairOf_0 : decode cX4_pairOf 0 = .ok (.aload_n 0, 1) := by decide +kernel
theorem dX4_pairOf_1 : decode cX4_pairOf 1 = .ok (.iload_n 1, 1) := by decide +kernel
theorem dX4_pairOf_2 : decode cX4_pairOf 2 = .ok (.invokevirtual 28, 3) := by decide +kernel
theorem dX4_pairOf_5 : decode cX4_pairOf 5 = .ok (.ifCond .eq 12, 3) := by decide +kernel
theorem dX4_pairOf_8 : decode cX4_pairOf 8 = .ok (.aload_n 0, 1) := by decide +kernel
theorem dX4_pairOf_9 : decode cX4_pairOf 9 = .ok (.getfield 22, 3) := by decide +kernel
theorem dX4_pairOf_12 : decode cX4_pairOf 12 = .ok (.iload_n 1, 1) := by decide +kernel
theorem dX4_pairOf_13 : decode cX4_pairOf 13 = .ok (.iaload, 1) := by decide +kernel
theorem dX4_pairOf_14 : decode cX4_pairOf 14 = .ok (.goto 4, 3) := by decide +kernel
theorem dX4_pairOf_17 : decode cX4_pairOf 17 = .ok (.iconst 0, 1) := by decide +kernel
theorem dX4_pairOf_18 : decode cX4_pairOf 18 = .ok (.ireturn, 1) := by decide +kernel
set_option maxRecDepth 20000 in
theorem ggX4_valueOf_X4_isThing : GoodIn wsX4_valueOf wsX4_isThing := goodIn_r _ [6, 7, 8, 9, 10, 11, 12, 13, 14, 15] (by decide +kernel) (by decide +kernel)
set_option maxRecDepth 20000 in
theorem gX4_valueOf_X4_isThing : GoodIn wsX4_valueOf (wsV RX4 28 RX4 yX4_isThing wsX4_isThing) := goodIn_app (goodIn_of _ (by decide +kernel)) ggX4_valueOf_X4_isThing
theorem dX4_valueOf_0 : decode cX4_valueOf 0 = .ok (.aload_n 0, 1) := by decide +kernel
theorem dX4_valueOf_1 : decode cX4_valueOf 1 = .ok (.iload_n 1, 1) := by decide +kernel
theorem dX4_valueOf_2 : decode cX4_valueOf 2 = .ok (.invokevirtual 28, 3) := by decide +kernel
theorem dX4_valueOf_5 : decode cX4_valueOf 5 = .ok (.ifCond .eq 12, 3) := by decide +kernel
theorem dX4_valueOf_8 : decode cX4_valueOf 8 = .ok (.aload_n 0, 1) := by decide +kernel
theorem dX4_valueOf_9 : decode cX4_valueOf 9 = .ok (.getfield 25, 3) := by decide +kernel
theorem dX4_valueOf_12 : decode cX4_valueOf 12 = .ok (.iload_n 1, 1) := by decide +kernel
theorem dX4_valueOf_13 : decode cX4_valueOf 13 = .ok (.iaload, 1) := by decide +kernel
theorem dX4_valueOf_14 : decode cX4_valueOf 14 = .ok (.goto 4, 3) := by decide +kernel
theorem dX4_valueOf_17 : decode cX4_valueOf 17 = .ok (.iconst 0, 1) := by decide +kernel
theorem dX4_valueOf_18 : decode cX4_valueOf 18 = .ok (.ireturn, 1) := by decide +kernel
theorem dX4_isThing_0 : decode cX4_isThing 0 = .ok (.iload_n 1, 1) := by decide +kernel
theorem dX4_isThing_1 : decode cX4_isThing 1 = .ok (.ifCond .lt 15, 3) := by decide +kernel
theorem dX4_isThing_4 : decode cX4_isThing 4 = .ok (.iload_n 1, 1) := by decide +kernel
theorem dX4_isThing_5 : decode cX4_isThing 5 = .ok (.aload_n 0, 1) := by decide +kernel
theorem dX4_isThing_6 : decode cX4_isThing 6 = .ok (.getfield 32, 3) := by decide +kernel
theorem dX4_isThing_9 : decode cX4_isThing 9 = .ok (.if_icmp .ge 7, 3) := by decide +kernel
theorem dX4_isThing_12 : decode cX4_isThing 12 = .ok (.iconst 1, 1) := by decide +kernel
theorem dX4_isThing_13 : decode cX4_isThing 13 = .ok (.goto 4, 3) := by decide +kernel
theorem dX4_isThing_16 : decode cX4_isThing 16 = .ok (.iconst 0, 1) := by decide +kernel
theorem dX4_isThing_17 : decode cX4_isThing 17 = .ok (.ireturn, 1) := by decide +kernel
set_option maxRecDepth 20000 in
theorem ggX4_read_X3_signAt : GoodIn wsX4_read wsX3_signAt := goodIn_r _ [14, 15, 16, 53, 54] (by decide +kernel) (by decide +kernel)
set_option maxRecDepth 20000 in
theorem gX4_read_X3_signAt : GoodIn wsX4_read (wsV RX4 39 RX3 yX3_signAt wsX3_signAt) := goodIn_app (goodIn_of _ (by decide +kernel)) ggX4_read_X3_signAt
set_option maxRecDepth 20000 in
theorem ggX4_read_X4_readThing : GoodIn wsX4_read wsX4_readThing := goodIn_r _ [21, 6, 8, 22, 23, 24, 20, 25, 3, 1, 10, 11, 12, 13, 14, 15, 16, 26, 27, 28, 29, 30, 31, 32, 33, 34, 35, 36, 37, 38, 39, 40, 41, 42, 43, 44, 45, 46, 47, 48, 49, 50, 51, 52, 53, 54] (by decide +kernel) (by decide +kernel)
set_option maxRecDepth 20000 in
theorem gX4_read_X4_readThing : GoodIn wsX4_read (wsV RX4 43 RX4 yX4_readThing wsX4_readThing) := goodIn_app (goodIn_of _ (by decide +kernel)) ggX4_read_X4_readThing
set_option maxRecDepth 20000 in
theorem ggX4_read_X4_readSign : GoodIn wsX4_read wsX4_readSign := goodIn_r _ [25, 3, 1, 10, 11, 12, 13, 14, 15, 16, 45, 46, 47, 48, 49, 50, 51, 52, 53, 54] (by decide +kernel) (by decide +kernel)
set_option maxRecDepth 20000 in
theorem gX4_read_X4_readSign : GoodIn wsX4_read (wsV RX4 55 RX4 yX4_readSign wsX4_readSign) := goodIn_app (goodIn_of _ (by decide +kernel)) ggX4_read_X4_readSign
theorem dX4_read_0 : decode cX4_read 0 = .ok (.aload_n 0, 1) := by decide +kernel
theorem dX4_read_1 : decode cX4_read 1 = .ok (.iconst 0, 1) := by decide +kernel
theorem dX4_read_2 : decode cX4_read 2 = .ok (.putfield 36, 3) := by decide +kernel
theorem dX4_read_5 : decode cX4_read 5 = .ok (.aload_n 0, 1) := by decide +kernel
theorem dX4_read_6 : decode cX4_read 6 = .ok (.iconst 0, 1) := by decide +kernel
theorem dX4_read_7 : decode cX4_read 7 = .ok (.putfield 32, 3) := by decide +kernel
theorem dX4_read_10 : decode cX4_read 10 = .ok (.aload_n 0, 1) := by decide +kernel
theorem dX4_read_11 : decode cX4_read 11 = .ok (.getfield 32, 3) := by decide +kernel
theorem dX4_read_14 : decode cX4_read 14 = .ok (.bipush 20, 2) := by decide +kernel
theorem dX4_read_16 : decode cX4_read 16 = .ok (.if_icmp .ge 107, 3) := by decide +kernel
theorem dX4_read_19 : decode cX4_read 19 = .ok (.aload_n 0, 1) := by decide +kernel
theorem dX4_read_20 : decode cX4_read 20 = .ok (.getfield 12, 3) := by decide +kernel
theorem dX4_read_23 : decode cX4_read 23 = .ok (.aload_n 0, 1) := by decide +kernel
theorem dX4_read_24 : decode cX4_read 24 = .ok (.getfield 36, 3) := by decide +kernel
theorem dX4_read_27 : decode cX4_read 27 = .ok (.invokevirtual 39, 3) := by decide +kernel
theorem dX4_read_30 : decode cX4_read 30 = .ok (.istore_n 1, 1) := by decide +kernel
theorem dX4_read_31 : decode cX4_read 31 = .ok (.aload_n 0, 1) := by decide +kernel
theorem dX4_read_32 : decode cX4_read 32 = .ok (.iload_n 1, 1) := by decide +kernel
theorem dX4_read_33 : decode cX4_read 33 = .ok (.invokevirtual 43, 3) := by decide +kernel
theorem dX4_read_36 : decode cX4_read 36 = .ok (.ifCond .ne 8, 3) := by decide +kernel
theorem dX4_read_39 : decode cX4_read 39 = .ok (.aload_n 0, 1) := by decide +kernel
theorem dX4_read_40 : decode cX4_read 40 = .ok (.getfield 36, 3) := by decide +kernel
theorem dX4_read_43 : decode cX4_read 43 = .ok (.ireturn, 1) := by decide +kernel
theorem dX4_read_44 : decode cX4_read 44 = .ok (.aload_n 0, 1) := by decide +kernel
theorem dX4_read_45 : decode cX4_read 45 = .ok (.getfield 18, 3) := by decide +kernel
theorem dX4_read_48 : decode cX4_read 48 = .ok (.aload_n 0, 1) := by decide +kernel
theorem dX4_read_49 : decode cX4_read 49 = .ok (.getfield 32, 3) := by decide +kernel
theorem dX4_read_52 : decode cX4_read 52 = .ok (.iload_n 1, 1) := by decide +kernel
theorem dX4_read_53 : decode cX4_read 53 = .ok (.iastore, 1) := by decide +kernel
theorem dX4_read_54 : decode cX4_read 54 = .ok (.aload_n 0, 1) := by decide +kernel
theorem dX4_read_55 : decode cX4_read 55 = .ok (.getfield 22, 3) := by decide +kernel
theorem dX4_read_58 : decode cX4_read 58 = .ok (.aload_n 0, 1) := by decide +kernel
theorem dX4_read_59 : decode cX4_read 59 = .ok (.getfield 32, 3) := by decide +kernel
theorem dX4_read_62 : decode cX4_read 62 = .ok (.aload_n 0, 1) := by decide +kernel
theorem dX4_read_63 : decode cX4_read 63 = .ok (.getfield 46, 3) := by decide +kernel
theorem dX4_read_66 : decode cX4_read 66 = .ok (.iastore, 1) := by decide +kernel
theorem dX4_read_67 : decode cX4_read 67 = .ok (.aload_n 0, 1) := by decide +kernel
theorem dX4_read_68 : decode cX4_read 68 = .ok (.getfield 25, 3) := by decide +kernel
theorem dX4_read_71 : decode cX4_read 71 = .ok (.aload_n 0, 1) := by decide +kernel
theorem dX4_read_72 : decode cX4_read 72 = .ok (.getfield 32, 3) := by decide +kernel
theorem dX4_read_75 : decode cX4_read 75 = .ok (.aload_n 0, 1) := by decide +kernel
theorem dX4_read_76 : decode cX4_read 76 = .ok (.getfield 49, 3) := by decide +kernel
theorem dX4_read_79 : decode cX4_read 79 = .ok (.iastore, 1) := by decide +kernel
theorem dX4_read_80 : decode cX4_read 80 = .ok (.aload_n 0, 1) := by decide +kernel
theorem dX4_read_81 : decode cX4_read 81 = .ok (.dup, 1) := by decide +kernel
theorem dX4_read_82 : decode cX4_read 82 = .ok (.getfield 32, 3) := by decide +kernel
theorem dX4_read_85 : decode cX4_read 85 = .ok (.iconst 1, 1) := by decide +kernel
theorem dX4_read_86 : decode cX4_read 86 = .ok (.iadd, 1) := by decide +kernel
theorem dX4_read_87 : decode cX4_read 87 = .ok (.putfield 32, 3) := by decide +kernel
theorem dX4_read_90 : decode cX4_read 90 = .ok (.aload_n 0, 1) := by decide +kernel
theorem dX4_read_91 : decode cX4_read 91 = .ok (.getfield 36, 3) := by decide +kernel
theorem dX4_read_94 : decode cX4_read 94 = .ok (.aload_n 0, 1) := by decide +kernel
theorem dX4_read_95 : decode cX4_read 95 = .ok (.getfield 12, 3) := by decide +kernel
theorem dX4_read_98 : decode cX4_read 98 = .ok (.getfield 52, 3) := by decide +kernel
theorem dX4_read_101 : decode cX4_read 101 = .ok (.if_icmp .ne 5, 3) := by decide +kernel
theorem dX4_read_104 : decode cX4_read 104 = .ok (.iconst (-1), 1) := by decide +kernel
theorem dX4_read_105 : decode cX4_read 105 = .ok (.ireturn, 1) := by decide +kernel
theorem dX4_read_106 : decode cX4_read 106 = .ok (.aload_n 0, 1) := by decide +kernel
theorem dX4_read_107 : decode cX4_read 107 = .ok (.bipush 59, 2) := by decide +kernel
theorem dX4_read_109 : decode cX4_read 109 = .ok (.invokevirtual 55, 3) := by decide +kernel
theorem dX4_read_112 : decode cX4_read 112 = .ok (.ifCond .ne 8, 3) := by decide +kernel
theorem dX4_read_115 : decode cX4_read 115 = .ok (.aload_n 0, 1) := by decide +kernel
theorem dX4_read_116 : decode cX4_read 116 = .ok (.getfield 36, 3) := by decide +kernel
theorem dX4_read_119 : decode cX4_read 119 = .ok (.ireturn, 1) := by decide +kernel
theorem dX4_read_120 : decode cX4_read 120 = .ok (.goto (-110), 3) := by decide +kernel
theorem dX4_read_123 : decode cX4_read 123 = .ok (.aload_n 0, 1) := by decide +kernel
theorem dX4_read_124 : decode cX4_read 124 = .ok (.getfield 36, 3) := by decide +kernel
theorem dX4_read_127 : decode cX4_read 127 = .ok (.ireturn, 1) := by decide +kernel
set_option maxRecDepth 20000 in
theorem ggX4_readThing_X4_readSign : GoodIn wsX4_readThing wsX4_readSign := goodIn_r _ [7, 8, 9, 10, 11, 12, 13, 14, 15, 16, 36, 37, 38, 39, 40, 41, 42, 43, 44, 45] (by decide +kernel) (by decide +kernel)
set_option maxRecDepth 20000 in
theorem gX4_readThing_X4_readSign : GoodIn wsX4_readThing (wsV RX4 55 RX4 yX4_readSign wsX4_readSign) := goodIn_app (goodIn_of _ (by decide +kernel)) ggX4_readThing_X4_readSign
set_option maxRecDepth 20000 in
theorem ggX4_readThing_X4_readPair : GoodIn wsX4_readThing wsX4_readPair := goodIn_r _ [20, 9, 1, 21, 22, 23, 6, 24, 8, 10, 11, 12, 13, 14, 15, 16, 25, 26, 27, 36, 37, 38, 39, 40, 41, 42, 43, 44, 45] (by decide +kernel) (by decide +kernel)
set_option maxRecDepth 20000 in
theorem gX4_readThing_X4_readPair : GoodIn wsX4_readThing (wsV RX4 59 RX4 yX4_readPair wsX4_readPair) := goodIn_app (goodIn_of _ (by decide +kernel)) ggX4_readThing_X4_readPair
set_option maxRecDepth 20000 in
theorem ggX4_readThing_X4_readNumber : GoodIn wsX4_readThing wsX4_readNumber := goodIn_r _ [31, 9, 2, 21, 22, 23, 6, 24, 8, 10, 11, 12, 13, 14, 15, 16, 36, 37, 38, 39, 40, 41, 42, 43, 44, 45] (by decide +kernel) (by decide +kernel)
set_option maxRecDepth 20000 in
theorem gX4_readThing_X4_readNumber : GoodIn wsX4_readThing (wsV RX4 63 RX4 yX4_readNumber wsX4_readNumber) := goodIn_app (goodIn_of _ (by decide +kernel)) ggX4_readThing_X4_readNumber
set_option maxRecDepth 20000 in
theorem ggX4_readThing_X4_readOther : GoodIn wsX4_readThing wsX4_readOther := goodIn_r _ [35, 9, 2, 21, 22, 23, 6, 24, 8, 10, 11, 12, 13, 14, 15, 16, 25, 26, 27, 36, 37, 38, 39, 40, 41, 42, 43, 44, 45] (by decide +kernel) (by decide +kernel)
set_option maxRecDepth 20000 in
theorem gX4_readThing_X4_readOther : GoodIn wsX4_readThing (wsV RX4 67 RX4 yX4_readOther wsX4_readOther) := goodIn_app (goodIn_of _ (by decide +kernel)) ggX4_readThing_X4_readOther
theorem dX4_readThing_0 : decode cX4_readThing 0 = .ok (.aload_n 0, 1) := by decide +kernel
theorem dX4_readThing_1 : decode cX4_readThing 1 = .ok (.iconst 0, 1) := by decide +kernel
theorem dX4_readThing_2 : decode cX4_readThing 2 = .ok (.putfield 46, 3) := by decide +kernel
theorem dX4_readThing_5 : decode cX4_readThing 5 = .ok (.aload_n 0, 1) := by decide +kernel
theorem dX4_readThing_6 : decode cX4_readThing 6 = .ok (.iconst 0, 1) := by decide +kernel
theorem dX4_readThing_7 : decode cX4_readThing 7 = .ok (.putfield 49, 3) := by decide +kernel
theorem dX4_readThing_10 : decode cX4_readThing 10 = .ok (.iload_n 1, 1) := by decide +kernel
theorem dX4_readThing_11 : decode cX4_readThing 11 = .ok (.lookupswitch 207 #[(46, 182), (98, 49), (99, 153), (100, 112), (111, 90)], 49) := by decide +kernel
theorem dX4_readThing_60 : decode cX4_readThing 60 = .ok (.aload_n 0, 1) := by decide +kernel
theorem dX4_readThing_61 : decode cX4_readThing 61 = .ok (.bipush 98, 2) := by decide +kernel
theorem dX4_readThing_63 : decode cX4_readThing 63 = .ok (.invokevirtual 55, 3) := by decide +kernel
theorem dX4_readThing_66 : decode cX4_readThing 66 = .ok (.ifCond .eq 33, 3) := by decide +kernel
theorem dX4_readThing_69 : decode cX4_readThing 69 = .ok (.aload_n 0, 1) := by decide +kernel
theorem dX4_readThing_70 : decode cX4_readThing 70 = .ok (.invokevirtual 59, 3) := by decide +kernel
theorem dX4_readThing_73 : decode cX4_readThing 73 = .ok (.ifCond .eq 26, 3) := by decide +kernel
theorem dX4_readThing_76 : decode cX4_readThing 76 = .ok (.aload_n 0, 1) := by decide +kernel
theorem dX4_readThing_77 : decode cX4_readThing 77 = .ok (.bipush 61, 2) := by decide +kernel
theorem dX4_readThing_79 : decode cX4_readThing 79 = .ok (.invokevirtual 55, 3) := by decide +kernel
theorem dX4_readThing_82 : decode cX4_readThing 82 = .ok (.ifCond .eq 17, 3) := by decide +kernel
theorem dX4_readThing_85 : decode cX4_readThing 85 = .ok (.aload_n 0, 1) := by decide +kernel
theorem dX4_readThing_86 : decode cX4_readThing 86 = .ok (.iconst 0, 1) := by decide +kernel
theorem dX4_readThing_87 : decode cX4_readThing 87 = .ok (.bipush 30, 2) := by decide +kernel
theorem dX4_readThing_89 : decode cX4_readThing 89 = .ok (.invokevirtual 63, 3) := by decide +kernel
theorem dX4_readThing_92 : decode cX4_readThing 92 = .ok (.ifCond .eq 7, 3) := by decide +kernel
theorem dX4_readThing_95 : decode cX4_readThing 95 = .ok (.iconst 1, 1) := by decide +kernel
theorem dX4_readThing_96 : decode cX4_readThing 96 = .ok (.goto 4, 3) := by decide +kernel
theorem dX4_readThing_99 : decode cX4_readThing 99 = .ok (.iconst 0, 1) := by decide +kernel
theorem dX4_readThing_100 : decode cX4_readThing 100 = .ok (.ireturn, 1) := by decide +kernel
theorem dX4_readThing_101 : decode cX4_readThing 101 = .ok (.aload_n 0, 1) := by decide +kernel
theorem dX4_readThing_102 : decode cX4_readThing 102 = .ok (.bipush 111, 2) := by decide +kernel
theorem dX4_readThing_104 : decode cX4_readThing 104 = .ok (.invokevirtual 55, 3) := by decide +kernel
theorem dX4_readThing_107 : decode cX4_readThing 107 = .ok (.ifCond .eq 14, 3) := by decide +kernel
theorem dX4_readThing_110 : decode cX4_readThing 110 = .ok (.aload_n 0, 1) := by decide +kernel
theorem dX4_readThing_111 : decode cX4_readThing 111 = .ok (.invokevirtual 59, 3) := by decide +kernel
theorem dX4_readThing_114 : decode cX4_readThing 114 = .ok (.ifCond .eq 7, 3) := by decide +kernel
theorem dX4_readThing_117 : decode cX4_readThing 117 = .ok (.iconst 1, 1) := by decide +kernel
theorem dX4_readThing_118 : decode cX4_readThing 118 = .ok (.goto 4, 3) := by decide +kernel
theorem dX4_readThing_121 : decode cX4_readThing 121 = .ok (.iconst 0, 1) := by decide +kernel
theorem dX4_readThing_122 : decode cX4_readThing 122 = .ok (.ireturn, 1) := by decide +kernel
theorem dX4_readThing_123 : decode cX4_readThing 123 = .ok (.aload_n 0, 1) := by decide +kernel
theorem dX4_readThing_124 : decode cX4_readThing 124 = .ok (.bipush 100, 2) := by decide +kernel
theorem dX4_readThing_126 : decode cX4_readThing 126 = .ok (.invokevirtual 55, 3) := by decide +kernel
theorem dX4_readThing_129 : decode cX4_readThing 129 = .ok (.ifCond .eq 33, 3) := by decide +kernel
theorem dX4_readThing_132 : decode cX4_readThing 132 = .ok (.aload_n 0, 1) := by decide +kernel
theorem dX4_readThing_133 : decode cX4_readThing 133 = .ok (.invokevirtual 59, 3) := by decide +kernel
theorem dX4_readThing_136 : decode cX4_readThing 136 = .ok (.ifCond .eq 26, 3) := by decide +kernel
theorem dX4_readThing_139 : decode cX4_readThing 139 = .ok (.aload_n 0, 1) := by decide +kernel
theorem dX4_readThing_140 : decode cX4_readThing 140 = .ok (.bipush 61, 2) := by decide +kernel
theorem dX4_readThing_142 : decode cX4_readThing 142 = .ok (.invokevirtual 55, 3) := by decide +kernel
theorem dX4_readThing_145 : decode cX4_readThing 145 = .ok (.ifCond .eq 17, 3) := by decide +kernel
theorem dX4_readThing_148 : decode cX4_readThing 148 = .ok (.aload_n 0, 1) := by decide +kernel
theorem dX4_readThing_149 : decode cX4_readThing 149 = .ok (.iconst 0, 1) := by decide +kernel
theorem dX4_readThing_150 : decode cX4_readThing 150 = .ok (.bipush 40, 2) := by decide +kernel
theorem dX4_readThing_152 : decode cX4_readThing 152 = .ok (.invokevirtual 63, 3) := by decide +kernel
theorem dX4_readThing_155 : decode cX4_readThing 155 = .ok (.ifCond .eq 7, 3) := by decide +kernel
theorem dX4_readThing_158 : decode cX4_readThing 158 = .ok (.iconst 1, 1) := by decide +kernel
theorem dX4_readThing_159 : decode cX4_readThing 159 = .ok (.goto 4, 3) := by decide +kernel
theorem dX4_readThing_162 : decode cX4_readThing 162 = .ok (.iconst 0, 1) := by decide +kernel
theorem dX4_readThing_163 : decode cX4_readThing 163 = .ok (.ireturn, 1) := by decide +kernel
theorem dX4_readThing_164 : decode cX4_readThing 164 = .ok (.aload_n 0, 1) := by decide +kernel
theorem dX4_readThing_165 : decode cX4_readThing 165 = .ok (.bipush 99, 2) := by decide +kernel
theorem dX4_readThing_167 : decode cX4_readThing 167 = .ok (.invokevirtual 55, 3) := by decide +kernel
theorem dX4_readThing_170 : decode cX4_readThing 170 = .ok (.ifCond .eq 21, 3) := by decide +kernel
theorem dX4_readThing_173 : decode cX4_readThing 173 = .ok (.aload_n 0, 1) := by decide +kernel
theorem dX4_readThing_174 : decode cX4_readThing 174 = .ok (.invokevirtual 59, 3) := by decide +kernel
theorem dX4_readThing_177 : decode cX4_readThing 177 = .ok (.ifCond .eq 14, 3) := by decide +kernel
theorem dX4_readThing_180 : decode cX4_readThing 180 = .ok (.aload_n 0, 1) := by decide +kernel
theorem dX4_readThing_181 : decode cX4_readThing 181 = .ok (.invokevirtual 67, 3) := by decide +kernel
theorem dX4_readThing_184 : decode cX4_readThing 184 = .ok (.ifCond .eq 7, 3) := by decide +kernel
theorem dX4_readThing_187 : decode cX4_readThing 187 = .ok (.iconst 1, 1) := by decide +kernel
theorem dX4_readThing_188 : decode cX4_readThing 188 = .ok (.goto 4, 3) := by decide +kernel
theorem dX4_readThing_191 : decode cX4_readThing 191 = .ok (.iconst 0, 1) := by decide +kernel
theorem dX4_readThing_192 : decode cX4_readThing 192 = .ok (.ireturn, 1) := by decide +kernel
theorem dX4_readThing_193 : decode cX4_readThing 193 = .ok (.aload_n 0, 1) := by decide +kernel
theorem dX4_readThing_194 : decode cX4_readThing 194 = .ok (.bipush 46, 2) := by decide +kernel
theorem dX4_readThing_196 : decode cX4_readThing 196 = .ok (.invokevirtual 55, 3) := by decide +kernel
theorem dX4_readThing_199 : decode cX4_readThing 199 = .ok (.ifCond .eq 17, 3) := by decide +kernel
theorem dX4_readThing_202 : decode cX4_readThing 202 = .ok (.aload_n 0, 1) := by decide +kernel
theorem dX4_readThing_203 : decode cX4_readThing 203 = .ok (.iconst 1, 1) := by decide +kernel
theorem dX4_readThing_204 : decode cX4_readThing 204 = .ok (.bipush 99, 2) := by decide +kernel
theorem dX4_readThing_206 : decode cX4_readThing 206 = .ok (.invokevirtual 63, 3) := by decide +kernel
theorem dX4_readThing_209 : decode cX4_readThing 209 = .ok (.ifCond .eq 7, 3) := by decide +kernel
theorem dX4_readThing_212 : decode cX4_readThing 212 = .ok (.iconst 1, 1) := by decide +kernel
theorem dX4_readThing_213 : decode cX4_readThing 213 = .ok (.goto 4, 3) := by decide +kernel
theorem dX4_readThing_216 : decode cX4_readThing 216 = .ok (.iconst 0, 1) := by decide +kernel
theorem dX4_readThing_217 : decode cX4_readThing 217 = .ok (.ireturn, 1) := by decide +kernel
theorem dX4_readThing_218 : decode cX4_readThing 218 = .ok (.iconst 0, 1) := by decide +kernel
theorem dX4_readThing_219 : decode cX4_readThing 219 = .ok (.ireturn, 1) := by decide +kernel
set_option maxRecDepth 20000 in
theorem ggX4_readSign_X3_signAt : GoodIn wsX4_readSign wsX3_signAt := goodIn_r _ [7, 8, 9, 18, 19] (by decide +kernel) (by decide +kernel)
set_option maxRecDepth 20000 in
theorem gX4_readSign_X3_signAt : GoodIn wsX4_readSign (wsV RX4 39 RX3 yX3_signAt wsX3_signAt) := goodIn_app (goodIn_of _ (by decide +kernel)) ggX4_readSign_X3_signAt
theorem dX4_readSign_0 : decode cX4_readSign 0 = .ok (.aload_n 0, 1) := by decide +kernel
theorem dX4_readSign_1 : decode cX4_readSign 1 = .ok (.getfield 12, 3) := by decide +kernel
theorem dX4_readSign_4 : decode cX4_readSign 4 = .ok (.aload_n 0, 1) := by decide +kernel
theorem dX4_readSign_5 : decode cX4_readSign 5 = .ok (.getfield 36, 3) := by decide +kernel
theorem dX4_readSign_8 : decode cX4_readSign 8 = .ok (.invokevirtual 39, 3) := by decide +kernel
theorem dX4_readSign_11 : decode cX4_readSign 11 = .ok (.iload_n 1, 1) := by decide +kernel
theorem dX4_readSign_12 : decode cX4_readSign 12 = .ok (.if_icmp .eq 5, 3) := by decide +kernel
theorem dX4_readSign_15 : decode cX4_readSign 15 = .ok (.iconst 0, 1) := by decide +kernel
theorem dX4_readSign_16 : decode cX4_readSign 16 = .ok (.ireturn, 1) := by decide +kernel
theorem dX4_readSign_17 : decode cX4_readSign 17 = .ok (.aload_n 0, 1) := by decide +kernel
theorem dX4_readSign_18 : decode cX4_readSign 18 = .ok (.dup, 1) := by decide +kernel
theorem dX4_readSign_19 : decode cX4_readSign 19 = .ok (.getfield 36, 3) := by decide +kernel
theorem dX4_readSign_22 : decode cX4_readSign 22 = .ok (.iconst 1, 1) := by decide +kernel
theorem dX4_readSign_23 : decode cX4_readSign 23 = .ok (.iadd, 1) := by decide +kernel
theorem dX4_readSign_24 : decode cX4_readSign 24 = .ok (.putfield 36, 3) := by decide +kernel
theorem dX4_readSign_27 : decode cX4_readSign 27 = .ok (.iconst 1, 1) := by decide +kernel
theorem dX4_readSign_28 : decode cX4_readSign 28 = .ok (.ireturn, 1) := by decide +kernel
set_option maxRecDepth 20000 in
theorem ggX4_readPair_X4_digitAt : GoodIn wsX4_readPair wsX4_digitAt := goodIn_r _ [7, 8, 9, 10, 11, 12, 13, 14, 15, 19, 20, 21, 22, 23, 24, 25, 26, 27, 28] (by decide +kernel) (by decide +kernel)
set_option maxRecDepth 20000 in
theorem gX4_readPair_X4_digitAt : GoodIn wsX4_readPair (wsV RX4 70 RX4 yX4_digitAt wsX4_digitAt) := goodIn_app (goodIn_of _ (by decide +kernel)) ggX4_readPair_X4_digitAt
set_option maxRecDepth 20000 in
theorem ggX4_readPair_X5_isPair : GoodIn wsX4_readPair wsX5_isPair := goodIn_r _ [18] (by decide +kernel) (by decide +kernel)
set_option maxRecDepth 20000 in
theorem gX4_readPair_X5_isPair_n74 : GoodIn wsX4_readPair (wsX5_isPair) := ggX4_readPair_X5_isPair
theorem dX4_readPair_0 : decode cX4_readPair 0 = .ok (.aload_n 0, 1) := by decide +kernel
theorem dX4_readPair_1 : decode cX4_readPair 1 = .ok (.aload_n 0, 1) := by decide +kernel
theorem dX4_readPair_2 : decode cX4_readPair 2 = .ok (.aload_n 0, 1) := by decide +kernel
theorem dX4_readPair_3 : decode cX4_readPair 3 = .ok (.getfield 36, 3) := by decide +kernel
theorem dX4_readPair_6 : decode cX4_readPair 6 = .ok (.invokevirtual 70, 3) := by decide +kernel
theorem dX4_readPair_9 : decode cX4_readPair 9 = .ok (.putfield 46, 3) := by decide +kernel
theorem dX4_readPair_12 : decode cX4_readPair 12 = .ok (.aload_n 0, 1) := by decide +kernel
theorem dX4_readPair_13 : decode cX4_readPair 13 = .ok (.getfield 46, 3) := by decide +kernel
theorem dX4_readPair_16 : decode cX4_readPair 16 = .ok (.invokestatic 74, 3) := by decide +kernel
theorem dX4_readPair_19 : decode cX4_readPair 19 = .ok (.ifCond .ne 5, 3) := by decide +kernel
theorem dX4_readPair_22 : decode cX4_readPair 22 = .ok (.iconst 0, 1) := by decide +kernel
theorem dX4_readPair_23 : decode cX4_readPair 23 = .ok (.ireturn, 1) := by decide +kernel
theorem dX4_readPair_24 : decode cX4_readPair 24 = .ok (.aload_n 0, 1) := by decide +kernel
theorem dX4_readPair_25 : decode cX4_readPair 25 = .ok (.dup, 1) := by decide +kernel
theorem dX4_readPair_26 : decode cX4_readPair 26 = .ok (.getfield 36, 3) := by decide +kernel
theorem dX4_readPair_29 : decode cX4_readPair 29 = .ok (.iconst 1, 1) := by decide +kernel
theorem dX4_readPair_30 : decode cX4_readPair 30 = .ok (.iadd, 1) := by decide +kernel
theorem dX4_readPair_31 : decode cX4_readPair 31 = .ok (.putfield 36, 3) := by decide +kernel
theorem dX4_readPair_34 : decode cX4_readPair 34 = .ok (.iconst 1, 1) := by decide +kernel
theorem dX4_readPair_35 : decode cX4_readPair 35 = .ok (.ireturn, 1) := by decide +kernel
set_option maxRecDepth 20000 in
theorem ggX4_readOther_X4_digitAt : GoodIn wsX4_readOther wsX4_digitAt := goodIn_r _ [7, 8, 9, 10, 11, 12, 13, 14, 15, 19, 20, 21, 22, 23, 24, 25, 26, 27, 28] (by decide +kernel) (by decide +kernel)
set_option maxRecDepth 20000 in
theorem gX4_readOther_X4_digitAt : GoodIn wsX4_readOther (wsV RX4 70 RX4 yX4_digitAt wsX4_digitAt) := goodIn_app (goodIn_of _ (by decide +kernel)) ggX4_readOther_X4_digitAt
set_option maxRecDepth 20000 in
theorem ggX4_readOther_X5_isPair : GoodIn wsX4_readOther wsX5_isPair := goodIn_r _ [18] (by decide +kernel) (by decide +kernel)
set_option maxRecDepth 20000 in
theorem gX4_readOther_X5_isPair_n74 : GoodIn wsX4_readOther (wsX5_isPair) := ggX4_readOther_X5_isPair
theorem dX4_readOther_0 : decode cX4_readOther 0 = .ok (.aload_n 0, 1) := by decide +kernel
theorem dX4_readOther_1 : decode cX4_readOther 1 = .ok (.aload_n 0, 1) := by decide +kernel
theorem dX4_readOther_2 : decode cX4_readOther 2 = .ok (.aload_n 0, 1) := by decide +kernel
theorem dX4_readOther_3 : decode cX4_readOther 3 = .ok (.getfield 36, 3) := by decide +kernel
theorem dX4_readOther_6 : decode cX4_readOther 6 = .ok (.invokevirtual 70, 3) := by decide +kernel
theorem dX4_readOther_9 : decode cX4_readOther 9 = .ok (.putfield 49, 3) := by decide +kernel
theorem dX4_readOther_12 : decode cX4_readOther 12 = .ok (.aload_n 0, 1) := by decide +kernel
theorem dX4_readOther_13 : decode cX4_readOther 13 = .ok (.getfield 49, 3) := by decide +kernel
theorem dX4_readOther_16 : decode cX4_readOther 16 = .ok (.invokestatic 74, 3) := by decide +kernel
theorem dX4_readOther_19 : decode cX4_readOther 19 = .ok (.ifCond .ne 5, 3) := by decide +kernel
theorem dX4_readOther_22 : decode cX4_readOther 22 = .ok (.iconst 0, 1) := by decide +kernel
theorem dX4_readOther_23 : decode cX4_readOther 23 = .ok (.ireturn, 1) := by decide +kernel
theorem dX4_readOther_24 : decode cX4_readOther 24 = .ok (.aload_n 0, 1) := by decide +kernel
theorem dX4_readOther_25 : decode cX4_readOther 25 = .ok (.dup, 1) := by decide +kernel
theorem dX4_readOther_26 : decode cX4_readOther 26 = .ok (.getfield 36, 3) := by decide +kernel
theorem dX4_readOther_29 : decode cX4_readOther 29 = .ok (.iconst 1, 1) := by decide +kernel
theorem dX4_readOther_30 : decode cX4_readOther 30 = .ok (.iadd, 1) := by decide +kernel
theorem dX4_readOther_31 : decode cX4_readOther 31 = .ok (.putfield 36, 3) := by decide +kernel
theorem dX4_readOther_34 : decode cX4_readOther 34 = .ok (.iconst 1, 1) := by decide +kernel
theorem dX4_readOther_35 : decode cX4_readOther 35 = .ok (.ireturn, 1) := by decide +kernel
set_option maxRecDepth 20000 in
theorem ggX4_readNumber_X4_digitAt : GoodIn wsX4_readNumber wsX4_digitAt := goodIn_r _ [7, 8, 9, 10, 11, 12, 13, 14, 15, 16, 17, 18, 19, 20, 21, 22, 23, 24, 25] (by decide +kernel) (by decide +kernel)
set_option maxRecDepth 20000 in
theorem gX4_readNumber_X4_digitAt : GoodIn wsX4_readNumber (wsV RX4 70 RX4 yX4_digitAt wsX4_digitAt) := goodIn_app (goodIn_of _ (by decide +kernel)) ggX4_readNumber_X4_digitAt
theorem dX4_readNumber_0 : decode cX4_readNumber 0 = .ok (.aload_n 0, 1) := by decide +kernel
theorem dX4_readNumber_1 : decode cX4_readNumber 1 = .ok (.aload_n 0, 1) := by decide +kernel
theorem dX4_readNumber_2 : decode cX4_readNumber 2 = .ok (.aload_n 0, 1) := by decide +kernel
theorem dX4_readNumber_3 : decode cX4_readNumber 3 = .ok (.getfield 36, 3) := by decide +kernel
theorem dX4_readNumber_6 : decode cX4_readNumber 6 = .ok (.invokevirtual 70, 3) := by decide +kernel
theorem dX4_readNumber_9 : decode cX4_readNumber 9 = .ok (.putfield 49, 3) := by decide +kernel
theorem dX4_readNumber_12 : decode cX4_readNumber 12 = .ok (.aload_n 0, 1) := by decide +kernel
theorem dX4_readNumber_13 : decode cX4_readNumber 13 = .ok (.getfield 49, 3) := by decide +kernel
theorem dX4_readNumber_16 : decode cX4_readNumber 16 = .ok (.iload_n 1, 1) := by decide +kernel
theorem dX4_readNumber_17 : decode cX4_readNumber 17 = .ok (.if_icmp .ge 5, 3) := by decide +kernel
theorem dX4_readNumber_20 : decode cX4_readNumber 20 = .ok (.iconst 0, 1) := by decide +kernel
theorem dX4_readNumber_21 : decode cX4_readNumber 21 = .ok (.ireturn, 1) := by decide +kernel
theorem dX4_readNumber_22 : decode cX4_readNumber 22 = .ok (.aload_n 0, 1) := by decide +kernel
theorem dX4_readNumber_23 : decode cX4_readNumber 23 = .ok (.dup, 1) := by decide +kernel
theorem dX4_readNumber_24 : decode cX4_readNumber 24 = .ok (.getfield 36, 3) := by decide +kernel
theorem dX4_readNumber_27 : decode cX4_readNumber 27 = .ok (.iconst 1, 1) := by decide +kernel
theorem dX4_readNumber_28 : decode cX4_readNumber 28 = .ok (.iadd, 1) := by decide +kernel
theorem dX4_readNumber_29 : decode cX4_readNumber 29 = .ok (.putfield 36, 3) := by decide +kernel
theorem dX4_readNumber_32 : decode cX4_readNumber 32 = .ok (.aload_n 0, 1) := by decide +kernel
theorem dX4_readNumber_33 : decode cX4_readNumber 33 = .ok (.aload_n 0, 1) := by decide +kernel
theorem dX4_readNumber_34 : decode cX4_readNumber 34 = .ok (.getfield 36, 3) := by decide +kernel
theorem dX4_readNumber_37 : decode cX4_readNumber 37 = .ok (.invokevirtual 70, 3) := by decide +kernel
theorem dX4_readNumber_40 : decode cX4_readNumber 40 = .ok (.istore_n 3, 1) := by decide +kernel
theorem dX4_readNumber_41 : decode cX4_readNumber 41 = .ok (.aload_n 0, 1) := by decide +kernel
theorem dX4_readNumber_42 : decode cX4_readNumber 42 = .ok (.getfield 49, 3) := by decide +kernel
theorem dX4_readNumber_45 : decode cX4_readNumber 45 = .ok (.ifCond .le 44, 3) := by decide +kernel
theorem dX4_readNumber_48 : decode cX4_readNumber 48 = .ok (.iload_n 3, 1) := by decide +kernel
theorem dX4_readNumber_49 : decode cX4_readNumber 49 = .ok (.iconst (-1), 1) := by decide +kernel
theorem dX4_readNumber_50 : decode cX4_readNumber 50 = .ok (.if_icmp .eq 39, 3) := by decide +kernel
theorem dX4_readNumber_53 : decode cX4_readNumber 53 = .ok (.aload_n 0, 1) := by decide +kernel
theorem dX4_readNumber_54 : decode cX4_readNumber 54 = .ok (.getfield 49, 3) := by decide +kernel
theorem dX4_readNumber_57 : decode cX4_readNumber 57 = .ok (.bipush 10, 2) := by decide +kernel
theorem dX4_readNumber_59 : decode cX4_readNumber 59 = .ok (.imul, 1) := by decide +kernel
theorem dX4_readNumber_60 : decode cX4_readNumber 60 = .ok (.iload_n 3, 1) := by decide +kernel
theorem dX4_readNumber_61 : decode cX4_readNumber 61 = .ok (.iadd, 1) := by decide +kernel
theorem dX4_readNumber_62 : decode cX4_readNumber 62 = .ok (.iload_n 2, 1) := by decide +kernel
theorem dX4_readNumber_63 : decode cX4_readNumber 63 = .ok (.if_icmp .gt 26, 3) := by decide +kernel
theorem dX4_readNumber_66 : decode cX4_readNumber 66 = .ok (.aload_n 0, 1) := by decide +kernel
theorem dX4_readNumber_67 : decode cX4_readNumber 67 = .ok (.aload_n 0, 1) := by decide +kernel
theorem dX4_readNumber_68 : decode cX4_readNumber 68 = .ok (.getfield 49, 3) := by decide +kernel
theorem dX4_readNumber_71 : decode cX4_readNumber 71 = .ok (.bipush 10, 2) := by decide +kernel
theorem dX4_readNumber_73 : decode cX4_readNumber 73 = .ok (.imul, 1) := by decide +kernel
theorem dX4_readNumber_74 : decode cX4_readNumber 74 = .ok (.iload_n 3, 1) := by decide +kernel
theorem dX4_readNumber_75 : decode cX4_readNumber 75 = .ok (.iadd, 1) := by decide +kernel
theorem dX4_readNumber_76 : decode cX4_readNumber 76 = .ok (.putfield 49, 3) := by decide +kernel
theorem dX4_readNumber_79 : decode cX4_readNumber 79 = .ok (.aload_n 0, 1) := by decide +kernel
theorem dX4_readNumber_80 : decode cX4_readNumber 80 = .ok (.dup, 1) := by decide +kernel
theorem dX4_readNumber_81 : decode cX4_readNumber 81 = .ok (.getfield 36, 3) := by decide +kernel
theorem dX4_readNumber_84 : decode cX4_readNumber 84 = .ok (.iconst 1, 1) := by decide +kernel
theorem dX4_readNumber_85 : decode cX4_readNumber 85 = .ok (.iadd, 1) := by decide +kernel
theorem dX4_readNumber_86 : decode cX4_readNumber 86 = .ok (.putfield 36, 3) := by decide +kernel
theorem dX4_readNumber_89 : decode cX4_readNumber 89 = .ok (.iconst 1, 1) := by decide +kernel
theorem dX4_readNumber_90 : decode cX4_readNumber 90 = .ok (.ireturn, 1) := by decide +kernel
set_option maxRecDepth 20000 in
theorem ggX4_digitAt_X3_signAt : GoodIn wsX4_digitAt wsX3_signAt := goodIn_r _ [6, 7, 8, 17, 18] (by decide +kernel) (by decide +kernel)
set_option maxRecDepth 20000 in
theorem gX4_digitAt_X3_signAt : GoodIn wsX4_digitAt (wsV RX4 39 RX3 yX3_signAt wsX3_signAt) := goodIn_app (goodIn_of _ (by decide +kernel)) ggX4_digitAt_X3_signAt
theorem dX4_digitAt_0 : decode cX4_digitAt 0 = .ok (.aload_n 0, 1) := by decide +kernel
theorem dX4_digitAt_1 : decode cX4_digitAt 1 = .ok (.getfield 12, 3) := by decide +kernel
theorem dX4_digitAt_4 : decode cX4_digitAt 4 = .ok (.iload_n 1, 1) := by decide +kernel
theorem dX4_digitAt_5 : decode cX4_digitAt 5 = .ok (.invokevirtual 39, 3) := by decide +kernel
theorem dX4_digitAt_8 : decode cX4_digitAt 8 = .ok (.istore_n 2, 1) := by decide +kernel
theorem dX4_digitAt_9 : decode cX4_digitAt 9 = .ok (.iload_n 2, 1) := by decide +kernel
theorem dX4_digitAt_10 : decode cX4_digitAt 10 = .ok (.bipush 48, 2) := by decide +kernel
theorem dX4_digitAt_12 : decode cX4_digitAt 12 = .ok (.if_icmp .lt 16, 3) := by decide +kernel
theorem dX4_digitAt_15 : decode cX4_digitAt 15 = .ok (.iload_n 2, 1) := by decide +kernel
theorem dX4_digitAt_16 : decode cX4_digitAt 16 = .ok (.bipush 57, 2) := by decide +kernel
theorem dX4_digitAt_18 : decode cX4_digitAt 18 = .ok (.if_icmp .gt 10, 3) := by decide +kernel
theorem dX4_digitAt_21 : decode cX4_digitAt 21 = .ok (.iload_n 2, 1) := by decide +kernel
theorem dX4_digitAt_22 : decode cX4_digitAt 22 = .ok (.bipush 48, 2) := by decide +kernel
theorem dX4_digitAt_24 : decode cX4_digitAt 24 = .ok (.isub, 1) := by decide +kernel
theorem dX4_digitAt_25 : decode cX4_digitAt 25 = .ok (.goto 4, 3) := by decide +kernel
theorem dX4_digitAt_28 : decode cX4_digitAt 28 = .ok (.iconst (-1), 1) := by decide +kernel
theorem dX4_digitAt_29 : decode cX4_digitAt 29 = .ok (.ireturn, 1) := by decide +kernel
end
section
set_option maxRecDepth 20000 in
theorem ggX5_init_X2_init : GoodIn wsX5_init wsX2_init := goodIn_r _ [24, 25, 2, 3, 26, 27, 15, 16, 28, 29, 30, 31, 32, 33, 56, 57, 58, 59, 72, 73, 74, 75, 76, 77, 78, 79] (by decide +kernel) (by decide +kernel)
set_option maxRecDepth 20000 in
theorem gX5_init_X2_init : GoodIn wsX5_init (wsX2_init) := ggX5_init_X2_init
set_option maxRecDepth 20000 in
theorem ggX5_init_X0_init : GoodIn wsX5_init wsX0_init := goodIn_r _ [36, 37, 2, 3, 38, 39, 5, 6, 40, 23, 24, 25, 26, 27, 15, 16, 28, 29, 30, 31, 32, 33, 70, 71, 56, 57, 58, 59, 72, 73, 74, 75, 76, 77, 78, 79] (by decide +kernel) (by decide +kernel)
set_option maxRecDepth 20000 in
theorem gX5_init_X0_init : GoodIn wsX5_init (wsX0_init) := ggX5_init_X0_init
set_option maxRecDepth 20000 in
theorem ggX5_init_X1_init : GoodIn wsX5_init wsX1_init := goodIn_r _ [29, 30, 2, 3, 31, 32, 33, 72, 73, 74, 75, 76, 77, 78, 79] (by decide +kernel) (by decide +kernel)
set_option maxRecDepth 20000 in
theorem gX5_init_X1_init_n31 : GoodIn wsX5_init (wsX1_init) := ggX5_init_X1_init
set_option maxRecDepth 20000 in
theorem ggX5_init_X4_init : GoodIn wsX5_init wsX4_init := goodIn_r _ [42, 43, 2, 3, 44, 45, 46, 47, 31, 48, 49, 50, 51, 52, 53, 54, 55, 88, 89, 80, 81, 82, 83, 84, 85, 86, 87] (by decide +kernel) (by decide +kernel)
set_option maxRecDepth 20000 in
theorem gX5_init_X4_init_n38 : GoodIn wsX5_init (wsX4_init) := ggX5_init_X4_init
theorem dX5_init_0 : decode cX5_init 0 = .ok (.aload_n 0, 1) := by decide +kernel
theorem dX5_init_1 : decode cX5_init 1 = .ok (.invokespecial 1, 3) := by decide +kernel
theorem dX5_init_4 : decode cX5_init 4 = .ok (.aload_n 0, 1) := by decide +kernel
theorem dX5_init_5 : decode cX5_init 5 = .ok (.new 7, 3) := by decide +kernel
theorem dX5_init_8 : decode cX5_init 8 = .ok (.dup, 1) := by decide +kernel
theorem dX5_init_9 : decode cX5_init 9 = .ok (.invokespecial 9, 3) := by decide +kernel
theorem dX5_init_12 : decode cX5_init 12 = .ok (.putfield 10, 3) := by decide +kernel
theorem dX5_init_15 : decode cX5_init 15 = .ok (.aload_n 0, 1) := by decide +kernel
theorem dX5_init_16 : decode cX5_init 16 = .ok (.new 7, 3) := by decide +kernel
theorem dX5_init_19 : decode cX5_init 19 = .ok (.dup, 1) := by decide +kernel
theorem dX5_init_20 : decode cX5_init 20 = .ok (.invokespecial 9, 3) := by decide +kernel
theorem dX5_init_23 : decode cX5_init 23 = .ok (.putfield 16, 3) := by decide +kernel
theorem dX5_init_26 : decode cX5_init 26 = .ok (.aload_n 0, 1) := by decide +kernel
theorem dX5_init_27 : decode cX5_init 27 = .ok (.new 7, 3) := by decide +kernel
theorem dX5_init_30 : decode cX5_init 30 = .ok (.dup, 1) := by decide +kernel
theorem dX5_init_31 : decode cX5_init 31 = .ok (.invokespecial 9, 3) := by decide +kernel
theorem dX5_init_34 : decode cX5_init 34 = .ok (.putfield 19, 3) := by decide +kernel
theorem dX5_init_37 : decode cX5_init 37 = .ok (.aload_n 0, 1) := by decide +kernel
theorem dX5_init_38 : decode cX5_init 38 = .ok (.new 22, 3) := by decide +kernel
theorem dX5_init_41 : decode cX5_init 41 = .ok (.dup, 1) := by decide +kernel
theorem dX5_init_42 : decode cX5_init 42 = .ok (.invokespecial 24, 3) := by decide +kernel
theorem dX5_init_45 : decode cX5_init 45 = .ok (.putfield 25, 3) := by decide +kernel
theorem dX5_init_48 : decode cX5_init 48 = .ok (.aload_n 0, 1) := by decide +kernel
theorem dX5_init_49 : decode cX5_init 49 = .ok (.new 29, 3) := by decide +kernel
theorem dX5_init_52 : decode cX5_init 52 = .ok (.dup, 1) := by decide +kernel
theorem dX5_init_53 : decode cX5_init 53 = .ok (.invokespecial 31, 3) := by decide +kernel
theorem dX5_init_56 : decode cX5_init 56 = .ok (.putfield 32, 3) := by decide +kernel
theorem dX5_init_59 : decode cX5_init 59 = .ok (.aload_n 0, 1) := by decide +kernel
theorem dX5_init_60 : decode cX5_init 60 = .ok (.new 36, 3) := by decide +kernel
theorem dX5_init_63 : decode cX5_init 63 = .ok (.dup, 1) := by decide +kernel
theorem dX5_init_64 : decode cX5_init 64 = .ok (.invokespecial 38, 3) := by decide +kernel
theorem dX5_init_67 : decode cX5_init 67 = .ok (.putfield 39, 3) := by decide +kernel
theorem dX5_init_70 : decode cX5_init 70 = .ok (.return_, 1) := by decide +kernel
set_option maxRecDepth 20000 in
theorem ggX5_set_X2_copyFrom : GoodIn wsX5_set wsX2_copyFrom := goodIn_r _ [7, 8, 9, 10, 11, 12, 13, 14, 15, 16, 17, 18, 19, 20, 21, 22, 23, 24, 25, 26, 27, 28, 82, 83, 84, 85, 86, 87, 88, 89, 90, 91, 92, 93] (by decide +kernel) (by decide +kernel)
set_option maxRecDepth 20000 in
theorem gX5_set_X2_copyFrom : GoodIn wsX5_set (wsV RX5 43 RX2 yX2_copyFrom wsX2_copyFrom) := goodIn_app (goodIn_of _ (by decide +kernel)) ggX5_set_X2_copyFrom
set_option maxRecDepth 20000 in
theorem ggX5_set_X2_change : GoodIn wsX5_set wsX2_change := goodIn_r _ [32, 8, 33, 34, 35, 36, 37, 38, 15, 39, 40, 41, 42, 43, 44, 45, 46, 47, 48, 49, 25, 22, 24, 26, 50, 23, 51, 52, 53, 54, 17, 82, 83, 84, 85, 86, 87, 88, 89, 90, 91, 92, 93] (by decide +kernel) (by decide +kernel)
set_option maxRecDepth 20000 in
theorem gX5_set_X2_change : GoodIn wsX5_set (wsV RX5 47 RX2 yX2_change wsX2_change) := goodIn_app (goodIn_of _ (by decide +kernel)) ggX5_set_X2_change
set_option maxRecDepth 20000 in
theorem ggX5_set_X5_recorded : GoodIn wsX5_set wsX5_recorded := goodIn_r _ [58, 59, 1, 60, 61, 62, 63, 64, 65, 66, 67, 68, 69, 70, 71, 4, 5, 6, 7, 8, 9, 10, 11, 12, 13, 14, 15, 16, 17, 18, 19, 20, 21, 22, 23, 24, 25, 26, 27, 28, 72, 73, 74, 75, 76, 77, 78, 79, 80, 81, 94, 95, 82, 83, 84, 85, 86, 87, 88, 89, 90, 91, 92, 93] (by decide +kernel) (by decide +kernel)
set_option maxRecDepth 20000 in
theorem gX5_set_X5_recorded : GoodIn wsX5_set (wsV RX5 51 RX5 yX5_recorded wsX5_recorded) := goodIn_app (goodIn_of _ (by decide +kernel)) ggX5_set_X5_recorded
theorem dX5_set_0 : decode cX5_set 0 = .ok (.aload_n 0, 1) := by decide +kernel
theorem dX5_set_1 : decode cX5_set 1 = .ok (.getfield 16, 3) := by decide +kernel
theorem dX5_set_4 : decode cX5_set 4 = .ok (.aload_n 0, 1) := by decide +kernel
theorem dX5_set_5 : decode cX5_set 5 = .ok (.getfield 10, 3) := by decide +kernel
theorem dX5_set_8 : decode cX5_set 8 = .ok (.invokevirtual 43, 3) := by decide +kernel
theorem dX5_set_11 : decode cX5_set 11 = .ok (.aload_n 0, 1) := by decide +kernel
theorem dX5_set_12 : decode cX5_set 12 = .ok (.aload_n 0, 1) := by decide +kernel
theorem dX5_set_13 : decode cX5_set 13 = .ok (.getfield 10, 3) := by decide +kernel
theorem dX5_set_16 : decode cX5_set 16 = .ok (.iload_n 1, 1) := by decide +kernel
theorem dX5_set_17 : decode cX5_set 17 = .ok (.iload_n 2, 1) := by decide +kernel
theorem dX5_set_18 : decode cX5_set 18 = .ok (.iload_n 3, 1) := by decide +kernel
theorem dX5_set_19 : decode cX5_set 19 = .ok (.invokevirtual 47, 3) := by decide +kernel
theorem dX5_set_22 : decode cX5_set 22 = .ok (.invokevirtual 51, 3) := by decide +kernel
theorem dX5_set_25 : decode cX5_set 25 = .ok (.ireturn, 1) := by decide +kernel
set_option maxRecDepth 20000 in
theorem ggX5_turnOn_X2_copyFrom : GoodIn wsX5_turnOn wsX2_copyFrom := goodIn_r _ [7, 8, 9, 10, 11, 12, 13, 14, 15, 16, 17, 18, 19, 20, 21, 22, 23, 24, 25, 26, 27, 28, 75, 76, 77, 78, 79, 80, 81, 82, 83, 84, 85, 86] (by decide +kernel) (by decide +kernel)
set_option maxRecDepth 20000 in
theorem gX5_turnOn_X2_copyFrom : GoodIn wsX5_turnOn (wsV RX5 43 RX2 yX2_copyFrom wsX2_copyFrom) := goodIn_app (goodIn_of _ (by decide +kernel)) ggX5_turnOn_X2_copyFrom
set_option maxRecDepth 20000 in
theorem ggX5_turnOn_X2_connect : GoodIn wsX5_turnOn wsX2_connect := goodIn_r _ [32, 8, 33, 34, 35, 36, 37, 38, 39, 40, 41, 15, 42, 25, 22, 24, 26, 43, 23, 44, 45, 46, 47, 17, 75, 76, 77, 78, 79, 80, 81, 82, 83, 84, 85, 86] (by decide +kernel) (by decide +kernel)
set_option maxRecDepth 20000 in
theorem gX5_turnOn_X2_connect : GoodIn wsX5_turnOn (wsV RX5 55 RX2 yX2_connect wsX2_connect) := goodIn_app (goodIn_of _ (by decide +kernel)) ggX5_turnOn_X2_connect
set_option maxRecDepth 20000 in
theorem ggX5_turnOn_X5_recorded : GoodIn wsX5_turnOn wsX5_recorded := goodIn_r _ [51, 52, 1, 53, 54, 55, 56, 57, 58, 59, 60, 61, 62, 63, 64, 4, 5, 6, 7, 8, 9, 10, 11, 12, 13, 14, 15, 16, 17, 18, 19, 20, 21, 22, 23, 24, 25, 26, 27, 28, 65, 66, 67, 68, 69, 70, 71, 72, 73, 74, 87, 88, 75, 76, 77, 78, 79, 80, 81, 82, 83, 84, 85, 86] (by decide +kernel) (by decide +kernel)
set_option maxRecDepth 20000 in
theorem gX5_turnOn_X5_recorded : GoodIn wsX5_turnOn (wsV RX5 51 RX5 yX5_recorded wsX5_recorded) := goodIn_app (goodIn_of _ (by decide +kernel)) ggX5_turnOn_X5_recorded
theorem dX5_turnOn_0 : decode cX5_turnOn 0 = .ok (.aload_n 0, 1) := by decide +kernel
theorem dX5_turnOn_1 : decode cX5_turnOn 1 = .ok (.getfield 16, 3) := by decide +kernel
theorem dX5_turnOn_4 : decode cX5_turnOn 4 = .ok (.aload_n 0, 1) := by decide +kernel
theorem dX5_turnOn_5 : decode cX5_turnOn 5 = .ok (.getfield 10, 3) := by decide +kernel
theorem dX5_turnOn_8 : decode cX5_turnOn 8 = .ok (.invokevirtual 43, 3) := by decide +kernel
theorem dX5_turnOn_11 : decode cX5_turnOn 11 = .ok (.aload_n 0, 1) := by decide +kernel
theorem dX5_turnOn_12 : decode cX5_turnOn 12 = .ok (.aload_n 0, 1) := by decide +kernel
theorem dX5_turnOn_13 : decode cX5_turnOn 13 = .ok (.getfield 10, 3) := by decide +kernel
theorem dX5_turnOn_16 : decode cX5_turnOn 16 = .ok (.iload_n 1, 1) := by decide +kernel
theorem dX5_turnOn_17 : decode cX5_turnOn 17 = .ok (.iload_n 2, 1) := by decide +kernel
theorem dX5_turnOn_18 : decode cX5_turnOn 18 = .ok (.invokevirtual 55, 3) := by decide +kernel
theorem dX5_turnOn_21 : decode cX5_turnOn 21 = .ok (.invokevirtual 51, 3) := by decide +kernel
theorem dX5_turnOn_24 : decode cX5_turnOn 24 = .ok (.ireturn, 1) := by decide +kernel
set_option maxRecDepth 20000 in
theorem ggX5_turnOff_X2_copyFrom : GoodIn wsX5_turnOff wsX2_copyFrom := goodIn_r _ [7, 8, 9, 10, 11, 12, 13, 14, 15, 16, 17, 18, 19, 20, 21, 22, 23, 24, 25, 26, 27, 28, 65, 66, 67, 68, 69, 70, 71, 72, 73, 74, 75, 76] (by decide +kernel) (by decide +kernel)
set_option maxRecDepth 20000 in
theorem gX5_turnOff_X2_copyFrom : GoodIn wsX5_turnOff (wsV RX5 43 RX2 yX2_copyFrom wsX2_copyFrom) := goodIn_app (goodIn_of _ (by decide +kernel)) ggX5_turnOff_X2_copyFrom
set_option maxRecDepth 20000 in
theorem ggX5_turnOff_X2_disconnect : GoodIn wsX5_turnOff wsX2_disconnect := goodIn_r _ [32, 8, 33, 34, 35, 36, 37, 65, 66, 67, 68, 69, 70, 71, 72, 73, 74, 75, 76] (by decide +kernel) (by decide +kernel)
set_option maxRecDepth 20000 in
theorem gX5_turnOff_X2_disconnect : GoodIn wsX5_turnOff (wsV RX5 59 RX2 yX2_disconnect wsX2_disconnect) := goodIn_app (goodIn_of _ (by decide +kernel)) ggX5_turnOff_X2_disconnect
set_option maxRecDepth 20000 in
theorem ggX5_turnOff_X5_recorded : GoodIn wsX5_turnOff wsX5_recorded := goodIn_r _ [41, 42, 1, 43, 44, 45, 46, 47, 48, 49, 50, 51, 52, 53, 54, 4, 5, 6, 7, 8, 9, 10, 11, 12, 13, 14, 15, 16, 17, 18, 19, 20, 21, 22, 23, 24, 25, 26, 27, 28, 55, 56, 57, 58, 59, 60, 61, 62, 63, 64, 77, 78, 65, 66, 67, 68, 69, 70, 71, 72, 73, 74, 75, 76] (by decide +kernel) (by decide +kernel)
set_option maxRecDepth 20000 in
theorem gX5_turnOff_X5_recorded : GoodIn wsX5_turnOff (wsV RX5 51 RX5 yX5_recorded wsX5_recorded) := goodIn_app (goodIn_of _ (by decide +kernel)) ggX5_turnOff_X5_recorded
theorem dX5_turnOff_0 : decode cX5_turnOff 0 = .ok (.aload_n 0, 1) := by decide +kernel
theorem dX5_turnOff_1 : decode cX5_turnOff 1 = .ok (.getfield 16, 3) := by decide +kernel
theorem dX5_turnOff_4 : decode cX5_turnOff 4 = .ok (.aload_n 0, 1) := by decide +kernel
theorem dX5_turnOff_5 : decode cX5_turnOff 5 = .ok (.getfield 10, 3) := by decide +kernel
theorem dX5_turnOff_8 : decode cX5_turnOff 8 = .ok (.invokevirtual 43, 3) := by decide +kernel
theorem dX5_turnOff_11 : decode cX5_turnOff 11 = .ok (.aload_n 0, 1) := by decide +kernel
theorem dX5_turnOff_12 : decode cX5_turnOff 12 = .ok (.aload_n 0, 1) := by decide +kernel
theorem dX5_turnOff_13 : decode cX5_turnOff 13 = .ok (.getfield 10, 3) := by decide +kernel
theorem dX5_turnOff_16 : decode cX5_turnOff 16 = .ok (.iload_n 1, 1) := by decide +kernel
theorem dX5_turnOff_17 : decode cX5_turnOff 17 = .ok (.invokevirtual 59, 3) := by decide +kernel
theorem dX5_turnOff_20 : decode cX5_turnOff 20 = .ok (.invokevirtual 51, 3) := by decide +kernel
theorem dX5_turnOff_23 : decode cX5_turnOff 23 = .ok (.ireturn, 1) := by decide +kernel
set_option maxRecDepth 20000 in
theorem ggX5_put_X2_copyFrom : GoodIn wsX5_put wsX2_copyFrom := goodIn_r _ [7, 8, 9, 10, 11, 12, 13, 14, 15, 16, 17, 18, 19, 20, 21, 22, 23, 24, 25, 26, 27, 28, 75, 76, 77, 78, 79, 80, 81, 82, 83, 84, 85, 86] (by decide +kernel) (by decide +kernel)
set_option maxRecDepth 20000 in
theorem gX5_put_X2_copyFrom : GoodIn wsX5_put (wsV RX5 43 RX2 yX2_copyFrom wsX2_copyFrom) := goodIn_app (goodIn_of _ (by decide +kernel)) ggX5_put_X2_copyFrom
set_option maxRecDepth 20000 in
theorem ggX5_put_X2_putSlab : GoodIn wsX5_put wsX2_putSlab := goodIn_r _ [32, 8, 33, 34, 35, 36, 37, 38, 39, 40, 41, 15, 42, 25, 22, 24, 26, 43, 23, 44, 45, 46, 47, 17, 75, 76, 77, 78, 79, 80, 81, 82, 83, 84, 85, 86] (by decide +kernel) (by decide +kernel)
set_option maxRecDepth 20000 in
theorem gX5_put_X2_putSlab : GoodIn wsX5_put (wsV RX5 62 RX2 yX2_putSlab wsX2_putSlab) := goodIn_app (goodIn_of _ (by decide +kernel)) ggX5_put_X2_putSlab
set_option maxRecDepth 20000 in
theorem ggX5_put_X5_recorded : GoodIn wsX5_put wsX5_recorded := goodIn_r _ [51, 52, 1, 53, 54, 55, 56, 57, 58, 59, 60, 61, 62, 63, 64, 4, 5, 6, 7, 8, 9, 10, 11, 12, 13, 14, 15, 16, 17, 18, 19, 20, 21, 22, 23, 24, 25, 26, 27, 28, 65, 66, 67, 68, 69, 70, 71, 72, 73, 74, 87, 88, 75, 76, 77, 78, 79, 80, 81, 82, 83, 84, 85, 86] (by decide +kernel) (by decide +kernel)
set_option maxRecDepth 20000 in
theorem gX5_put_X5_recorded : GoodIn wsX5_put (wsV RX5 51 RX5 yX5_recorded wsX5_recorded) := goodIn_app (goodIn_of _ (by decide +kernel)) ggX5_put_X5_recorded
theorem dX5_put_0 : decode cX5_put 0 = .ok (.aload_n 0, 1) := by decide +kernel
theorem dX5_put_1 : decode cX5_put 1 = .ok (.getfield 16, 3) := by decide +kernel
theorem dX5_put_4 : decode cX5_put 4 = .ok (.aload_n 0, 1) := by decide +kernel
theorem dX5_put_5 : decode cX5_put 5 = .ok (.getfield 10, 3) := by decide +kernel
theorem dX5_put_8 : decode cX5_put 8 = .ok (.invokevirtual 43, 3) := by decide +kernel
theorem dX5_put_11 : decode cX5_put 11 = .ok (.aload_n 0, 1) := by decide +kernel
theorem dX5_put_12 : decode cX5_put 12 = .ok (.aload_n 0, 1) := by decide +kernel
theorem dX5_put_13 : decode cX5_put 13 = .ok (.getfield 10, 3) := by decide +kernel
theorem dX5_put_16 : decode cX5_put 16 = .ok (.iload_n 1, 1) := by decide +kernel
theorem dX5_put_17 : decode cX5_put 17 = .ok (.iload_n 2, 1) := by decide +kernel
theorem dX5_put_18 : decode cX5_put 18 = .ok (.invokevirtual 62, 3) := by decide +kernel
theorem dX5_put_21 : decode cX5_put 21 = .ok (.invokevirtual 51, 3) := by decide +kernel
theorem dX5_put_24 : decode cX5_put 24 = .ok (.ireturn, 1) := by decide +kernel
set_option maxRecDepth 20000 in
theorem ggX5_couple_X2_copyFrom : GoodIn wsX5_couple wsX2_copyFrom := goodIn_r _ [7, 8, 9, 10, 11, 12, 13, 14, 15, 16, 17, 18, 19, 20, 21, 22, 23, 24, 25, 26, 27, 28, 88, 89, 90, 91, 92, 93, 94, 95, 96, 97, 98, 99] (by decide +kernel) (by decide +kernel)
set_option maxRecDepth 20000 in
theorem gX5_couple_X2_copyFrom : GoodIn wsX5_couple (wsV RX5 43 RX2 yX2_copyFrom wsX2_copyFrom) := goodIn_app (goodIn_of _ (by decide +kernel)) ggX5_couple_X2_copyFrom
set_option maxRecDepth 20000 in
theorem ggX5_couple_X2_share : GoodIn wsX5_couple wsX2_share := goodIn_r _ [32, 8, 33, 34, 35, 36, 10, 37, 38, 39, 40, 41, 42, 15, 43, 17, 44, 45, 6, 46, 47, 48, 49, 50, 51, 52, 53, 54, 55, 25, 24, 23, 22, 56, 57, 58, 59, 60, 88, 89, 90, 91, 92, 93, 94, 95, 96, 97, 98, 99] (by decide +kernel) (by decide +kernel)
set_option maxRecDepth 20000 in
theorem gX5_couple_X2_share : GoodIn wsX5_couple (wsV RX5 65 RX2 yX2_share wsX2_share) := goodIn_app (goodIn_of _ (by decide +kernel)) ggX5_couple_X2_share
set_option maxRecDepth 20000 in
theorem ggX5_couple_X5_recorded : GoodIn wsX5_couple wsX5_recorded := goodIn_r _ [64, 65, 1, 66, 67, 68, 69, 70, 71, 72, 73, 74, 75, 76, 77, 4, 5, 6, 7, 8, 9, 10, 11, 12, 13, 14, 15, 16, 17, 18, 19, 20, 21, 22, 23, 24, 25, 26, 27, 28, 78, 79, 80, 81, 82, 83, 84, 85, 86, 87, 100, 101, 88, 89, 90, 91, 92, 93, 94, 95, 96, 97, 98, 99] (by decide +kernel) (by decide +kernel)
set_option maxRecDepth 20000 in
theorem gX5_couple_X5_recorded : GoodIn wsX5_couple (wsV RX5 51 RX5 yX5_recorded wsX5_recorded) := goodIn_app (goodIn_of _ (by decide +kernel)) ggX5_couple_X5_recorded
theorem dX5_couple_0 : decode cX5_couple 0 = .ok (.aload_n 0, 1) := by decide +kernel
theorem dX5_couple_1 : decode cX5_couple 1 = .ok (.getfield 16, 3) := by decide +kernel
theorem dX5_couple_4 : decode cX5_couple 4 = .ok (.aload_n 0, 1) := by decide +kernel
theorem dX5_couple_5 : decode cX5_couple 5 = .ok (.getfield 10, 3) := by decide +kernel
theorem dX5_couple_8 : decode cX5_couple 8 = .ok (.invokevirtual 43, 3) := by decide +kernel
theorem dX5_couple_11 : decode cX5_couple 11 = .ok (.aload_n 0, 1) := by decide +kernel
theorem dX5_couple_12 : decode cX5_couple 12 = .ok (.aload_n 0, 1) := by decide +kernel
theorem dX5_couple_13 : decode cX5_couple 13 = .ok (.getfield 10, 3) := by decide +kernel
theorem dX5_couple_16 : decode cX5_couple 16 = .ok (.iload_n 1, 1) := by decide +kernel
theorem dX5_couple_17 : decode cX5_couple 17 = .ok (.iload_n 2, 1) := by decide +kernel
theorem dX5_couple_18 : decode cX5_couple 18 = .ok (.invokevirtual 65, 3) := by decide +kernel
theorem dX5_couple_21 : decode cX5_couple 21 = .ok (.invokevirtual 51, 3) := by decide +kernel
theorem dX5_couple_24 : decode cX5_couple 24 = .ok (.ireturn, 1) := by decide +kernel
set_option maxRecDepth 20000 in
theorem ggX5_pass_X2_copyFrom : GoodIn wsX5_pass wsX2_copyFrom := goodIn_r _ [7, 8, 9, 10, 11, 12, 13, 14, 15, 16, 17, 18, 19, 20, 21, 22, 23, 24, 25, 26, 27, 28, 107, 108, 109, 110, 111, 112, 113, 114, 115, 116, 117, 118] (by decide +kernel) (by decide +kernel)
set_option maxRecDepth 20000 in
theorem gX5_pass_X2_copyFrom : GoodIn wsX5_pass (wsV RX5 43 RX2 yX2_copyFrom wsX2_copyFrom) := goodIn_app (goodIn_of _ (by decide +kernel)) ggX5_pass_X2_copyFrom
set_option maxRecDepth 20000 in
theorem ggX5_pass_X2_letPass : GoodIn wsX5_pass wsX2_letPass := goodIn_r _ [32, 9, 33, 8, 11, 34, 35, 36, 15, 37, 22, 38, 39, 40, 41, 25, 23, 17, 27, 42, 43, 44, 45, 24, 46, 47, 48, 49, 50, 51, 52, 53, 54, 55, 56, 57, 58, 59, 60, 61, 62, 63, 64, 65, 66, 67, 68, 69, 70, 71, 72, 73, 74, 75, 76, 77, 26, 78, 107, 108, 109, 110, 111, 112, 113, 114, 115, 116, 117, 118] (by decide +kernel) (by decide +kernel)
set_option maxRecDepth 20000 in
theorem gX5_pass_X2_letPass : GoodIn wsX5_pass (wsV RX5 68 RX2 yX2_letPass wsX2_letPass) := goodIn_app (goodIn_of _ (by decide +kernel)) ggX5_pass_X2_letPass
set_option maxRecDepth 20000 in
theorem ggX5_pass_X5_recorded : GoodIn wsX5_pass wsX5_recorded := goodIn_r _ [83, 84, 1, 85, 86, 87, 88, 89, 90, 91, 92, 93, 94, 95, 96, 4, 5, 6, 7, 8, 9, 10, 11, 12, 13, 14, 15, 16, 17, 18, 19, 20, 21, 22, 23, 24, 25, 26, 27, 28, 97, 98, 99, 100, 101, 102, 103, 104, 105, 106, 119, 120, 107, 108, 109, 110, 111, 112, 113, 114, 115, 116, 117, 118] (by decide +kernel) (by decide +kernel)
set_option maxRecDepth 20000 in
theorem gX5_pass_X5_recorded : GoodIn wsX5_pass (wsV RX5 51 RX5 yX5_recorded wsX5_recorded) := goodIn_app (goodIn_of _ (by decide +kernel)) ggX5_pass_X5_recorded
theorem dX5_pass_0 : decode cX5_pass 0 = .ok (.aload_n 0, 1) := by decide +kernel
theorem dX5_pass_1 : decode cX5_pass 1 = .ok (.getfield 16, 3) := by decide +kernel
theorem dX5_pass_4 : decode cX5_pass 4 = .ok (.aload_n 0, 1) := by decide +kernel
theorem dX5_pass_5 : decode cX5_pass 5 = .ok (.getfield 10, 3) := by decide +kernel
theorem dX5_pass_8 : decode cX5_pass 8 = .ok (.invokevirtual 43, 3) := by decide +kernel
theorem dX5_pass_11 : decode cX5_pass 11 = .ok (.aload_n 0, 1) := by decide +kernel
theorem dX5_pass_12 : decode cX5_pass 12 = .ok (.aload_n 0, 1) := by decide +kernel
theorem dX5_pass_13 : decode cX5_pass 13 = .ok (.getfield 10, 3) := by decide +kernel
theorem dX5_pass_16 : decode cX5_pass 16 = .ok (.iload_n 1, 1) := by decide +kernel
theorem dX5_pass_17 : decode cX5_pass 17 = .ok (.invokevirtual 68, 3) := by decide +kernel
theorem dX5_pass_20 : decode cX5_pass 20 = .ok (.invokevirtual 51, 3) := by decide +kernel
theorem dX5_pass_23 : decode cX5_pass 23 = .ok (.ireturn, 1) := by decide +kernel
set_option maxRecDepth 20000 in
theorem ggX5_recorded_X0_push : GoodIn wsX5_recorded wsX0_push := goodIn_r _ [7, 8, 9, 10, 11, 12, 6, 13, 14, 15, 16, 17, 18, 19, 20, 21, 22, 23, 24, 25, 26, 27, 28, 29, 30, 31, 32, 33, 34, 35, 36, 37, 38, 39, 50, 51, 52, 53, 54, 55, 56, 57, 58, 59, 60, 61, 62, 63] (by decide +kernel) (by decide +kernel)
set_option maxRecDepth 20000 in
theorem gX5_recorded_X0_push : GoodIn wsX5_recorded (wsV RX5 71 RX0 yX0_push wsX0_push) := goodIn_app (goodIn_of _ (by decide +kernel)) ggX5_recorded_X0_push
theorem dX5_recorded_0 : decode cX5_recorded 0 = .ok (.iload_n 1, 1) := by decide +kernel
theorem dX5_recorded_1 : decode cX5_recorded 1 = .ok (.ifCond .lt 14, 3) := by decide +kernel
theorem dX5_recorded_4 : decode cX5_recorded 4 = .ok (.aload_n 0, 1) := by decide +kernel
theorem dX5_recorded_5 : decode cX5_recorded 5 = .ok (.getfield 25, 3) := by decide +kernel
theorem dX5_recorded_8 : decode cX5_recorded 8 = .ok (.aload_n 0, 1) := by decide +kernel
theorem dX5_recorded_9 : decode cX5_recorded 9 = .ok (.getfield 16, 3) := by decide +kernel
theorem dX5_recorded_12 : decode cX5_recorded 12 = .ok (.invokevirtual 71, 3) := by decide +kernel
theorem dX5_recorded_15 : decode cX5_recorded 15 = .ok (.iload_n 1, 1) := by decide +kernel
theorem dX5_recorded_16 : decode cX5_recorded 16 = .ok (.ireturn, 1) := by decide +kernel
set_option maxRecDepth 20000 in
theorem ggX5_type_X3_append : GoodIn wsX5_type wsX3_append := goodIn_r _ [7, 8, 9, 28, 29] (by decide +kernel) (by decide +kernel)
set_option maxRecDepth 20000 in
theorem gX5_type_X3_append : GoodIn wsX5_type (wsV RX5 78 RX3 yX3_append wsX3_append) := goodIn_app (goodIn_of _ (by decide +kernel)) ggX5_type_X3_append
theorem dX5_type_0 : decode cX5_type 0 = .ok (.aload_n 0, 1) := by decide +kernel
theorem dX5_type_1 : decode cX5_type 1 = .ok (.getfield 39, 3) := by decide +kernel
theorem dX5_type_4 : decode cX5_type 4 = .ok (.getfield 74, 3) := by decide +kernel
theorem dX5_type_7 : decode cX5_type 7 = .ok (.iload_n 1, 1) := by decide +kernel
theorem dX5_type_8 : decode cX5_type 8 = .ok (.invokevirtual 78, 3) := by decide +kernel
theorem dX5_type_11 : decode cX5_type 11 = .ok (.ireturn, 1) := by decide +kernel
set_option maxRecDepth 20000 in
theorem ggX5_clearText_X3_empty : GoodIn wsX5_clearText wsX3_empty := goodIn_r _ [7, 8, 27, 28] (by decide +kernel) (by decide +kernel)
set_option maxRecDepth 20000 in
theorem gX5_clearText_X3_empty : GoodIn wsX5_clearText (wsV RX5 84 RX3 yX3_empty wsX3_empty) := goodIn_app (goodIn_of _ (by decide +kernel)) ggX5_clearText_X3_empty
theorem dX5_clearText_0 : decode cX5_clearText 0 = .ok (.aload_n 0, 1) := by decide +kernel
theorem dX5_clearText_1 : decode cX5_clearText 1 = .ok (.getfield 39, 3) := by decide +kernel
theorem dX5_clearText_4 : decode cX5_clearText 4 = .ok (.getfield 74, 3) := by decide +kernel
theorem dX5_clearText_7 : decode cX5_clearText 7 = .ok (.invokevirtual 84, 3) := by decide +kernel
theorem dX5_clearText_10 : decode cX5_clearText 10 = .ok (.ireturn, 1) := by decide +kernel
set_option maxRecDepth 20000 in
theorem ggX5_perform_X4_read : GoodIn wsX5_perform wsX4_read := goodIn_r _ [9, 10, 11, 12, 13, 14, 15, 16, 17, 18, 19, 20, 21, 22, 23, 24, 25, 26, 27, 28, 8, 29, 30, 31, 32, 33, 34, 35, 36, 37, 38, 39, 40, 41, 42, 43, 44, 45, 46, 47, 48, 49, 50, 51, 52, 221, 222, 223, 224, 225, 226, 227, 228, 229, 230] (by decide +kernel) (by decide +kernel)
set_option maxRecDepth 20000 in
theorem gX5_perform_X4_read : GoodIn wsX5_perform (wsV RX5 88 RX4 yX4_read wsX4_read) := goodIn_app (goodIn_of _ (by decide +kernel)) ggX5_perform_X4_read
set_option maxRecDepth 20000 in
theorem ggX5_perform_X2_copyFrom : GoodIn wsX5_perform wsX2_copyFrom := goodIn_r _ [57, 58, 59, 60, 61, 62, 63, 64, 65, 66, 67, 68, 69, 70, 71, 72, 73, 74, 75, 76, 77, 78, 231, 232, 233, 234, 235, 236, 237, 238, 239, 240, 241, 242] (by decide +kernel) (by decide +kernel)
set_option maxRecDepth 20000 in
theorem gX5_perform_X2_copyFrom : GoodIn wsX5_perform (wsV RX5 43 RX2 yX2_copyFrom wsX2_copyFrom) := goodIn_app (goodIn_of _ (by decide +kernel)) ggX5_perform_X2_copyFrom
set_option maxRecDepth 20000 in
theorem ggX5_perform_X5_doThing : GoodIn wsX5_perform wsX5_doThing := goodIn_r _ [82, 1, 3, 83, 84, 85, 8, 86, 14, 87, 88, 89, 90, 11, 91, 92, 93, 94, 16, 95, 96, 97, 98, 13, 99, 100, 101, 56, 102, 58, 103, 104, 105, 42, 43, 44, 106, 107, 108, 65, 109, 75, 72, 74, 76, 110, 73, 111, 112, 113, 114, 67, 115, 116, 117, 118, 119, 120, 121, 122, 123, 124, 125, 126, 127, 128, 129, 130, 60, 131, 132, 133, 134, 135, 136, 137, 138, 139, 140, 141, 142, 143, 144, 145, 146, 147, 148, 149, 150, 151, 59, 152, 61, 153, 154, 155, 156, 157, 158, 159, 160, 77, 161, 162, 163, 164, 165, 166, 167, 168, 169, 170, 171, 172, 173, 174, 175, 176, 177, 178, 179, 180, 181, 182, 183, 184, 185, 186, 211, 212, 213, 214, 215, 216, 217, 218, 219, 220, 221, 222, 223, 224, 225, 226, 227, 228, 231, 232, 233, 234, 235, 236, 237, 238, 239, 240, 241, 242] (by decide +kernel) (by decide +kernel)
set_option maxRecDepth 20000 in
theorem gX5_perform_X5_doThing : GoodIn wsX5_perform (wsV RX5 95 RX5 yX5_doThing wsX5_doThing) := goodIn_app (goodIn_of _ (by decide +kernel)) ggX5_perform_X5_doThing
set_option maxRecDepth 20000 in
theorem ggX5_perform_X5_stopAt : GoodIn wsX5_perform wsX5_stopAt := goodIn_r _ [190, 3, 2, 191, 192, 193, 53, 54, 55, 56, 57, 58, 59, 60, 61, 62, 63, 64, 65, 66, 67, 68, 69, 70, 71, 72, 73, 74, 75, 76, 77, 78, 211, 212, 213, 214, 215, 216, 217, 218, 219, 220, 231, 232, 233, 234, 235, 236, 237, 238, 239, 240, 241, 242] (by decide +kernel) (by decide +kernel)
set_option maxRecDepth 20000 in
theorem gX5_perform_X5_stopAt : GoodIn wsX5_perform (wsV RX5 98 RX5 yX5_stopAt wsX5_stopAt) := goodIn_app (goodIn_of _ (by decide +kernel)) ggX5_perform_X5_stopAt
set_option maxRecDepth 20000 in
theorem ggX5_perform_X5_recorded : GoodIn wsX5_perform wsX5_recorded := goodIn_r _ [197, 198, 2, 199, 200, 201, 202, 203, 204, 205, 206, 207, 208, 209, 210, 54, 55, 56, 57, 58, 59, 60, 61, 62, 63, 64, 65, 66, 67, 68, 69, 70, 71, 72, 73, 74, 75, 76, 77, 78, 211, 212, 213, 214, 215, 216, 217, 218, 219, 220, 243, 244, 231, 232, 233, 234, 235, 236, 237, 238, 239, 240, 241, 242] (by decide +kernel) (by decide +kernel)
set_option maxRecDepth 20000 in
theorem gX5_perform_X5_recorded : GoodIn wsX5_perform (wsV RX5 51 RX5 yX5_recorded wsX5_recorded) := goodIn_app (goodIn_of _ (by decide +kernel)) ggX5_perform_X5_recorded
theorem dX5_perform_0 : decode cX5_perform 0 = .ok (.aload_n 0, 1) := by decide +kernel
theorem dX5_perform_1 : decode cX5_perform 1 = .ok (.getfield 39, 3) := by decide +kernel
theorem dX5_perform_4 : decode cX5_perform 4 = .ok (.invokevirtual 88, 3) := by decide +kernel
theorem dX5_perform_7 : decode cX5_perform 7 = .ok (.istore_n 1, 1) := by decide +kernel
theorem dX5_perform_8 : decode cX5_perform 8 = .ok (.iload_n 1, 1) := by decide +kernel
theorem dX5_perform_9 : decode cX5_perform 9 = .ok (.iconst (-1), 1) := by decide +kernel
theorem dX5_perform_10 : decode cX5_perform 10 = .ok (.if_icmp .eq 8, 3) := by decide +kernel
theorem dX5_perform_13 : decode cX5_perform 13 = .ok (.bipush (-100), 2) := by decide +kernel
theorem dX5_perform_15 : decode cX5_perform 15 = .ok (.iload_n 1, 1) := by decide +kernel
theorem dX5_perform_16 : decode cX5_perform 16 = .ok (.isub, 1) := by decide +kernel
theorem dX5_perform_17 : decode cX5_perform 17 = .ok (.ireturn, 1) := by decide +kernel
theorem dX5_perform_18 : decode cX5_perform 18 = .ok (.aload_n 0, 1) := by decide +kernel
theorem dX5_perform_19 : decode cX5_perform 19 = .ok (.getfield 16, 3) := by decide +kernel
theorem dX5_perform_22 : decode cX5_perform 22 = .ok (.aload_n 0, 1) := by decide +kernel
theorem dX5_perform_23 : decode cX5_perform 23 = .ok (.getfield 10, 3) := by decide +kernel
theorem dX5_perform_26 : decode cX5_perform 26 = .ok (.invokevirtual 43, 3) := by decide +kernel
theorem dX5_perform_29 : decode cX5_perform 29 = .ok (.iconst 0, 1) := by decide +kernel
theorem dX5_perform_30 : decode cX5_perform 30 = .ok (.istore_n 2, 1) := by decide +kernel
theorem dX5_perform_31 : decode cX5_perform 31 = .ok (.iload_n 2, 1) := by decide +kernel
theorem dX5_perform_32 : decode cX5_perform 32 = .ok (.aload_n 0, 1) := by decide +kernel
theorem dX5_perform_33 : decode cX5_perform 33 = .ok (.getfield 39, 3) := by decide +kernel
theorem dX5_perform_36 : decode cX5_perform 36 = .ok (.getfield 91, 3) := by decide +kernel
theorem dX5_perform_39 : decode cX5_perform 39 = .ok (.if_icmp .ge 34, 3) := by decide +kernel
theorem dX5_perform_42 : decode cX5_perform 42 = .ok (.aload_n 0, 1) := by decide +kernel
theorem dX5_perform_43 : decode cX5_perform 43 = .ok (.iload_n 2, 1) := by decide +kernel
theorem dX5_perform_44 : decode cX5_perform 44 = .ok (.invokevirtual 95, 3) := by decide +kernel
theorem dX5_perform_47 : decode cX5_perform 47 = .ok (.istore_n 3, 1) := by decide +kernel
theorem dX5_perform_48 : decode cX5_perform 48 = .ok (.iload_n 3, 1) := by decide +kernel
theorem dX5_perform_49 : decode cX5_perform 49 = .ok (.ifCond .ge 18, 3) := by decide +kernel
theorem dX5_perform_52 : decode cX5_perform 52 = .ok (.iload_n 3, 1) := by decide +kernel
theorem dX5_perform_53 : decode cX5_perform 53 = .ok (.bipush (-5), 2) := by decide +kernel
theorem dX5_perform_55 : decode cX5_perform 55 = .ok (.if_icmp .eq 12, 3) := by decide +kernel
theorem dX5_perform_58 : decode cX5_perform 58 = .ok (.aload_n 0, 1) := by decide +kernel
theorem dX5_perform_59 : decode cX5_perform 59 = .ok (.iload_n 2, 1) := by decide +kernel
theorem dX5_perform_60 : decode cX5_perform 60 = .ok (.iload_n 3, 1) := by decide +kernel
theorem dX5_perform_61 : decode cX5_perform 61 = .ok (.invokevirtual 98, 3) := by decide +kernel
theorem dX5_perform_64 : decode cX5_perform 64 = .ok (.bipush (-4), 2) := by decide +kernel
theorem dX5_perform_66 : decode cX5_perform 66 = .ok (.ireturn, 1) := by decide +kernel
theorem dX5_perform_67 : decode cX5_perform 67 = .ok (.iinc 2 1, 3) := by decide +kernel
theorem dX5_perform_70 : decode cX5_perform 70 = .ok (.goto (-39), 3) := by decide +kernel
theorem dX5_perform_73 : decode cX5_perform 73 = .ok (.aload_n 0, 1) := by decide +kernel
theorem dX5_perform_74 : decode cX5_perform 74 = .ok (.aload_n 0, 1) := by decide +kernel
theorem dX5_perform_75 : decode cX5_perform 75 = .ok (.getfield 39, 3) := by decide +kernel
theorem dX5_perform_78 : decode cX5_perform 78 = .ok (.getfield 91, 3) := by decide +kernel
theorem dX5_perform_81 : decode cX5_perform 81 = .ok (.invokevirtual 51, 3) := by decide +kernel
theorem dX5_perform_84 : decode cX5_perform 84 = .ok (.ireturn, 1) := by decide +kernel
set_option maxRecDepth 20000 in
theorem ggX5_doThing_X4_pairOf : GoodIn wsX5_doThing wsX4_pairOf := goodIn_r _ [7, 8, 9, 10, 11, 6, 12, 13, 138, 139, 140, 141, 142, 143, 144, 145] (by decide +kernel) (by decide +kernel)
set_option maxRecDepth 20000 in
theorem gX5_doThing_X4_pairOf : GoodIn wsX5_doThing (wsV RX5 102 RX4 yX4_pairOf wsX4_pairOf) := goodIn_app (goodIn_of _ (by decide +kernel)) ggX5_doThing_X4_pairOf
set_option maxRecDepth 20000 in
theorem ggX5_doThing_X4_valueOf : GoodIn wsX5_doThing wsX4_valueOf := goodIn_r _ [17, 18, 9, 10, 11, 6, 12, 13, 138, 139, 140, 141, 142, 143, 144, 145] (by decide +kernel) (by decide +kernel)
set_option maxRecDepth 20000 in
theorem gX5_doThing_X4_valueOf : GoodIn wsX5_doThing (wsV RX5 105 RX4 yX4_valueOf wsX4_valueOf) := goodIn_app (goodIn_of _ (by decide +kernel)) ggX5_doThing_X4_valueOf
set_option maxRecDepth 20000 in
theorem ggX5_doThing_X4_kindOf : GoodIn wsX5_doThing wsX4_kindOf := goodIn_r _ [22, 23, 9, 10, 11, 6, 12, 13, 138, 139, 140, 141, 142, 143, 144, 145] (by decide +kernel) (by decide +kernel)
set_option maxRecDepth 20000 in
theorem gX5_doThing_X4_kindOf : GoodIn wsX5_doThing (wsV RX5 108 RX4 yX4_kindOf wsX4_kindOf) := goodIn_app (goodIn_of _ (by decide +kernel)) ggX5_doThing_X4_kindOf
set_option maxRecDepth 20000 in
theorem ggX5_doThing_X2_connect : GoodIn wsX5_doThing wsX2_connect := goodIn_r _ [28, 29, 30, 31, 32, 33, 34, 35, 36, 37, 38, 39, 40, 41, 42, 43, 44, 45, 46, 47, 48, 49, 50, 51, 146, 147, 148, 149, 150, 151, 152, 153, 154, 155, 156, 157] (by decide +kernel) (by decide +kernel)
set_option maxRecDepth 20000 in
theorem gX5_doThing_X2_connect : GoodIn wsX5_doThing (wsV RX5 55 RX2 yX2_connect wsX2_connect) := goodIn_app (goodIn_of _ (by decide +kernel)) ggX5_doThing_X2_connect
set_option maxRecDepth 20000 in
theorem ggX5_doThing_X2_disconnect : GoodIn wsX5_doThing wsX2_disconnect := goodIn_r _ [55, 29, 30, 32, 33, 34, 35, 146, 147, 148, 149, 150, 151, 152, 153, 154, 155, 156, 157] (by decide +kernel) (by decide +kernel)
set_option maxRecDepth 20000 in
theorem gX5_doThing_X2_disconnect : GoodIn wsX5_doThing (wsV RX5 59 RX2 yX2_disconnect wsX2_disconnect) := goodIn_app (goodIn_of _ (by decide +kernel)) ggX5_doThing_X2_disconnect
set_option maxRecDepth 20000 in
theorem ggX5_doThing_X2_putSlab : GoodIn wsX5_doThing wsX2_putSlab := goodIn_r _ [59, 29, 60, 33, 34, 35, 61, 62, 36, 37, 38, 39, 40, 41, 42, 43, 44, 45, 46, 47, 48, 49, 50, 51, 146, 147, 148, 149, 150, 151, 152, 153, 154, 155, 156, 157] (by decide +kernel) (by decide +kernel)
set_option maxRecDepth 20000 in
theorem gX5_doThing_X2_putSlab : GoodIn wsX5_doThing (wsV RX5 62 RX2 yX2_putSlab wsX2_putSlab) := goodIn_app (goodIn_of _ (by decide +kernel)) ggX5_doThing_X2_putSlab
set_option maxRecDepth 20000 in
theorem ggX5_doThing_X2_share : GoodIn wsX5_doThing wsX2_share := goodIn_r _ [66, 29, 30, 32, 60, 67, 68, 33, 34, 35, 69, 48, 49, 39, 50, 51, 70, 71, 27, 72, 73, 74, 75, 76, 77, 78, 79, 80, 81, 41, 43, 46, 42, 47, 82, 83, 84, 85, 146, 147, 148, 149, 150, 151, 152, 153, 154, 155, 156, 157] (by decide +kernel) (by decide +kernel)
set_option maxRecDepth 20000 in
theorem gX5_doThing_X2_share : GoodIn wsX5_doThing (wsV RX5 65 RX2 yX2_share wsX2_share) := goodIn_app (goodIn_of _ (by decide +kernel)) ggX5_doThing_X2_share
set_option maxRecDepth 20000 in
theorem ggX5_doThing_X2_letPass : GoodIn wsX5_doThing wsX2_letPass := goodIn_r _ [89, 90, 91, 29, 92, 93, 94, 95, 39, 96, 42, 97, 98, 99, 100, 41, 46, 51, 101, 102, 79, 80, 81, 43, 47, 48, 49, 50, 103, 104, 105, 106, 107, 108, 109, 110, 111, 112, 113, 114, 115, 116, 117, 118, 119, 120, 121, 122, 123, 124, 125, 126, 127, 37, 38, 40, 44, 45, 146, 147, 148, 149, 150, 151, 152, 153, 154, 155, 156, 157] (by decide +kernel) (by decide +kernel)
set_option maxRecDepth 20000 in
theorem gX5_doThing_X2_letPass : GoodIn wsX5_doThing (wsV RX5 68 RX2 yX2_letPass wsX2_letPass) := goodIn_app (goodIn_of _ (by decide +kernel)) ggX5_doThing_X2_letPass
theorem dX5_doThing_0 : decode cX5_doThing 0 = .ok (.aload_n 0, 1) := by decide +kernel
theorem dX5_doThing_1 : decode cX5_doThing 1 = .ok (.getfield 39, 3) := by decide +kernel
theorem dX5_doThing_4 : decode cX5_doThing 4 = .ok (.iload_n 1, 1) := by decide +kernel
theorem dX5_doThing_5 : decode cX5_doThing 5 = .ok (.invokevirtual 102, 3) := by decide +kernel
theorem dX5_doThing_8 : decode cX5_doThing 8 = .ok (.istore_n 2, 1) := by decide +kernel
theorem dX5_doThing_9 : decode cX5_doThing 9 = .ok (.aload_n 0, 1) := by decide +kernel
theorem dX5_doThing_10 : decode cX5_doThing 10 = .ok (.getfield 39, 3) := by decide +kernel
theorem dX5_doThing_13 : decode cX5_doThing 13 = .ok (.iload_n 1, 1) := by decide +kernel
theorem dX5_doThing_14 : decode cX5_doThing 14 = .ok (.invokevirtual 105, 3) := by decide +kernel
theorem dX5_doThing_17 : decode cX5_doThing 17 = .ok (.istore_n 3, 1) := by decide +kernel
theorem dX5_doThing_18 : decode cX5_doThing 18 = .ok (.aload_n 0, 1) := by decide +kernel
theorem dX5_doThing_19 : decode cX5_doThing 19 = .ok (.getfield 39, 3) := by decide +kernel
theorem dX5_doThing_22 : decode cX5_doThing 22 = .ok (.iload_n 1, 1) := by decide +kernel
theorem dX5_doThing_23 : decode cX5_doThing 23 = .ok (.invokevirtual 108, 3) := by decide +kernel
theorem dX5_doThing_26 : decode cX5_doThing 26 = .ok (.lookupswitch 81 #[(98, 42), (99, 71), (100, 61), (111, 52)], 42) := by decide +kernel
theorem dX5_doThing_68 : decode cX5_doThing 68 = .ok (.aload_n 0, 1) := by decide +kernel
theorem dX5_doThing_69 : decode cX5_doThing 69 = .ok (.getfield 10, 3) := by decide +kernel
theorem dX5_doThing_72 : decode cX5_doThing 72 = .ok (.iload_n 2, 1) := by decide +kernel
theorem dX5_doThing_73 : decode cX5_doThing 73 = .ok (.iload_n 3, 1) := by decide +kernel
theorem dX5_doThing_74 : decode cX5_doThing 74 = .ok (.invokevirtual 55, 3) := by decide +kernel
theorem dX5_doThing_77 : decode cX5_doThing 77 = .ok (.ireturn, 1) := by decide +kernel
theorem dX5_doThing_78 : decode cX5_doThing 78 = .ok (.aload_n 0, 1) := by decide +kernel
theorem dX5_doThing_79 : decode cX5_doThing 79 = .ok (.getfield 10, 3) := by decide +kernel
theorem dX5_doThing_82 : decode cX5_doThing 82 = .ok (.iload_n 2, 1) := by decide +kernel
theorem dX5_doThing_83 : decode cX5_doThing 83 = .ok (.invokevirtual 59, 3) := by decide +kernel
theorem dX5_doThing_86 : decode cX5_doThing 86 = .ok (.ireturn, 1) := by decide +kernel
theorem dX5_doThing_87 : decode cX5_doThing 87 = .ok (.aload_n 0, 1) := by decide +kernel
theorem dX5_doThing_88 : decode cX5_doThing 88 = .ok (.getfield 10, 3) := by decide +kernel
theorem dX5_doThing_91 : decode cX5_doThing 91 = .ok (.iload_n 2, 1) := by decide +kernel
theorem dX5_doThing_92 : decode cX5_doThing 92 = .ok (.iload_n 3, 1) := by decide +kernel
theorem dX5_doThing_93 : decode cX5_doThing 93 = .ok (.invokevirtual 62, 3) := by decide +kernel
theorem dX5_doThing_96 : decode cX5_doThing 96 = .ok (.ireturn, 1) := by decide +kernel
theorem dX5_doThing_97 : decode cX5_doThing 97 = .ok (.aload_n 0, 1) := by decide +kernel
theorem dX5_doThing_98 : decode cX5_doThing 98 = .ok (.getfield 10, 3) := by decide +kernel
theorem dX5_doThing_101 : decode cX5_doThing 101 = .ok (.iload_n 2, 1) := by decide +kernel
theorem dX5_doThing_102 : decode cX5_doThing 102 = .ok (.iload_n 3, 1) := by decide +kernel
theorem dX5_doThing_103 : decode cX5_doThing 103 = .ok (.invokevirtual 65, 3) := by decide +kernel
theorem dX5_doThing_106 : decode cX5_doThing 106 = .ok (.ireturn, 1) := by decide +kernel
theorem dX5_doThing_107 : decode cX5_doThing 107 = .ok (.aload_n 0, 1) := by decide +kernel
theorem dX5_doThing_108 : decode cX5_doThing 108 = .ok (.getfield 10, 3) := by decide +kernel
theorem dX5_doThing_111 : decode cX5_doThing 111 = .ok (.iload_n 3, 1) := by decide +kernel
theorem dX5_doThing_112 : decode cX5_doThing 112 = .ok (.invokevirtual 68, 3) := by decide +kernel
theorem dX5_doThing_115 : decode cX5_doThing 115 = .ok (.ireturn, 1) := by decide +kernel
set_option maxRecDepth 20000 in
theorem ggX5_stopAt_X2_copyFrom : GoodIn wsX5_stopAt wsX2_copyFrom := goodIn_r _ [10, 11, 12, 13, 14, 15, 16, 17, 18, 19, 20, 21, 22, 23, 24, 25, 26, 27, 28, 29, 30, 31, 42, 43, 44, 45, 46, 47, 48, 49, 50, 51, 52, 53] (by decide +kernel) (by decide +kernel)
set_option maxRecDepth 20000 in
theorem gX5_stopAt_X2_copyFrom : GoodIn wsX5_stopAt (wsV RX5 43 RX2 yX2_copyFrom wsX2_copyFrom) := goodIn_app (goodIn_of _ (by decide +kernel)) ggX5_stopAt_X2_copyFrom
theorem dX5_stopAt_0 : decode cX5_stopAt 0 = .ok (.aload_n 0, 1) := by decide +kernel
theorem dX5_stopAt_1 : decode cX5_stopAt 1 = .ok (.getfield 10, 3) := by decide +kernel
theorem dX5_stopAt_4 : decode cX5_stopAt 4 = .ok (.aload_n 0, 1) := by decide +kernel
theorem dX5_stopAt_5 : decode cX5_stopAt 5 = .ok (.getfield 16, 3) := by decide +kernel
theorem dX5_stopAt_8 : decode cX5_stopAt 8 = .ok (.invokevirtual 43, 3) := by decide +kernel
theorem dX5_stopAt_11 : decode cX5_stopAt 11 = .ok (.aload_n 0, 1) := by decide +kernel
theorem dX5_stopAt_12 : decode cX5_stopAt 12 = .ok (.iconst 1, 1) := by decide +kernel
theorem dX5_stopAt_13 : decode cX5_stopAt 13 = .ok (.putfield 111, 3) := by decide +kernel
theorem dX5_stopAt_16 : decode cX5_stopAt 16 = .ok (.aload_n 0, 1) := by decide +kernel
theorem dX5_stopAt_17 : decode cX5_stopAt 17 = .ok (.iload_n 1, 1) := by decide +kernel
theorem dX5_stopAt_18 : decode cX5_stopAt 18 = .ok (.putfield 115, 3) := by decide +kernel
theorem dX5_stopAt_21 : decode cX5_stopAt 21 = .ok (.aload_n 0, 1) := by decide +kernel
theorem dX5_stopAt_22 : decode cX5_stopAt 22 = .ok (.iload_n 2, 1) := by decide +kernel
theorem dX5_stopAt_23 : decode cX5_stopAt 23 = .ok (.putfield 118, 3) := by decide +kernel
theorem dX5_stopAt_26 : decode cX5_stopAt 26 = .ok (.return_, 1) := by decide +kernel
theorem dX5_stopped_0 : decode cX5_stopped 0 = .ok (.iload_n 1, 1) := by decide +kernel
theorem dX5_stopped_1 : decode cX5_stopped 1 = .ok (.ifCond .lt 8, 3) := by decide +kernel
theorem dX5_stopped_4 : decode cX5_stopped 4 = .ok (.iload_n 1, 1) := by decide +kernel
theorem dX5_stopped_5 : decode cX5_stopped 5 = .ok (.iconst 1, 1) := by decide +kernel
theorem dX5_stopped_6 : decode cX5_stopped 6 = .ok (.if_icmp .le 6, 3) := by decide +kernel
theorem dX5_stopped_9 : decode cX5_stopped 9 = .ok (.bipush (-2), 2) := by decide +kernel
theorem dX5_stopped_11 : decode cX5_stopped 11 = .ok (.ireturn, 1) := by decide +kernel
theorem dX5_stopped_12 : decode cX5_stopped 12 = .ok (.aload_n 0, 1) := by decide +kernel
theorem dX5_stopped_13 : decode cX5_stopped 13 = .ok (.getfield 111, 3) := by decide +kernel
theorem dX5_stopped_16 : decode cX5_stopped 16 = .ok (.ifCond .ne 6, 3) := by decide +kernel
theorem dX5_stopped_19 : decode cX5_stopped 19 = .ok (.bipush (-5), 2) := by decide +kernel
theorem dX5_stopped_21 : decode cX5_stopped 21 = .ok (.ireturn, 1) := by decide +kernel
theorem dX5_stopped_22 : decode cX5_stopped 22 = .ok (.iload_n 1, 1) := by decide +kernel
theorem dX5_stopped_23 : decode cX5_stopped 23 = .ok (.ifCond .ne 10, 3) := by decide +kernel
theorem dX5_stopped_26 : decode cX5_stopped 26 = .ok (.aload_n 0, 1) := by decide +kernel
theorem dX5_stopped_27 : decode cX5_stopped 27 = .ok (.getfield 115, 3) := by decide +kernel
theorem dX5_stopped_30 : decode cX5_stopped 30 = .ok (.goto 7, 3) := by decide +kernel
theorem dX5_stopped_33 : decode cX5_stopped 33 = .ok (.aload_n 0, 1) := by decide +kernel
theorem dX5_stopped_34 : decode cX5_stopped 34 = .ok (.getfield 118, 3) := by decide +kernel
theorem dX5_stopped_37 : decode cX5_stopped 37 = .ok (.ireturn, 1) := by decide +kernel
set_option maxRecDepth 20000 in
theorem ggX5_undo_X0_popInto : GoodIn wsX5_undo wsX0_popInto := goodIn_r _ [7, 8, 9, 10, 11, 12, 13, 14, 15, 16, 17, 18, 19, 20, 21, 22, 23, 24, 25, 26, 27, 28, 29, 30, 31, 32, 33, 34, 35, 46, 47, 48, 49, 50, 51, 52, 53, 54, 55, 56, 57, 58, 59] (by decide +kernel) (by decide +kernel)
set_option maxRecDepth 20000 in
theorem gX5_undo_X0_popInto : GoodIn wsX5_undo (wsV RX5 121 RX0 yX0_popInto wsX0_popInto) := goodIn_app (goodIn_of _ (by decide +kernel)) ggX5_undo_X0_popInto
theorem dX5_undo_0 : decode cX5_undo 0 = .ok (.aload_n 0, 1) := by decide +kernel
theorem dX5_undo_1 : decode cX5_undo 1 = .ok (.getfield 25, 3) := by decide +kernel
theorem dX5_undo_4 : decode cX5_undo 4 = .ok (.aload_n 0, 1) := by decide +kernel
theorem dX5_undo_5 : decode cX5_undo 5 = .ok (.getfield 10, 3) := by decide +kernel
theorem dX5_undo_8 : decode cX5_undo 8 = .ok (.invokevirtual 121, 3) := by decide +kernel
theorem dX5_undo_11 : decode cX5_undo 11 = .ok (.ireturn, 1) := by decide +kernel
set_option maxRecDepth 20000 in
theorem ggX5_keep_X2_copyFrom : GoodIn wsX5_keep wsX2_copyFrom := goodIn_r _ [9, 10, 11, 12, 13, 14, 15, 16, 17, 18, 19, 20, 21, 22, 23, 24, 25, 26, 27, 28, 29, 30, 41, 42, 43, 44, 45, 46, 47, 48, 49, 50, 51, 52] (by decide +kernel) (by decide +kernel)
set_option maxRecDepth 20000 in
theorem gX5_keep_X2_copyFrom : GoodIn wsX5_keep (wsV RX5 43 RX2 yX2_copyFrom wsX2_copyFrom) := goodIn_app (goodIn_of _ (by decide +kernel)) ggX5_keep_X2_copyFrom
theorem dX5_keep_0 : decode cX5_keep 0 = .ok (.aload_n 0, 1) := by decide +kernel
theorem dX5_keep_1 : decode cX5_keep 1 = .ok (.getfield 19, 3) := by decide +kernel
theorem dX5_keep_4 : decode cX5_keep 4 = .ok (.aload_n 0, 1) := by decide +kernel
theorem dX5_keep_5 : decode cX5_keep 5 = .ok (.getfield 10, 3) := by decide +kernel
theorem dX5_keep_8 : decode cX5_keep 8 = .ok (.invokevirtual 43, 3) := by decide +kernel
theorem dX5_keep_11 : decode cX5_keep 11 = .ok (.aload_n 0, 1) := by decide +kernel
theorem dX5_keep_12 : decode cX5_keep 12 = .ok (.iconst 1, 1) := by decide +kernel
theorem dX5_keep_13 : decode cX5_keep 13 = .ok (.putfield 125, 3) := by decide +kernel
theorem dX5_keep_16 : decode cX5_keep 16 = .ok (.aload_n 0, 1) := by decide +kernel
theorem dX5_keep_17 : decode cX5_keep 17 = .ok (.getfield 10, 3) := by decide +kernel
theorem dX5_keep_20 : decode cX5_keep 20 = .ok (.getfield 128, 3) := by decide +kernel
theorem dX5_keep_23 : decode cX5_keep 23 = .ok (.ireturn, 1) := by decide +kernel
set_option maxRecDepth 20000 in
theorem ggX5_restore_X2_copyFrom : GoodIn wsX5_restore wsX2_copyFrom := goodIn_r _ [10, 11, 12, 13, 14, 15, 16, 17, 18, 19, 20, 21, 22, 23, 24, 25, 26, 27, 28, 29, 30, 31, 60, 61, 62, 63, 64, 65, 66, 67, 68, 69, 70, 71] (by decide +kernel) (by decide +kernel)
set_option maxRecDepth 20000 in
theorem gX5_restore_X2_copyFrom : GoodIn wsX5_restore (wsV RX5 43 RX2 yX2_copyFrom wsX2_copyFrom) := goodIn_app (goodIn_of _ (by decide +kernel)) ggX5_restore_X2_copyFrom
set_option maxRecDepth 20000 in
theorem ggX5_restore_X5_recorded : GoodIn wsX5_restore wsX5_recorded := goodIn_r _ [36, 37, 2, 38, 39, 40, 41, 42, 43, 44, 45, 46, 47, 48, 49, 7, 8, 9, 10, 11, 12, 13, 14, 15, 16, 17, 18, 19, 20, 21, 22, 23, 24, 25, 26, 27, 28, 29, 30, 31, 50, 51, 52, 53, 54, 55, 56, 57, 58, 59, 72, 73, 60, 61, 62, 63, 64, 65, 66, 67, 68, 69, 70, 71] (by decide +kernel) (by decide +kernel)
set_option maxRecDepth 20000 in
theorem gX5_restore_X5_recorded : GoodIn wsX5_restore (wsV RX5 51 RX5 yX5_recorded wsX5_recorded) := goodIn_app (goodIn_of _ (by decide +kernel)) ggX5_restore_X5_recorded
theorem dX5_restore_0 : decode cX5_restore 0 = .ok (.aload_n 0, 1) := by decide +kernel
theorem dX5_restore_1 : decode cX5_restore 1 = .ok (.getfield 125, 3) := by decide +kernel
theorem dX5_restore_4 : decode cX5_restore 4 = .ok (.ifCond .ne 6, 3) := by decide +kernel
theorem dX5_restore_7 : decode cX5_restore 7 = .ok (.bipush (-5), 2) := by decide +kernel
theorem dX5_restore_9 : decode cX5_restore 9 = .ok (.ireturn, 1) := by decide +kernel
theorem dX5_restore_10 : decode cX5_restore 10 = .ok (.aload_n 0, 1) := by decide +kernel
theorem dX5_restore_11 : decode cX5_restore 11 = .ok (.getfield 16, 3) := by decide +kernel
theorem dX5_restore_14 : decode cX5_restore 14 = .ok (.aload_n 0, 1) := by decide +kernel
theorem dX5_restore_15 : decode cX5_restore 15 = .ok (.getfield 10, 3) := by decide +kernel
theorem dX5_restore_18 : decode cX5_restore 18 = .ok (.invokevirtual 43, 3) := by decide +kernel
theorem dX5_restore_21 : decode cX5_restore 21 = .ok (.aload_n 0, 1) := by decide +kernel
theorem dX5_restore_22 : decode cX5_restore 22 = .ok (.getfield 10, 3) := by decide +kernel
theorem dX5_restore_25 : decode cX5_restore 25 = .ok (.aload_n 0, 1) := by decide +kernel
theorem dX5_restore_26 : decode cX5_restore 26 = .ok (.getfield 19, 3) := by decide +kernel
theorem dX5_restore_29 : decode cX5_restore 29 = .ok (.invokevirtual 43, 3) := by decide +kernel
theorem dX5_restore_32 : decode cX5_restore 32 = .ok (.aload_n 0, 1) := by decide +kernel
theorem dX5_restore_33 : decode cX5_restore 33 = .ok (.aload_n 0, 1) := by decide +kernel
theorem dX5_restore_34 : decode cX5_restore 34 = .ok (.getfield 10, 3) := by decide +kernel
theorem dX5_restore_37 : decode cX5_restore 37 = .ok (.getfield 128, 3) := by decide +kernel
theorem dX5_restore_40 : decode cX5_restore 40 = .ok (.invokevirtual 51, 3) := by decide +kernel
theorem dX5_restore_43 : decode cX5_restore 43 = .ok (.ireturn, 1) := by decide +kernel
set_option maxRecDepth 20000 in
theorem ggX5_pair_X5_isPair : GoodIn wsX5_pair wsX5_isPair := goodIn_r _ [15] (by decide +kernel) (by decide +kernel)
set_option maxRecDepth 20000 in
theorem gX5_pair_X5_isPair : GoodIn wsX5_pair (va_wsS RX5 131 yX5_isPair wsX5_isPair) := goodIn_app (goodIn_of _ (by decide +kernel)) ggX5_pair_X5_isPair
set_option maxRecDepth 20000 in
theorem ggX5_pair_X1_isSetting : GoodIn wsX5_pair wsX1_isSetting := goodIn_r _ [19] (by decide +kernel) (by decide +kernel)
set_option maxRecDepth 20000 in
theorem gX5_pair_X1_isSetting : GoodIn wsX5_pair (va_wsS RX5 139 yX1_isSetting wsX1_isSetting) := goodIn_app (goodIn_of _ (by decide +kernel)) ggX5_pair_X1_isSetting
set_option maxRecDepth 20000 in
theorem ggX5_pair_X1_capacityAt : GoodIn wsX5_pair wsX1_capacityAt := goodIn_r _ [23, 24, 55, 56, 57, 58, 59, 60, 61, 62] (by decide +kernel) (by decide +kernel)
set_option maxRecDepth 20000 in
theorem gX5_pair_X1_capacityAt : GoodIn wsX5_pair (wsV RX5 149 RX1 yX1_capacityAt wsX1_capacityAt) := goodIn_app (goodIn_of _ (by decide +kernel)) ggX5_pair_X1_capacityAt
set_option maxRecDepth 20000 in
theorem ggX5_pair_X1_pullAt : GoodIn wsX5_pair wsX1_pullAt := goodIn_r _ [28, 29, 30, 24, 31, 32, 33, 34, 18, 35, 36, 21, 22, 23, 55, 56, 57, 58, 59, 60, 61, 62] (by decide +kernel) (by decide +kernel)
set_option maxRecDepth 20000 in
theorem gX5_pair_X1_pullAt : GoodIn wsX5_pair (wsV RX5 161 RX1 yX1_pullAt wsX1_pullAt) := goodIn_app (goodIn_of _ (by decide +kernel)) ggX5_pair_X1_pullAt
set_option maxRecDepth 20000 in
theorem ggX5_pair_X1_drawnBackAt : GoodIn wsX5_pair wsX1_drawnBackAt := goodIn_r _ [40, 24, 55, 56, 57, 58, 59, 60, 61, 62] (by decide +kernel) (by decide +kernel)
set_option maxRecDepth 20000 in
theorem gX5_pair_X1_drawnBackAt : GoodIn wsX5_pair (wsV RX5 164 RX1 yX1_drawnBackAt wsX1_drawnBackAt) := goodIn_app (goodIn_of _ (by decide +kernel)) ggX5_pair_X1_drawnBackAt
theorem dX5_pair_0 : decode cX5_pair 0 = .ok (.iload_n 1, 1) := by decide +kernel
theorem dX5_pair_1 : decode cX5_pair 1 = .ok (.invokestatic 131, 3) := by decide +kernel
theorem dX5_pair_4 : decode cX5_pair 4 = .ok (.ifCond .ne 5, 3) := by decide +kernel
theorem dX5_pair_7 : decode cX5_pair 7 = .ok (.iconst (-1), 1) := by decide +kernel
theorem dX5_pair_8 : decode cX5_pair 8 = .ok (.ireturn, 1) := by decide +kernel
theorem dX5_pair_9 : decode cX5_pair 9 = .ok (.aload_n 0, 1) := by decide +kernel
theorem dX5_pair_10 : decode cX5_pair 10 = .ok (.getfield 10, 3) := by decide +kernel
theorem dX5_pair_13 : decode cX5_pair 13 = .ok (.getfield 135, 3) := by decide +kernel
theorem dX5_pair_16 : decode cX5_pair 16 = .ok (.iload_n 1, 1) := by decide +kernel
theorem dX5_pair_17 : decode cX5_pair 17 = .ok (.aaload, 1) := by decide +kernel
theorem dX5_pair_18 : decode cX5_pair 18 = .ok (.astore_n 3, 1) := by decide +kernel
theorem dX5_pair_19 : decode cX5_pair 19 = .ok (.iload_n 2, 1) := by decide +kernel
theorem dX5_pair_20 : decode cX5_pair 20 = .ok (.invokestatic 139, 3) := by decide +kernel
theorem dX5_pair_23 : decode cX5_pair 23 = .ok (.ifCond .eq 10, 3) := by decide +kernel
theorem dX5_pair_26 : decode cX5_pair 26 = .ok (.aload_n 3, 1) := by decide +kernel
theorem dX5_pair_27 : decode cX5_pair 27 = .ok (.getfield 142, 3) := by decide +kernel
theorem dX5_pair_30 : decode cX5_pair 30 = .ok (.iload_n 2, 1) := by decide +kernel
theorem dX5_pair_31 : decode cX5_pair 31 = .ok (.iaload, 1) := by decide +kernel
theorem dX5_pair_32 : decode cX5_pair 32 = .ok (.ireturn, 1) := by decide +kernel
theorem dX5_pair_33 : decode cX5_pair 33 = .ok (.iload_n 2, 1) := by decide +kernel
theorem dX5_pair_34 : decode cX5_pair 34 = .ok (.tableswitch 100 6 12 #[42, 47, 56, 61, 66, 79, 88], 42) := by decide +kernel
theorem dX5_pair_76 : decode cX5_pair 76 = .ok (.aload_n 3, 1) := by decide +kernel
theorem dX5_pair_77 : decode cX5_pair 77 = .ok (.getfield 146, 3) := by decide +kernel
theorem dX5_pair_80 : decode cX5_pair 80 = .ok (.ireturn, 1) := by decide +kernel
theorem dX5_pair_81 : decode cX5_pair 81 = .ok (.aload_n 3, 1) := by decide +kernel
theorem dX5_pair_82 : decode cX5_pair 82 = .ok (.aload_n 3, 1) := by decide +kernel
theorem dX5_pair_83 : decode cX5_pair 83 = .ok (.getfield 146, 3) := by decide +kernel
theorem dX5_pair_86 : decode cX5_pair 86 = .ok (.invokevirtual 149, 3) := by decide +kernel
theorem dX5_pair_89 : decode cX5_pair 89 = .ok (.ireturn, 1) := by decide +kernel
theorem dX5_pair_90 : decode cX5_pair 90 = .ok (.aload_n 3, 1) := by decide +kernel
theorem dX5_pair_91 : decode cX5_pair 91 = .ok (.getfield 152, 3) := by decide +kernel
theorem dX5_pair_94 : decode cX5_pair 94 = .ok (.ireturn, 1) := by decide +kernel
theorem dX5_pair_95 : decode cX5_pair 95 = .ok (.aload_n 3, 1) := by decide +kernel
theorem dX5_pair_96 : decode cX5_pair 96 = .ok (.getfield 155, 3) := by decide +kernel
theorem dX5_pair_99 : decode cX5_pair 99 = .ok (.ireturn, 1) := by decide +kernel
theorem dX5_pair_100 : decode cX5_pair 100 = .ok (.aload_n 3, 1) := by decide +kernel
theorem dX5_pair_101 : decode cX5_pair 101 = .ok (.getfield 158, 3) := by decide +kernel
theorem dX5_pair_104 : decode cX5_pair 104 = .ok (.ifCond .eq 7, 3) := by decide +kernel
theorem dX5_pair_107 : decode cX5_pair 107 = .ok (.iconst 1, 1) := by decide +kernel
theorem dX5_pair_108 : decode cX5_pair 108 = .ok (.goto 4, 3) := by decide +kernel
theorem dX5_pair_111 : decode cX5_pair 111 = .ok (.iconst 0, 1) := by decide +kernel
theorem dX5_pair_112 : decode cX5_pair 112 = .ok (.ireturn, 1) := by decide +kernel
theorem dX5_pair_113 : decode cX5_pair 113 = .ok (.aload_n 3, 1) := by decide +kernel
theorem dX5_pair_114 : decode cX5_pair 114 = .ok (.aload_n 3, 1) := by decide +kernel
theorem dX5_pair_115 : decode cX5_pair 115 = .ok (.getfield 146, 3) := by decide +kernel
theorem dX5_pair_118 : decode cX5_pair 118 = .ok (.invokevirtual 161, 3) := by decide +kernel
theorem dX5_pair_121 : decode cX5_pair 121 = .ok (.ireturn, 1) := by decide +kernel
theorem dX5_pair_122 : decode cX5_pair 122 = .ok (.aload_n 3, 1) := by decide +kernel
theorem dX5_pair_123 : decode cX5_pair 123 = .ok (.aload_n 3, 1) := by decide +kernel
theorem dX5_pair_124 : decode cX5_pair 124 = .ok (.getfield 146, 3) := by decide +kernel
theorem dX5_pair_127 : decode cX5_pair 127 = .ok (.invokevirtual 164, 3) := by decide +kernel
theorem dX5_pair_130 : decode cX5_pair 130 = .ok (.invokestatic 167, 3) := by decide +kernel
theorem dX5_pair_133 : decode cX5_pair 133 = .ok (.ireturn, 1) := by decide +kernel
theorem dX5_pair_134 : decode cX5_pair 134 = .ok (.bipush (-2), 2) := by decide +kernel
theorem dX5_pair_136 : decode cX5_pair 136 = .ok (.ireturn, 1) := by decide +kernel
set_option maxRecDepth 20000 in
theorem ggX5_book_X5_isPair : GoodIn wsX5_book wsX5_isPair := goodIn_r _ [11] (by decide +kernel) (by decide +kernel)
set_option maxRecDepth 20000 in
theorem gX5_book_X5_isPair : GoodIn wsX5_book (va_wsS RX5 131 yX5_isPair wsX5_isPair) := goodIn_app (goodIn_of _ (by decide +kernel)) ggX5_book_X5_isPair
set_option maxRecDepth 20000 in
theorem ggX5_book_X1_stored : GoodIn wsX5_book wsX1_stored := goodIn_r _ [16, 17, 18, 19, 20, 21, 22, 23, 15, 24, 25, 40, 41, 42, 43, 44, 45, 46, 47] (by decide +kernel) (by decide +kernel)
set_option maxRecDepth 20000 in
theorem gX5_book_X1_stored : GoodIn wsX5_book (wsV RX5 174 RX1 yX1_stored wsX1_stored) := goodIn_app (goodIn_of _ (by decide +kernel)) ggX5_book_X1_stored
theorem dX5_book_0 : decode cX5_book 0 = .ok (.iload_n 1, 1) := by decide +kernel
theorem dX5_book_1 : decode cX5_book 1 = .ok (.invokestatic 131, 3) := by decide +kernel
theorem dX5_book_4 : decode cX5_book 4 = .ok (.ifCond .ne 7, 3) := by decide +kernel
theorem dX5_book_7 : decode cX5_book 7 = .ok (.ldc2_w 172, 3) := by decide +kernel
theorem dX5_book_10 : decode cX5_book 10 = .ok (.lreturn, 1) := by decide +kernel
theorem dX5_book_11 : decode cX5_book 11 = .ok (.aload_n 0, 1) := by decide +kernel
theorem dX5_book_12 : decode cX5_book 12 = .ok (.getfield 10, 3) := by decide +kernel
theorem dX5_book_15 : decode cX5_book 15 = .ok (.getfield 135, 3) := by decide +kernel
theorem dX5_book_18 : decode cX5_book 18 = .ok (.iload_n 1, 1) := by decide +kernel
theorem dX5_book_19 : decode cX5_book 19 = .ok (.aaload, 1) := by decide +kernel
theorem dX5_book_20 : decode cX5_book 20 = .ok (.astore_n 3, 1) := by decide +kernel
theorem dX5_book_21 : decode cX5_book 21 = .ok (.iload_n 2, 1) := by decide +kernel
theorem dX5_book_22 : decode cX5_book 22 = .ok (.tableswitch 74 0 4 #[34, 39, 44, 49, 54], 34) := by decide +kernel
theorem dX5_book_56 : decode cX5_book 56 = .ok (.aload_n 3, 1) := by decide +kernel
theorem dX5_book_57 : decode cX5_book 57 = .ok (.invokevirtual 174, 3) := by decide +kernel
theorem dX5_book_60 : decode cX5_book 60 = .ok (.lreturn, 1) := by decide +kernel
theorem dX5_book_61 : decode cX5_book 61 = .ok (.aload_n 3, 1) := by decide +kernel
theorem dX5_book_62 : decode cX5_book 62 = .ok (.getfield 178, 3) := by decide +kernel
theorem dX5_book_65 : decode cX5_book 65 = .ok (.lreturn, 1) := by decide +kernel
theorem dX5_book_66 : decode cX5_book 66 = .ok (.aload_n 3, 1) := by decide +kernel
theorem dX5_book_67 : decode cX5_book 67 = .ok (.getfield 182, 3) := by decide +kernel
theorem dX5_book_70 : decode cX5_book 70 = .ok (.lreturn, 1) := by decide +kernel
theorem dX5_book_71 : decode cX5_book 71 = .ok (.aload_n 3, 1) := by decide +kernel
theorem dX5_book_72 : decode cX5_book 72 = .ok (.getfield 185, 3) := by decide +kernel
theorem dX5_book_75 : decode cX5_book 75 = .ok (.lreturn, 1) := by decide +kernel
theorem dX5_book_76 : decode cX5_book 76 = .ok (.aload_n 3, 1) := by decide +kernel
theorem dX5_book_77 : decode cX5_book 77 = .ok (.getfield 178, 3) := by decide +kernel
theorem dX5_book_80 : decode cX5_book 80 = .ok (.aload_n 3, 1) := by decide +kernel
theorem dX5_book_81 : decode cX5_book 81 = .ok (.invokevirtual 174, 3) := by decide +kernel
theorem dX5_book_84 : decode cX5_book 84 = .ok (.lsub, 1) := by decide +kernel
theorem dX5_book_85 : decode cX5_book 85 = .ok (.aload_n 3, 1) := by decide +kernel
theorem dX5_book_86 : decode cX5_book 86 = .ok (.getfield 182, 3) := by decide +kernel
theorem dX5_book_89 : decode cX5_book 89 = .ok (.lsub, 1) := by decide +kernel
theorem dX5_book_90 : decode cX5_book 90 = .ok (.aload_n 3, 1) := by decide +kernel
theorem dX5_book_91 : decode cX5_book 91 = .ok (.getfield 185, 3) := by decide +kernel
theorem dX5_book_94 : decode cX5_book 94 = .ok (.lsub, 1) := by decide +kernel
theorem dX5_book_95 : decode cX5_book 95 = .ok (.lreturn, 1) := by decide +kernel
theorem dX5_book_96 : decode cX5_book 96 = .ok (.ldc2_w 188, 3) := by decide +kernel
theorem dX5_book_99 : decode cX5_book 99 = .ok (.lreturn, 1) := by decide +kernel
set_option maxRecDepth 20000 in
theorem ggX5_reason_X5_isPair : GoodIn wsX5_reason wsX5_isPair := goodIn_r _ [6] (by decide +kernel) (by decide +kernel)
set_option maxRecDepth 20000 in
theorem gX5_reason_X5_isPair : GoodIn wsX5_reason (va_wsS RX5 131 yX5_isPair wsX5_isPair) := goodIn_app (goodIn_of _ (by decide +kernel)) ggX5_reason_X5_isPair
set_option maxRecDepth 20000 in
theorem ggX5_reason_X1_reasonNow : GoodIn wsX5_reason wsX1_reasonNow := goodIn_r _ [11, 12, 13, 14, 15, 16, 17, 18, 19, 20, 10, 21, 22, 23, 24, 25, 26, 27, 28, 29, 30, 31, 32, 33, 34, 35, 36, 37, 38, 39, 40, 41, 42, 43, 44, 59, 60, 61, 62, 63, 64, 65, 66] (by decide +kernel) (by decide +kernel)
set_option maxRecDepth 20000 in
theorem gX5_reason_X1_reasonNow : GoodIn wsX5_reason (wsV RX5 190 RX1 yX1_reasonNow wsX1_reasonNow) := goodIn_app (goodIn_of _ (by decide +kernel)) ggX5_reason_X1_reasonNow
theorem dX5_reason_0 : decode cX5_reason 0 = .ok (.iload_n 1, 1) := by decide +kernel
theorem dX5_reason_1 : decode cX5_reason 1 = .ok (.invokestatic 131, 3) := by decide +kernel
theorem dX5_reason_4 : decode cX5_reason 4 = .ok (.ifCond .eq 18, 3) := by decide +kernel
theorem dX5_reason_7 : decode cX5_reason 7 = .ok (.aload_n 0, 1) := by decide +kernel
theorem dX5_reason_8 : decode cX5_reason 8 = .ok (.getfield 10, 3) := by decide +kernel
theorem dX5_reason_11 : decode cX5_reason 11 = .ok (.getfield 135, 3) := by decide +kernel
theorem dX5_reason_14 : decode cX5_reason 14 = .ok (.iload_n 1, 1) := by decide +kernel
theorem dX5_reason_15 : decode cX5_reason 15 = .ok (.aaload, 1) := by decide +kernel
theorem dX5_reason_16 : decode cX5_reason 16 = .ok (.invokevirtual 190, 3) := by decide +kernel
theorem dX5_reason_19 : decode cX5_reason 19 = .ok (.goto 4, 3) := by decide +kernel
theorem dX5_reason_22 : decode cX5_reason 22 = .ok (.iconst (-1), 1) := by decide +kernel
theorem dX5_reason_23 : decode cX5_reason 23 = .ok (.ireturn, 1) := by decide +kernel
set_option maxRecDepth 20000 in
theorem ggX5_force_X5_isPair : GoodIn wsX5_force wsX5_isPair := goodIn_r _ [10] (by decide +kernel) (by decide +kernel)
set_option maxRecDepth 20000 in
theorem gX5_force_X5_isPair : GoodIn wsX5_force (va_wsS RX5 131 yX5_isPair wsX5_isPair) := goodIn_app (goodIn_of _ (by decide +kernel)) ggX5_force_X5_isPair
set_option maxRecDepth 20000 in
theorem ggX5_force_X5_isDepth : GoodIn wsX5_force wsX5_isDepth := goodIn_r _ [13] (by decide +kernel) (by decide +kernel)
set_option maxRecDepth 20000 in
theorem gX5_force_X5_isDepth : GoodIn wsX5_force (va_wsS RX5 193 yX5_isDepth wsX5_isDepth) := goodIn_app (goodIn_of _ (by decide +kernel)) ggX5_force_X5_isDepth
set_option maxRecDepth 20000 in
theorem ggX5_force_X1_netAt : GoodIn wsX5_force wsX1_netAt := goodIn_r _ [18, 19, 20, 21, 17, 22, 23, 24, 25, 26, 27, 28, 29, 30, 31, 32, 33, 34, 35, 36, 37, 38, 53, 54, 55, 56, 57, 58, 59, 60] (by decide +kernel) (by decide +kernel)
set_option maxRecDepth 20000 in
theorem gX5_force_X1_netAt : GoodIn wsX5_force (wsV RX5 196 RX1 yX1_netAt wsX1_netAt) := goodIn_app (goodIn_of _ (by decide +kernel)) ggX5_force_X1_netAt
theorem dX5_force_0 : decode cX5_force 0 = .ok (.iload_n 1, 1) := by decide +kernel
theorem dX5_force_1 : decode cX5_force 1 = .ok (.invokestatic 131, 3) := by decide +kernel
theorem dX5_force_4 : decode cX5_force 4 = .ok (.ifCond .ne 5, 3) := by decide +kernel
theorem dX5_force_7 : decode cX5_force 7 = .ok (.iconst (-1), 1) := by decide +kernel
theorem dX5_force_8 : decode cX5_force 8 = .ok (.ireturn, 1) := by decide +kernel
theorem dX5_force_9 : decode cX5_force 9 = .ok (.iload_n 2, 1) := by decide +kernel
theorem dX5_force_10 : decode cX5_force 10 = .ok (.invokestatic 193, 3) := by decide +kernel
theorem dX5_force_13 : decode cX5_force 13 = .ok (.ifCond .ne 6, 3) := by decide +kernel
theorem dX5_force_16 : decode cX5_force 16 = .ok (.bipush (-2), 2) := by decide +kernel
theorem dX5_force_18 : decode cX5_force 18 = .ok (.ireturn, 1) := by decide +kernel
theorem dX5_force_19 : decode cX5_force 19 = .ok (.aload_n 0, 1) := by decide +kernel
theorem dX5_force_20 : decode cX5_force 20 = .ok (.getfield 10, 3) := by decide +kernel
theorem dX5_force_23 : decode cX5_force 23 = .ok (.getfield 135, 3) := by decide +kernel
theorem dX5_force_26 : decode cX5_force 26 = .ok (.iload_n 1, 1) := by decide +kernel
theorem dX5_force_27 : decode cX5_force 27 = .ok (.aaload, 1) := by decide +kernel
theorem dX5_force_28 : decode cX5_force 28 = .ok (.iload_n 2, 1) := by decide +kernel
theorem dX5_force_29 : decode cX5_force 29 = .ok (.invokevirtual 196, 3) := by decide +kernel
theorem dX5_force_32 : decode cX5_force 32 = .ok (.invokestatic 167, 3) := by decide +kernel
theorem dX5_force_35 : decode cX5_force 35 = .ok (.ireturn, 1) := by decide +kernel
set_option maxRecDepth 20000 in
theorem ggX5_restsIn_X5_isPair : GoodIn wsX5_restsIn wsX5_isPair := goodIn_r _ [7] (by decide +kernel) (by decide +kernel)
set_option maxRecDepth 20000 in
theorem gX5_restsIn_X5_isPair : GoodIn wsX5_restsIn (va_wsS RX5 131 yX5_isPair wsX5_isPair) := goodIn_app (goodIn_of _ (by decide +kernel)) ggX5_restsIn_X5_isPair
set_option maxRecDepth 20000 in
theorem ggX5_restsIn_X1_copyFrom : GoodIn wsX5_restsIn wsX1_copyFrom := goodIn_r _ [12, 13, 14, 15, 16, 17, 18, 19, 20, 21, 22, 23, 24, 84, 85, 86, 87, 88, 89, 90, 91] (by decide +kernel) (by decide +kernel)
set_option maxRecDepth 20000 in
theorem gX5_restsIn_X1_copyFrom : GoodIn wsX5_restsIn (wsV RX5 199 RX1 yX1_copyFrom wsX1_copyFrom) := goodIn_app (goodIn_of _ (by decide +kernel)) ggX5_restsIn_X1_copyFrom
set_option maxRecDepth 20000 in
theorem ggX5_restsIn_X1_movesInTick : GoodIn wsX5_restsIn wsX1_movesInTick := goodIn_r _ [28, 18, 29, 30, 31, 11, 32, 21, 19, 13, 23, 33, 34, 35, 36, 20, 37, 38, 39, 40, 41, 42, 43, 44, 45, 46, 47, 48, 49, 50, 51, 52, 53, 54, 55, 56, 57, 58, 59, 60, 61, 62, 63, 64, 65, 66, 67, 68, 22, 69, 84, 85, 86, 87, 88, 89, 90, 91] (by decide +kernel) (by decide +kernel)
set_option maxRecDepth 20000 in
theorem gX5_restsIn_X1_movesInTick : GoodIn wsX5_restsIn (wsV RX5 202 RX1 yX1_movesInTick wsX1_movesInTick) := goodIn_app (goodIn_of _ (by decide +kernel)) ggX5_restsIn_X1_movesInTick
theorem dX5_restsIn_0 : decode cX5_restsIn 0 = .ok (.iload_n 1, 1) := by decide +kernel
theorem dX5_restsIn_1 : decode cX5_restsIn 1 = .ok (.invokestatic 131, 3) := by decide +kernel
theorem dX5_restsIn_4 : decode cX5_restsIn 4 = .ok (.ifCond .ne 5, 3) := by decide +kernel
theorem dX5_restsIn_7 : decode cX5_restsIn 7 = .ok (.iconst (-1), 1) := by decide +kernel
theorem dX5_restsIn_8 : decode cX5_restsIn 8 = .ok (.ireturn, 1) := by decide +kernel
theorem dX5_restsIn_9 : decode cX5_restsIn 9 = .ok (.aload_n 0, 1) := by decide +kernel
theorem dX5_restsIn_10 : decode cX5_restsIn 10 = .ok (.getfield 32, 3) := by decide +kernel
theorem dX5_restsIn_13 : decode cX5_restsIn 13 = .ok (.aload_n 0, 1) := by decide +kernel
theorem dX5_restsIn_14 : decode cX5_restsIn 14 = .ok (.getfield 10, 3) := by decide +kernel
theorem dX5_restsIn_17 : decode cX5_restsIn 17 = .ok (.getfield 135, 3) := by decide +kernel
theorem dX5_restsIn_20 : decode cX5_restsIn 20 = .ok (.iload_n 1, 1) := by decide +kernel
theorem dX5_restsIn_21 : decode cX5_restsIn 21 = .ok (.aaload, 1) := by decide +kernel
theorem dX5_restsIn_22 : decode cX5_restsIn 22 = .ok (.invokevirtual 199, 3) := by decide +kernel
theorem dX5_restsIn_25 : decode cX5_restsIn 25 = .ok (.iconst 0, 1) := by decide +kernel
theorem dX5_restsIn_26 : decode cX5_restsIn 26 = .ok (.istore_n 2, 1) := by decide +kernel
theorem dX5_restsIn_27 : decode cX5_restsIn 27 = .ok (.iload_n 2, 1) := by decide +kernel
theorem dX5_restsIn_28 : decode cX5_restsIn 28 = .ok (.sipush 400, 3) := by decide +kernel
theorem dX5_restsIn_31 : decode cX5_restsIn 31 = .ok (.if_icmp .gt 21, 3) := by decide +kernel
theorem dX5_restsIn_34 : decode cX5_restsIn 34 = .ok (.aload_n 0, 1) := by decide +kernel
theorem dX5_restsIn_35 : decode cX5_restsIn 35 = .ok (.getfield 32, 3) := by decide +kernel
theorem dX5_restsIn_38 : decode cX5_restsIn 38 = .ok (.invokevirtual 202, 3) := by decide +kernel
theorem dX5_restsIn_41 : decode cX5_restsIn 41 = .ok (.ifCond .ne 5, 3) := by decide +kernel
theorem dX5_restsIn_44 : decode cX5_restsIn 44 = .ok (.iload_n 2, 1) := by decide +kernel
theorem dX5_restsIn_45 : decode cX5_restsIn 45 = .ok (.ireturn, 1) := by decide +kernel
theorem dX5_restsIn_46 : decode cX5_restsIn 46 = .ok (.iinc 2 1, 3) := by decide +kernel
theorem dX5_restsIn_49 : decode cX5_restsIn 49 = .ok (.goto (-22), 3) := by decide +kernel
theorem dX5_restsIn_52 : decode cX5_restsIn 52 = .ok (.bipush (-5), 2) := by decide +kernel
theorem dX5_restsIn_54 : decode cX5_restsIn 54 = .ok (.ireturn, 1) := by decide +kernel
set_option maxRecDepth 20000 in
theorem ggX5_depthIn_X5_isPair : GoodIn wsX5_depthIn wsX5_isPair := goodIn_r _ [8] (by decide +kernel) (by decide +kernel)
set_option maxRecDepth 20000 in
theorem gX5_depthIn_X5_isPair : GoodIn wsX5_depthIn (va_wsS RX5 131 yX5_isPair wsX5_isPair) := goodIn_app (goodIn_of _ (by decide +kernel)) ggX5_depthIn_X5_isPair
set_option maxRecDepth 20000 in
theorem ggX5_depthIn_X1_copyFrom : GoodIn wsX5_depthIn wsX1_copyFrom := goodIn_r _ [13, 14, 15, 16, 17, 18, 19, 20, 21, 22, 23, 24, 25, 85, 86, 87, 88, 89, 90, 91, 92] (by decide +kernel) (by decide +kernel)
set_option maxRecDepth 20000 in
theorem gX5_depthIn_X1_copyFrom : GoodIn wsX5_depthIn (wsV RX5 199 RX1 yX1_copyFrom wsX1_copyFrom) := goodIn_app (goodIn_of _ (by decide +kernel)) ggX5_depthIn_X1_copyFrom
set_option maxRecDepth 20000 in
theorem ggX5_depthIn_X1_movesInTick : GoodIn wsX5_depthIn wsX1_movesInTick := goodIn_r _ [29, 19, 30, 31, 32, 12, 33, 22, 20, 14, 24, 34, 35, 36, 37, 21, 38, 39, 40, 41, 42, 43, 44, 45, 46, 47, 48, 49, 50, 51, 52, 53, 54, 55, 56, 57, 58, 59, 60, 61, 62, 63, 64, 65, 66, 67, 68, 69, 23, 70, 85, 86, 87, 88, 89, 90, 91, 92] (by decide +kernel) (by decide +kernel)
set_option maxRecDepth 20000 in
theorem gX5_depthIn_X1_movesInTick : GoodIn wsX5_depthIn (wsV RX5 202 RX1 yX1_movesInTick wsX1_movesInTick) := goodIn_app (goodIn_of _ (by decide +kernel)) ggX5_depthIn_X1_movesInTick
theorem dX5_depthIn_0 : decode cX5_depthIn 0 = .ok (.iload_n 1, 1) := by decide +kernel
theorem dX5_depthIn_1 : decode cX5_depthIn 1 = .ok (.invokestatic 131, 3) := by decide +kernel
theorem dX5_depthIn_4 : decode cX5_depthIn 4 = .ok (.ifCond .ne 5, 3) := by decide +kernel
theorem dX5_depthIn_7 : decode cX5_depthIn 7 = .ok (.iconst (-1), 1) := by decide +kernel
theorem dX5_depthIn_8 : decode cX5_depthIn 8 = .ok (.ireturn, 1) := by decide +kernel
theorem dX5_depthIn_9 : decode cX5_depthIn 9 = .ok (.iload_n 2, 1) := by decide +kernel
theorem dX5_depthIn_10 : decode cX5_depthIn 10 = .ok (.iconst 1, 1) := by decide +kernel
theorem dX5_depthIn_11 : decode cX5_depthIn 11 = .ok (.if_icmp .lt 10, 3) := by decide +kernel
theorem dX5_depthIn_14 : decode cX5_depthIn 14 = .ok (.iload_n 2, 1) := by decide +kernel
theorem dX5_depthIn_15 : decode cX5_depthIn 15 = .ok (.sipush 400, 3) := by decide +kernel
theorem dX5_depthIn_18 : decode cX5_depthIn 18 = .ok (.if_icmp .le 6, 3) := by decide +kernel
theorem dX5_depthIn_21 : decode cX5_depthIn 21 = .ok (.bipush (-2), 2) := by decide +kernel
theorem dX5_depthIn_23 : decode cX5_depthIn 23 = .ok (.ireturn, 1) := by decide +kernel
theorem dX5_depthIn_24 : decode cX5_depthIn 24 = .ok (.aload_n 0, 1) := by decide +kernel
theorem dX5_depthIn_25 : decode cX5_depthIn 25 = .ok (.getfield 32, 3) := by decide +kernel
theorem dX5_depthIn_28 : decode cX5_depthIn 28 = .ok (.aload_n 0, 1) := by decide +kernel
theorem dX5_depthIn_29 : decode cX5_depthIn 29 = .ok (.getfield 10, 3) := by decide +kernel
theorem dX5_depthIn_32 : decode cX5_depthIn 32 = .ok (.getfield 135, 3) := by decide +kernel
theorem dX5_depthIn_35 : decode cX5_depthIn 35 = .ok (.iload_n 1, 1) := by decide +kernel
theorem dX5_depthIn_36 : decode cX5_depthIn 36 = .ok (.aaload, 1) := by decide +kernel
theorem dX5_depthIn_37 : decode cX5_depthIn 37 = .ok (.invokevirtual 199, 3) := by decide +kernel
theorem dX5_depthIn_40 : decode cX5_depthIn 40 = .ok (.iconst 0, 1) := by decide +kernel
theorem dX5_depthIn_41 : decode cX5_depthIn 41 = .ok (.istore_n 3, 1) := by decide +kernel
theorem dX5_depthIn_42 : decode cX5_depthIn 42 = .ok (.iload_n 3, 1) := by decide +kernel
theorem dX5_depthIn_43 : decode cX5_depthIn 43 = .ok (.iload_n 2, 1) := by decide +kernel
theorem dX5_depthIn_44 : decode cX5_depthIn 44 = .ok (.if_icmp .ge 17, 3) := by decide +kernel
theorem dX5_depthIn_47 : decode cX5_depthIn 47 = .ok (.aload_n 0, 1) := by decide +kernel
theorem dX5_depthIn_48 : decode cX5_depthIn 48 = .ok (.getfield 32, 3) := by decide +kernel
theorem dX5_depthIn_51 : decode cX5_depthIn 51 = .ok (.invokevirtual 202, 3) := by decide +kernel
theorem dX5_depthIn_54 : decode cX5_depthIn 54 = .ok (.pop, 1) := by decide +kernel
theorem dX5_depthIn_55 : decode cX5_depthIn 55 = .ok (.iinc 3 1, 3) := by decide +kernel
theorem dX5_depthIn_58 : decode cX5_depthIn 58 = .ok (.goto (-16), 3) := by decide +kernel
theorem dX5_depthIn_61 : decode cX5_depthIn 61 = .ok (.aload_n 0, 1) := by decide +kernel
theorem dX5_depthIn_62 : decode cX5_depthIn 62 = .ok (.getfield 32, 3) := by decide +kernel
theorem dX5_depthIn_65 : decode cX5_depthIn 65 = .ok (.getfield 146, 3) := by decide +kernel
theorem dX5_depthIn_68 : decode cX5_depthIn 68 = .ok (.ireturn, 1) := by decide +kernel
set_option maxRecDepth 20000 in
theorem ggX5_leastVoltage_X5_isPair : GoodIn wsX5_leastVoltage wsX5_isPair := goodIn_r _ [7] (by decide +kernel) (by decide +kernel)
set_option maxRecDepth 20000 in
theorem gX5_leastVoltage_X5_isPair : GoodIn wsX5_leastVoltage (va_wsS RX5 131 yX5_isPair wsX5_isPair) := goodIn_app (goodIn_of _ (by decide +kernel)) ggX5_leastVoltage_X5_isPair
set_option maxRecDepth 20000 in
theorem ggX5_leastVoltage_X1_isDrawnInAt : GoodIn wsX5_leastVoltage wsX1_isDrawnInAt := goodIn_r _ [12, 13, 14, 15, 16, 11, 17, 18, 19, 20, 21, 36, 37, 38, 39, 40, 41, 42, 43] (by decide +kernel) (by decide +kernel)
set_option maxRecDepth 20000 in
theorem gX5_leastVoltage_X1_isDrawnInAt : GoodIn wsX5_leastVoltage (wsV RX5 206 RX1 yX1_isDrawnInAt wsX1_isDrawnInAt) := goodIn_app (goodIn_of _ (by decide +kernel)) ggX5_leastVoltage_X1_isDrawnInAt
theorem dX5_leastVoltage_0 : decode cX5_leastVoltage 0 = .ok (.iload_n 1, 1) := by decide +kernel
theorem dX5_leastVoltage_1 : decode cX5_leastVoltage 1 = .ok (.invokestatic 131, 3) := by decide +kernel
theorem dX5_leastVoltage_4 : decode cX5_leastVoltage 4 = .ok (.ifCond .ne 5, 3) := by decide +kernel
theorem dX5_leastVoltage_7 : decode cX5_leastVoltage 7 = .ok (.iconst (-1), 1) := by decide +kernel
theorem dX5_leastVoltage_8 : decode cX5_leastVoltage 8 = .ok (.ireturn, 1) := by decide +kernel
theorem dX5_leastVoltage_9 : decode cX5_leastVoltage 9 = .ok (.aload_n 0, 1) := by decide +kernel
theorem dX5_leastVoltage_10 : decode cX5_leastVoltage 10 = .ok (.getfield 10, 3) := by decide +kernel
theorem dX5_leastVoltage_13 : decode cX5_leastVoltage 13 = .ok (.getfield 135, 3) := by decide +kernel
theorem dX5_leastVoltage_16 : decode cX5_leastVoltage 16 = .ok (.iload_n 1, 1) := by decide +kernel
theorem dX5_leastVoltage_17 : decode cX5_leastVoltage 17 = .ok (.aaload, 1) := by decide +kernel
theorem dX5_leastVoltage_18 : decode cX5_leastVoltage 18 = .ok (.astore_n 2, 1) := by decide +kernel
theorem dX5_leastVoltage_19 : decode cX5_leastVoltage 19 = .ok (.iconst 0, 1) := by decide +kernel
theorem dX5_leastVoltage_20 : decode cX5_leastVoltage 20 = .ok (.istore_n 3, 1) := by decide +kernel
theorem dX5_leastVoltage_21 : decode cX5_leastVoltage 21 = .ok (.iload_n 3, 1) := by decide +kernel
theorem dX5_leastVoltage_22 : decode cX5_leastVoltage 22 = .ok (.bipush 30, 2) := by decide +kernel
theorem dX5_leastVoltage_24 : decode cX5_leastVoltage 24 = .ok (.if_icmp .gt 23, 3) := by decide +kernel
theorem dX5_leastVoltage_27 : decode cX5_leastVoltage 27 = .ok (.aload_n 2, 1) := by decide +kernel
theorem dX5_leastVoltage_28 : decode cX5_leastVoltage 28 = .ok (.aload_n 2, 1) := by decide +kernel
theorem dX5_leastVoltage_29 : decode cX5_leastVoltage 29 = .ok (.getfield 146, 3) := by decide +kernel
theorem dX5_leastVoltage_32 : decode cX5_leastVoltage 32 = .ok (.iload_n 3, 1) := by decide +kernel
theorem dX5_leastVoltage_33 : decode cX5_leastVoltage 33 = .ok (.invokevirtual 206, 3) := by decide +kernel
theorem dX5_leastVoltage_36 : decode cX5_leastVoltage 36 = .ok (.ifCond .eq 5, 3) := by decide +kernel
theorem dX5_leastVoltage_39 : decode cX5_leastVoltage 39 = .ok (.iload_n 3, 1) := by decide +kernel
theorem dX5_leastVoltage_40 : decode cX5_leastVoltage 40 = .ok (.ireturn, 1) := by decide +kernel
theorem dX5_leastVoltage_41 : decode cX5_leastVoltage 41 = .ok (.iinc 3 1, 3) := by decide +kernel
theorem dX5_leastVoltage_44 : decode cX5_leastVoltage 44 = .ok (.goto (-23), 3) := by decide +kernel
theorem dX5_leastVoltage_47 : decode cX5_leastVoltage 47 = .ok (.bipush (-5), 2) := by decide +kernel
theorem dX5_leastVoltage_49 : decode cX5_leastVoltage 49 = .ok (.ireturn, 1) := by decide +kernel
set_option maxRecDepth 20000 in
theorem ggX5_drawingVoltage_X5_isPair : GoodIn wsX5_drawingVoltage wsX5_isPair := goodIn_r _ [6] (by decide +kernel) (by decide +kernel)
set_option maxRecDepth 20000 in
theorem gX5_drawingVoltage_X5_isPair : GoodIn wsX5_drawingVoltage (va_wsS RX5 131 yX5_isPair wsX5_isPair) := goodIn_app (goodIn_of _ (by decide +kernel)) ggX5_drawingVoltage_X5_isPair
set_option maxRecDepth 20000 in
theorem ggX5_drawingVoltage_X1_isDrawnAllTheWayIn : GoodIn wsX5_drawingVoltage wsX1_isDrawnAllTheWayIn := goodIn_r _ [11, 12, 13, 14, 15, 10, 16, 17, 18, 19, 20, 21, 22, 23, 24, 25, 40, 41, 42, 43, 44, 45, 46, 47] (by decide +kernel) (by decide +kernel)
set_option maxRecDepth 20000 in
theorem gX5_drawingVoltage_X1_isDrawnAllTheWayIn : GoodIn wsX5_drawingVoltage (wsV RX5 210 RX1 yX1_isDrawnAllTheWayIn wsX1_isDrawnAllTheWayIn) := goodIn_app (goodIn_of _ (by decide +kernel)) ggX5_drawingVoltage_X1_isDrawnAllTheWayIn
theorem dX5_drawingVoltage_0 : decode cX5_drawingVoltage 0 = .ok (.iload_n 1, 1) := by decide +kernel
theorem dX5_drawingVoltage_1 : decode cX5_drawingVoltage 1 = .ok (.invokestatic 131, 3) := by decide +kernel
theorem dX5_drawingVoltage_4 : decode cX5_drawingVoltage 4 = .ok (.ifCond .ne 5, 3) := by decide +kernel
theorem dX5_drawingVoltage_7 : decode cX5_drawingVoltage 7 = .ok (.iconst (-1), 1) := by decide +kernel
theorem dX5_drawingVoltage_8 : decode cX5_drawingVoltage 8 = .ok (.ireturn, 1) := by decide +kernel
theorem dX5_drawingVoltage_9 : decode cX5_drawingVoltage 9 = .ok (.iconst 0, 1) := by decide +kernel
theorem dX5_drawingVoltage_10 : decode cX5_drawingVoltage 10 = .ok (.istore_n 2, 1) := by decide +kernel
theorem dX5_drawingVoltage_11 : decode cX5_drawingVoltage 11 = .ok (.iload_n 2, 1) := by decide +kernel
theorem dX5_drawingVoltage_12 : decode cX5_drawingVoltage 12 = .ok (.bipush 30, 2) := by decide +kernel
theorem dX5_drawingVoltage_14 : decode cX5_drawingVoltage 14 = .ok (.if_icmp .gt 27, 3) := by decide +kernel
theorem dX5_drawingVoltage_17 : decode cX5_drawingVoltage 17 = .ok (.aload_n 0, 1) := by decide +kernel
theorem dX5_drawingVoltage_18 : decode cX5_drawingVoltage 18 = .ok (.getfield 10, 3) := by decide +kernel
theorem dX5_drawingVoltage_21 : decode cX5_drawingVoltage 21 = .ok (.getfield 135, 3) := by decide +kernel
theorem dX5_drawingVoltage_24 : decode cX5_drawingVoltage 24 = .ok (.iload_n 1, 1) := by decide +kernel
theorem dX5_drawingVoltage_25 : decode cX5_drawingVoltage 25 = .ok (.aaload, 1) := by decide +kernel
theorem dX5_drawingVoltage_26 : decode cX5_drawingVoltage 26 = .ok (.iload_n 2, 1) := by decide +kernel
theorem dX5_drawingVoltage_27 : decode cX5_drawingVoltage 27 = .ok (.invokevirtual 210, 3) := by decide +kernel
theorem dX5_drawingVoltage_30 : decode cX5_drawingVoltage 30 = .ok (.ifCond .eq 5, 3) := by decide +kernel
theorem dX5_drawingVoltage_33 : decode cX5_drawingVoltage 33 = .ok (.iload_n 2, 1) := by decide +kernel
theorem dX5_drawingVoltage_34 : decode cX5_drawingVoltage 34 = .ok (.ireturn, 1) := by decide +kernel
theorem dX5_drawingVoltage_35 : decode cX5_drawingVoltage 35 = .ok (.iinc 2 1, 3) := by decide +kernel
theorem dX5_drawingVoltage_38 : decode cX5_drawingVoltage 38 = .ok (.goto (-27), 3) := by decide +kernel
theorem dX5_drawingVoltage_41 : decode cX5_drawingVoltage 41 = .ok (.bipush (-5), 2) := by decide +kernel
theorem dX5_drawingVoltage_43 : decode cX5_drawingVoltage 43 = .ok (.ireturn, 1) := by decide +kernel
set_option maxRecDepth 20000 in
theorem ggX5_strongest_X1_pullAt : GoodIn wsX5_strongest wsX1_pullAt := goodIn_r _ [8, 9, 10, 11, 12, 13, 14, 15, 7, 16, 17, 18, 19, 20, 35, 36, 37, 38, 39, 40, 41, 42] (by decide +kernel) (by decide +kernel)
set_option maxRecDepth 20000 in
theorem gX5_strongest_X1_pullAt : GoodIn wsX5_strongest (wsV RX5 161 RX1 yX1_pullAt wsX1_pullAt) := goodIn_app (goodIn_of _ (by decide +kernel)) ggX5_strongest_X1_pullAt
theorem dX5_strongest_0 : decode cX5_strongest 0 = .ok (.iconst 0, 1) := by decide +kernel
theorem dX5_strongest_1 : decode cX5_strongest 1 = .ok (.istore_n 1, 1) := by decide +kernel
theorem dX5_strongest_2 : decode cX5_strongest 2 = .ok (.bipush (-5), 2) := by decide +kernel
theorem dX5_strongest_4 : decode cX5_strongest 4 = .ok (.istore_n 2, 1) := by decide +kernel
theorem dX5_strongest_5 : decode cX5_strongest 5 = .ok (.iconst 0, 1) := by decide +kernel
theorem dX5_strongest_6 : decode cX5_strongest 6 = .ok (.istore_n 3, 1) := by decide +kernel
theorem dX5_strongest_7 : decode cX5_strongest 7 = .ok (.iload_n 3, 1) := by decide +kernel
theorem dX5_strongest_8 : decode cX5_strongest 8 = .ok (.iconst 4, 1) := by decide +kernel
theorem dX5_strongest_9 : decode cX5_strongest 9 = .ok (.if_icmp .ge 43, 3) := by decide +kernel
theorem dX5_strongest_12 : decode cX5_strongest 12 = .ok (.aload_n 0, 1) := by decide +kernel
theorem dX5_strongest_13 : decode cX5_strongest 13 = .ok (.getfield 10, 3) := by decide +kernel
theorem dX5_strongest_16 : decode cX5_strongest 16 = .ok (.getfield 135, 3) := by decide +kernel
theorem dX5_strongest_19 : decode cX5_strongest 19 = .ok (.iload_n 3, 1) := by decide +kernel
theorem dX5_strongest_20 : decode cX5_strongest 20 = .ok (.aaload, 1) := by decide +kernel
theorem dX5_strongest_21 : decode cX5_strongest 21 = .ok (.astore 4, 2) := by decide +kernel
theorem dX5_strongest_23 : decode cX5_strongest 23 = .ok (.aload 4, 2) := by decide +kernel
theorem dX5_strongest_25 : decode cX5_strongest 25 = .ok (.aload 4, 2) := by decide +kernel
theorem dX5_strongest_27 : decode cX5_strongest 27 = .ok (.getfield 146, 3) := by decide +kernel
theorem dX5_strongest_30 : decode cX5_strongest 30 = .ok (.invokevirtual 161, 3) := by decide +kernel
theorem dX5_strongest_33 : decode cX5_strongest 33 = .ok (.istore 5, 2) := by decide +kernel
theorem dX5_strongest_35 : decode cX5_strongest 35 = .ok (.iload 5, 2) := by decide +kernel
theorem dX5_strongest_37 : decode cX5_strongest 37 = .ok (.iload_n 1, 1) := by decide +kernel
theorem dX5_strongest_38 : decode cX5_strongest 38 = .ok (.if_icmp .le 8, 3) := by decide +kernel
theorem dX5_strongest_41 : decode cX5_strongest 41 = .ok (.iload 5, 2) := by decide +kernel
theorem dX5_strongest_43 : decode cX5_strongest 43 = .ok (.istore_n 1, 1) := by decide +kernel
theorem dX5_strongest_44 : decode cX5_strongest 44 = .ok (.iload_n 3, 1) := by decide +kernel
theorem dX5_strongest_45 : decode cX5_strongest 45 = .ok (.istore_n 2, 1) := by decide +kernel
theorem dX5_strongest_46 : decode cX5_strongest 46 = .ok (.iinc 3 1, 3) := by decide +kernel
theorem dX5_strongest_49 : decode cX5_strongest 49 = .ok (.goto (-42), 3) := by decide +kernel
theorem dX5_strongest_52 : decode cX5_strongest 52 = .ok (.iload_n 2, 1) := by decide +kernel
theorem dX5_strongest_53 : decode cX5_strongest 53 = .ok (.ireturn, 1) := by decide +kernel
set_option maxRecDepth 20000 in
theorem ggX5_count_X5_sumOfPairs : GoodIn wsX5_count wsX5_sumOfPairs := goodIn_r _ [14, 1, 15, 16, 17, 13, 18, 19, 20, 21, 22, 23, 24, 25, 26, 27, 28, 29, 30, 31, 32, 33, 34, 35, 36, 37, 38, 39, 40, 41, 42, 43, 44, 45, 46, 47, 48, 49, 50, 51, 52, 53, 54, 55, 56, 57, 58, 59, 60, 61, 62, 63, 64, 65, 66, 67, 68, 69, 70, 71, 72, 73, 74, 87, 88, 89, 90, 91, 92, 93, 94] (by decide +kernel) (by decide +kernel)
set_option maxRecDepth 20000 in
theorem gX5_count_X5_sumOfPairs : GoodIn wsX5_count (wsV RX5 225 RX5 yX5_sumOfPairs wsX5_sumOfPairs) := goodIn_app (goodIn_of _ (by decide +kernel)) ggX5_count_X5_sumOfPairs
theorem dX5_count_0 : decode cX5_count 0 = .ok (.iload_n 1, 1) := by decide +kernel
theorem dX5_count_1 : decode cX5_count 1 = .ok (.tableswitch 102 0 10 #[59, 102, 102, 102, 102, 102, 102, 67, 75, 83, 91], 59) := by decide +kernel
theorem dX5_count_60 : decode cX5_count 60 = .ok (.aload_n 0, 1) := by decide +kernel
theorem dX5_count_61 : decode cX5_count 61 = .ok (.getfield 10, 3) := by decide +kernel
theorem dX5_count_64 : decode cX5_count 64 = .ok (.getfield 128, 3) := by decide +kernel
theorem dX5_count_67 : decode cX5_count 67 = .ok (.ireturn, 1) := by decide +kernel
theorem dX5_count_68 : decode cX5_count 68 = .ok (.aload_n 0, 1) := by decide +kernel
theorem dX5_count_69 : decode cX5_count 69 = .ok (.getfield 10, 3) := by decide +kernel
theorem dX5_count_72 : decode cX5_count 72 = .ok (.getfield 213, 3) := by decide +kernel
theorem dX5_count_75 : decode cX5_count 75 = .ok (.ireturn, 1) := by decide +kernel
theorem dX5_count_76 : decode cX5_count 76 = .ok (.aload_n 0, 1) := by decide +kernel
theorem dX5_count_77 : decode cX5_count 77 = .ok (.getfield 10, 3) := by decide +kernel
theorem dX5_count_80 : decode cX5_count 80 = .ok (.getfield 216, 3) := by decide +kernel
theorem dX5_count_83 : decode cX5_count 83 = .ok (.ireturn, 1) := by decide +kernel
theorem dX5_count_84 : decode cX5_count 84 = .ok (.aload_n 0, 1) := by decide +kernel
theorem dX5_count_85 : decode cX5_count 85 = .ok (.getfield 25, 3) := by decide +kernel
theorem dX5_count_88 : decode cX5_count 88 = .ok (.getfield 219, 3) := by decide +kernel
theorem dX5_count_91 : decode cX5_count 91 = .ok (.ireturn, 1) := by decide +kernel
theorem dX5_count_92 : decode cX5_count 92 = .ok (.aload_n 0, 1) := by decide +kernel
theorem dX5_count_93 : decode cX5_count 93 = .ok (.getfield 39, 3) := by decide +kernel
theorem dX5_count_96 : decode cX5_count 96 = .ok (.getfield 74, 3) := by decide +kernel
theorem dX5_count_99 : decode cX5_count 99 = .ok (.getfield 222, 3) := by decide +kernel
theorem dX5_count_102 : decode cX5_count 102 = .ok (.ireturn, 1) := by decide +kernel
theorem dX5_count_103 : decode cX5_count 103 = .ok (.iload_n 1, 1) := by decide +kernel
theorem dX5_count_104 : decode cX5_count 104 = .ok (.iconst 1, 1) := by decide +kernel
theorem dX5_count_105 : decode cX5_count 105 = .ok (.if_icmp .lt 17, 3) := by decide +kernel
theorem dX5_count_108 : decode cX5_count 108 = .ok (.iload_n 1, 1) := by decide +kernel
theorem dX5_count_109 : decode cX5_count 109 = .ok (.bipush 6, 2) := by decide +kernel
theorem dX5_count_111 : decode cX5_count 111 = .ok (.if_icmp .gt 11, 3) := by decide +kernel
theorem dX5_count_114 : decode cX5_count 114 = .ok (.aload_n 0, 1) := by decide +kernel
theorem dX5_count_115 : decode cX5_count 115 = .ok (.iload_n 1, 1) := by decide +kernel
theorem dX5_count_116 : decode cX5_count 116 = .ok (.invokevirtual 225, 3) := by decide +kernel
theorem dX5_count_119 : decode cX5_count 119 = .ok (.goto 5, 3) := by decide +kernel
theorem dX5_count_122 : decode cX5_count 122 = .ok (.bipush (-2), 2) := by decide +kernel
theorem dX5_count_124 : decode cX5_count 124 = .ok (.ireturn, 1) := by decide +kernel
set_option maxRecDepth 20000 in
theorem ggX5_sumOfPairs_X5_partOfCount : GoodIn wsX5_sumOfPairs wsX5_partOfCount := goodIn_r _ [6, 7, 8, 9, 10, 11, 12, 13, 14, 15, 16, 17, 18, 19, 20, 21, 22, 23, 24, 25, 26, 27, 28, 29, 30, 31, 32, 33, 34, 35, 36, 37, 38, 39, 40, 41, 42, 43, 44, 45, 46, 47, 48, 63, 64, 65, 66, 67, 68, 69, 70] (by decide +kernel) (by decide +kernel)
set_option maxRecDepth 20000 in
theorem gX5_sumOfPairs_X5_partOfCount : GoodIn wsX5_sumOfPairs (va_wsS RX5 228 yX5_partOfCount wsX5_partOfCount) := goodIn_app (goodIn_of _ (by decide +kernel)) ggX5_sumOfPairs_X5_partOfCount
theorem dX5_sumOfPairs_0 : decode cX5_sumOfPairs 0 = .ok (.iconst 0, 1) := by decide +kernel
theorem dX5_sumOfPairs_1 : decode cX5_sumOfPairs 1 = .ok (.istore_n 2, 1) := by decide +kernel
theorem dX5_sumOfPairs_2 : decode cX5_sumOfPairs 2 = .ok (.iconst 0, 1) := by decide +kernel
theorem dX5_sumOfPairs_3 : decode cX5_sumOfPairs 3 = .ok (.istore_n 3, 1) := by decide +kernel
theorem dX5_sumOfPairs_4 : decode cX5_sumOfPairs 4 = .ok (.iload_n 3, 1) := by decide +kernel
theorem dX5_sumOfPairs_5 : decode cX5_sumOfPairs 5 = .ok (.iconst 4, 1) := by decide +kernel
theorem dX5_sumOfPairs_6 : decode cX5_sumOfPairs 6 = .ok (.if_icmp .ge 25, 3) := by decide +kernel
theorem dX5_sumOfPairs_9 : decode cX5_sumOfPairs 9 = .ok (.iload_n 2, 1) := by decide +kernel
theorem dX5_sumOfPairs_10 : decode cX5_sumOfPairs 10 = .ok (.aload_n 0, 1) := by decide +kernel
theorem dX5_sumOfPairs_11 : decode cX5_sumOfPairs 11 = .ok (.getfield 10, 3) := by decide +kernel
theorem dX5_sumOfPairs_14 : decode cX5_sumOfPairs 14 = .ok (.getfield 135, 3) := by decide +kernel
theorem dX5_sumOfPairs_17 : decode cX5_sumOfPairs 17 = .ok (.iload_n 3, 1) := by decide +kernel
theorem dX5_sumOfPairs_18 : decode cX5_sumOfPairs 18 = .ok (.aaload, 1) := by decide +kernel
theorem dX5_sumOfPairs_19 : decode cX5_sumOfPairs 19 = .ok (.iload_n 1, 1) := by decide +kernel
theorem dX5_sumOfPairs_20 : decode cX5_sumOfPairs 20 = .ok (.invokestatic 228, 3) := by decide +kernel
theorem dX5_sumOfPairs_23 : decode cX5_sumOfPairs 23 = .ok (.iadd, 1) := by decide +kernel
theorem dX5_sumOfPairs_24 : decode cX5_sumOfPairs 24 = .ok (.istore_n 2, 1) := by decide +kernel
theorem dX5_sumOfPairs_25 : decode cX5_sumOfPairs 25 = .ok (.iinc 3 1, 3) := by decide +kernel
theorem dX5_sumOfPairs_28 : decode cX5_sumOfPairs 28 = .ok (.goto (-24), 3) := by decide +kernel
theorem dX5_sumOfPairs_31 : decode cX5_sumOfPairs 31 = .ok (.iload_n 2, 1) := by decide +kernel
theorem dX5_sumOfPairs_32 : decode cX5_sumOfPairs 32 = .ok (.ireturn, 1) := by decide +kernel
set_option maxRecDepth 20000 in
theorem ggX5_partOfCount_X1_reasonNow : GoodIn wsX5_partOfCount wsX1_reasonNow := goodIn_r _ [8, 9, 10, 11, 12, 13, 14, 15, 16, 17, 7, 18, 19, 20, 21, 22, 23, 24, 25, 26, 27, 28, 29, 30, 31, 32, 33, 34, 35, 36, 37, 38, 39, 40, 41, 43, 44, 45, 46, 47, 48, 49, 50] (by decide +kernel) (by decide +kernel)
set_option maxRecDepth 20000 in
theorem gX5_partOfCount_X1_reasonNow : GoodIn wsX5_partOfCount (wsV RX5 190 RX1 yX1_reasonNow wsX1_reasonNow) := goodIn_app (goodIn_of _ (by decide +kernel)) ggX5_partOfCount_X1_reasonNow
set_option maxRecDepth 20000 in
theorem ggX5_partOfCount_X1_capacityAt : GoodIn wsX5_partOfCount wsX1_capacityAt := goodIn_r _ [33, 14, 43, 44, 45, 46, 47, 48, 49, 50] (by decide +kernel) (by decide +kernel)
set_option maxRecDepth 20000 in
theorem gX5_partOfCount_X1_capacityAt : GoodIn wsX5_partOfCount (wsV RX5 149 RX1 yX1_capacityAt wsX1_capacityAt) := goodIn_app (goodIn_of _ (by decide +kernel)) ggX5_partOfCount_X1_capacityAt
theorem dX5_partOfCount_0 : decode cX5_partOfCount 0 = .ok (.iload_n 1, 1) := by decide +kernel
theorem dX5_partOfCount_1 : decode cX5_partOfCount 1 = .ok (.tableswitch 81 1 5 #[35, 48, 62, 67, 76], 35) := by decide +kernel
theorem dX5_partOfCount_36 : decode cX5_partOfCount 36 = .ok (.aload_n 0, 1) := by decide +kernel
theorem dX5_partOfCount_37 : decode cX5_partOfCount 37 = .ok (.getfield 158, 3) := by decide +kernel
theorem dX5_partOfCount_40 : decode cX5_partOfCount 40 = .ok (.ifCond .eq 7, 3) := by decide +kernel
theorem dX5_partOfCount_43 : decode cX5_partOfCount 43 = .ok (.iconst 1, 1) := by decide +kernel
theorem dX5_partOfCount_44 : decode cX5_partOfCount 44 = .ok (.goto 4, 3) := by decide +kernel
theorem dX5_partOfCount_47 : decode cX5_partOfCount 47 = .ok (.iconst 0, 1) := by decide +kernel
theorem dX5_partOfCount_48 : decode cX5_partOfCount 48 = .ok (.ireturn, 1) := by decide +kernel
theorem dX5_partOfCount_49 : decode cX5_partOfCount 49 = .ok (.aload_n 0, 1) := by decide +kernel
theorem dX5_partOfCount_50 : decode cX5_partOfCount 50 = .ok (.invokevirtual 190, 3) := by decide +kernel
theorem dX5_partOfCount_53 : decode cX5_partOfCount 53 = .ok (.iconst 1, 1) := by decide +kernel
theorem dX5_partOfCount_54 : decode cX5_partOfCount 54 = .ok (.if_icmp .gt 7, 3) := by decide +kernel
theorem dX5_partOfCount_57 : decode cX5_partOfCount 57 = .ok (.iconst 1, 1) := by decide +kernel
theorem dX5_partOfCount_58 : decode cX5_partOfCount 58 = .ok (.goto 4, 3) := by decide +kernel
theorem dX5_partOfCount_61 : decode cX5_partOfCount 61 = .ok (.iconst 0, 1) := by decide +kernel
theorem dX5_partOfCount_62 : decode cX5_partOfCount 62 = .ok (.ireturn, 1) := by decide +kernel
theorem dX5_partOfCount_63 : decode cX5_partOfCount 63 = .ok (.aload_n 0, 1) := by decide +kernel
theorem dX5_partOfCount_64 : decode cX5_partOfCount 64 = .ok (.getfield 152, 3) := by decide +kernel
theorem dX5_partOfCount_67 : decode cX5_partOfCount 67 = .ok (.ireturn, 1) := by decide +kernel
theorem dX5_partOfCount_68 : decode cX5_partOfCount 68 = .ok (.aload_n 0, 1) := by decide +kernel
theorem dX5_partOfCount_69 : decode cX5_partOfCount 69 = .ok (.aload_n 0, 1) := by decide +kernel
theorem dX5_partOfCount_70 : decode cX5_partOfCount 70 = .ok (.getfield 146, 3) := by decide +kernel
theorem dX5_partOfCount_73 : decode cX5_partOfCount 73 = .ok (.invokevirtual 149, 3) := by decide +kernel
theorem dX5_partOfCount_76 : decode cX5_partOfCount 76 = .ok (.ireturn, 1) := by decide +kernel
theorem dX5_partOfCount_77 : decode cX5_partOfCount 77 = .ok (.aload_n 0, 1) := by decide +kernel
theorem dX5_partOfCount_78 : decode cX5_partOfCount 78 = .ok (.getfield 146, 3) := by decide +kernel
theorem dX5_partOfCount_81 : decode cX5_partOfCount 81 = .ok (.ireturn, 1) := by decide +kernel
theorem dX5_partOfCount_82 : decode cX5_partOfCount 82 = .ok (.aload_n 0, 1) := by decide +kernel
theorem dX5_partOfCount_83 : decode cX5_partOfCount 83 = .ok (.getfield 146, 3) := by decide +kernel
theorem dX5_partOfCount_86 : decode cX5_partOfCount 86 = .ok (.bipush 40, 2) := by decide +kernel
theorem dX5_partOfCount_88 : decode cX5_partOfCount 88 = .ok (.if_icmp .ne 7, 3) := by decide +kernel
theorem dX5_partOfCount_91 : decode cX5_partOfCount 91 = .ok (.iconst 1, 1) := by decide +kernel
theorem dX5_partOfCount_92 : decode cX5_partOfCount 92 = .ok (.goto 4, 3) := by decide +kernel
theorem dX5_partOfCount_95 : decode cX5_partOfCount 95 = .ok (.iconst 0, 1) := by decide +kernel
theorem dX5_partOfCount_96 : decode cX5_partOfCount 96 = .ok (.ireturn, 1) := by decide +kernel
theorem dX5_isPair_0 : decode cX5_isPair 0 = .ok (.iload_n 0, 1) := by decide +kernel
theorem dX5_isPair_1 : decode cX5_isPair 1 = .ok (.ifCond .lt 12, 3) := by decide +kernel
theorem dX5_isPair_4 : decode cX5_isPair 4 = .ok (.iload_n 0, 1) := by decide +kernel
theorem dX5_isPair_5 : decode cX5_isPair 5 = .ok (.iconst 4, 1) := by decide +kernel
theorem dX5_isPair_6 : decode cX5_isPair 6 = .ok (.if_icmp .ge 7, 3) := by decide +kernel
theorem dX5_isPair_9 : decode cX5_isPair 9 = .ok (.iconst 1, 1) := by decide +kernel
theorem dX5_isPair_10 : decode cX5_isPair 10 = .ok (.goto 4, 3) := by decide +kernel
theorem dX5_isPair_13 : decode cX5_isPair 13 = .ok (.iconst 0, 1) := by decide +kernel
theorem dX5_isPair_14 : decode cX5_isPair 14 = .ok (.ireturn, 1) := by decide +kernel
theorem dX5_isDepth_0 : decode cX5_isDepth 0 = .ok (.iload_n 0, 1) := by decide +kernel
theorem dX5_isDepth_1 : decode cX5_isDepth 1 = .ok (.ifCond .lt 13, 3) := by decide +kernel
theorem dX5_isDepth_4 : decode cX5_isDepth 4 = .ok (.iload_n 0, 1) := by decide +kernel
theorem dX5_isDepth_5 : decode cX5_isDepth 5 = .ok (.bipush 40, 2) := by decide +kernel
theorem dX5_isDepth_7 : decode cX5_isDepth 7 = .ok (.if_icmp .gt 7, 3) := by decide +kernel
theorem dX5_isDepth_10 : decode cX5_isDepth 10 = .ok (.iconst 1, 1) := by decide +kernel
theorem dX5_isDepth_11 : decode cX5_isDepth 11 = .ok (.goto 4, 3) := by decide +kernel
theorem dX5_isDepth_14 : decode cX5_isDepth 14 = .ok (.iconst 0, 1) := by decide +kernel
theorem dX5_isDepth_15 : decode cX5_isDepth 15 = .ok (.ireturn, 1) := by decide +kernel
end
section
set_option maxRecDepth 20000 in
theorem ggX6_init_X6_at : GoodIn wsX6_init wsX6_at := goodIn_r _ [20] (by decide +kernel) (by decide +kernel)
set_option maxRecDepth 20000 in
theorem gX6_init_X6_at : GoodIn wsX6_init (va_wsS RX6 45 yX6_at wsX6_at) := goodIn_app (goodIn_of _ (by decide +kernel)) ggX6_init_X6_at
theorem dX6_init_0 : decode cX6_init 0 = .ok (.aload_n 0, 1) := by decide +kernel
theorem dX6_init_1 : decode cX6_init 1 = .ok (.invokespecial 1, 3) := by decide +kernel
theorem dX6_init_4 : decode cX6_init 4 = .ok (.aload_n 0, 1) := by decide +kernel
theorem dX6_init_5 : decode cX6_init 5 = .ok (.bipush 43, 2) := by decide +kernel
theorem dX6_init_7 : decode cX6_init 7 = .ok (.newarray .int, 2) := by decide +kernel
theorem dX6_init_9 : decode cX6_init 9 = .ok (.putfield 7, 3) := by decide +kernel
theorem dX6_init_12 : decode cX6_init 12 = .ok (.aload_n 0, 1) := by decide +kernel
theorem dX6_init_13 : decode cX6_init 13 = .ok (.bipush 12, 2) := by decide +kernel
theorem dX6_init_15 : decode cX6_init 15 = .ok (.newarray .long, 2) := by decide +kernel
theorem dX6_init_17 : decode cX6_init 17 = .ok (.putfield 13, 3) := by decide +kernel
theorem dX6_init_20 : decode cX6_init 20 = .ok (.aload_n 0, 1) := by decide +kernel
theorem dX6_init_21 : decode cX6_init 21 = .ok (.bipush 43, 2) := by decide +kernel
theorem dX6_init_23 : decode cX6_init 23 = .ok (.newarray .int, 2) := by decide +kernel
theorem dX6_init_25 : decode cX6_init 25 = .ok (.putfield 17, 3) := by decide +kernel
theorem dX6_init_28 : decode cX6_init 28 = .ok (.aload_n 0, 1) := by decide +kernel
theorem dX6_init_29 : decode cX6_init 29 = .ok (.bipush 12, 2) := by decide +kernel
theorem dX6_init_31 : decode cX6_init 31 = .ok (.newarray .long, 2) := by decide +kernel
theorem dX6_init_33 : decode cX6_init 33 = .ok (.putfield 20, 3) := by decide +kernel
theorem dX6_init_36 : decode cX6_init 36 = .ok (.aload_n 0, 1) := by decide +kernel
theorem dX6_init_37 : decode cX6_init 37 = .ok (.bipush 43, 2) := by decide +kernel
theorem dX6_init_39 : decode cX6_init 39 = .ok (.newarray .int, 2) := by decide +kernel
theorem dX6_init_41 : decode cX6_init 41 = .ok (.putfield 23, 3) := by decide +kernel
theorem dX6_init_44 : decode cX6_init 44 = .ok (.aload_n 0, 1) := by decide +kernel
theorem dX6_init_45 : decode cX6_init 45 = .ok (.bipush 12, 2) := by decide +kernel
theorem dX6_init_47 : decode cX6_init 47 = .ok (.newarray .long, 2) := by decide +kernel
theorem dX6_init_49 : decode cX6_init 49 = .ok (.putfield 26, 3) := by decide +kernel
theorem dX6_init_52 : decode cX6_init 52 = .ok (.aload_n 0, 1) := by decide +kernel
theorem dX6_init_53 : decode cX6_init 53 = .ok (.sipush 172, 3) := by decide +kernel
theorem dX6_init_56 : decode cX6_init 56 = .ok (.newarray .int, 2) := by decide +kernel
theorem dX6_init_58 : decode cX6_init 58 = .ok (.putfield 29, 3) := by decide +kernel
theorem dX6_init_61 : decode cX6_init 61 = .ok (.aload_n 0, 1) := by decide +kernel
theorem dX6_init_62 : decode cX6_init 62 = .ok (.bipush 48, 2) := by decide +kernel
theorem dX6_init_64 : decode cX6_init 64 = .ok (.newarray .long, 2) := by decide +kernel
theorem dX6_init_66 : decode cX6_init 66 = .ok (.putfield 32, 3) := by decide +kernel
theorem dX6_init_69 : decode cX6_init 69 = .ok (.aload_n 0, 1) := by decide +kernel
theorem dX6_init_70 : decode cX6_init 70 = .ok (.bipush 60, 2) := by decide +kernel
theorem dX6_init_72 : decode cX6_init 72 = .ok (.newarray .int, 2) := by decide +kernel
theorem dX6_init_74 : decode cX6_init 74 = .ok (.putfield 35, 3) := by decide +kernel
theorem dX6_init_77 : decode cX6_init 77 = .ok (.aload_n 0, 1) := by decide +kernel
theorem dX6_init_78 : decode cX6_init 78 = .ok (.bipush (-5), 2) := by decide +kernel
theorem dX6_init_80 : decode cX6_init 80 = .ok (.putfield 38, 3) := by decide +kernel
theorem dX6_init_83 : decode cX6_init 83 = .ok (.aload_n 0, 1) := by decide +kernel
theorem dX6_init_84 : decode cX6_init 84 = .ok (.bipush (-5), 2) := by decide +kernel
theorem dX6_init_86 : decode cX6_init 86 = .ok (.putfield 42, 3) := by decide +kernel
theorem dX6_init_89 : decode cX6_init 89 = .ok (.iconst 0, 1) := by decide +kernel
theorem dX6_init_90 : decode cX6_init 90 = .ok (.istore_n 1, 1) := by decide +kernel
theorem dX6_init_91 : decode cX6_init 91 = .ok (.iload_n 1, 1) := by decide +kernel
theorem dX6_init_92 : decode cX6_init 92 = .ok (.iconst 4, 1) := by decide +kernel
theorem dX6_init_93 : decode cX6_init 93 = .ok (.if_icmp .ge 44, 3) := by decide +kernel
theorem dX6_init_96 : decode cX6_init 96 = .ok (.aload_n 0, 1) := by decide +kernel
theorem dX6_init_97 : decode cX6_init 97 = .ok (.getfield 7, 3) := by decide +kernel
theorem dX6_init_100 : decode cX6_init 100 = .ok (.iload_n 1, 1) := by decide +kernel
theorem dX6_init_101 : decode cX6_init 101 = .ok (.iconst 0, 1) := by decide +kernel
theorem dX6_init_102 : decode cX6_init 102 = .ok (.invokestatic 45, 3) := by decide +kernel
theorem dX6_init_105 : decode cX6_init 105 = .ok (.iconst 1, 1) := by decide +kernel
theorem dX6_init_106 : decode cX6_init 106 = .ok (.iastore, 1) := by decide +kernel
theorem dX6_init_107 : decode cX6_init 107 = .ok (.aload_n 0, 1) := by decide +kernel
theorem dX6_init_108 : decode cX6_init 108 = .ok (.getfield 7, 3) := by decide +kernel
theorem dX6_init_111 : decode cX6_init 111 = .ok (.iload_n 1, 1) := by decide +kernel
theorem dX6_init_112 : decode cX6_init 112 = .ok (.iconst 1, 1) := by decide +kernel
theorem dX6_init_113 : decode cX6_init 113 = .ok (.invokestatic 45, 3) := by decide +kernel
theorem dX6_init_116 : decode cX6_init 116 = .ok (.iconst 2, 1) := by decide +kernel
theorem dX6_init_117 : decode cX6_init 117 = .ok (.iastore, 1) := by decide +kernel
theorem dX6_init_118 : decode cX6_init 118 = .ok (.aload_n 0, 1) := by decide +kernel
theorem dX6_init_119 : decode cX6_init 119 = .ok (.getfield 7, 3) := by decide +kernel
theorem dX6_init_122 : decode cX6_init 122 = .ok (.iload_n 1, 1) := by decide +kernel
theorem dX6_init_123 : decode cX6_init 123 = .ok (.bipush 8, 2) := by decide +kernel
theorem dX6_init_125 : decode cX6_init 125 = .ok (.invokestatic 45, 3) := by decide +kernel
theorem dX6_init_128 : decode cX6_init 128 = .ok (.bipush 10, 2) := by decide +kernel
theorem dX6_init_130 : decode cX6_init 130 = .ok (.iastore, 1) := by decide +kernel
theorem dX6_init_131 : decode cX6_init 131 = .ok (.iinc 1 1, 3) := by decide +kernel
theorem dX6_init_134 : decode cX6_init 134 = .ok (.goto (-43), 3) := by decide +kernel
theorem dX6_init_137 : decode cX6_init 137 = .ok (.return_, 1) := by decide +kernel
theorem dX6_in_0 : decode cX6_in 0 = .ok (.iload_n 0, 1) := by decide +kernel
theorem dX6_in_1 : decode cX6_in 1 = .ok (.iload_n 1, 1) := by decide +kernel
theorem dX6_in_2 : decode cX6_in 2 = .ok (.if_icmp .lt 12, 3) := by decide +kernel
theorem dX6_in_5 : decode cX6_in 5 = .ok (.iload_n 0, 1) := by decide +kernel
theorem dX6_in_6 : decode cX6_in 6 = .ok (.iload_n 2, 1) := by decide +kernel
theorem dX6_in_7 : decode cX6_in 7 = .ok (.if_icmp .gt 7, 3) := by decide +kernel
theorem dX6_in_10 : decode cX6_in 10 = .ok (.iconst 1, 1) := by decide +kernel
theorem dX6_in_11 : decode cX6_in 11 = .ok (.goto 4, 3) := by decide +kernel
theorem dX6_in_14 : decode cX6_in 14 = .ok (.iconst 0, 1) := by decide +kernel
theorem dX6_in_15 : decode cX6_in 15 = .ok (.ireturn, 1) := by decide +kernel
set_option maxRecDepth 20000 in
theorem ggX6_isPair_X6_in : GoodIn wsX6_isPair wsX6_in := goodIn_r _ [4] (by decide +kernel) (by decide +kernel)
set_option maxRecDepth 20000 in
theorem gX6_isPair_X6_in : GoodIn wsX6_isPair (va_wsS RX6 49 yX6_in wsX6_in) := goodIn_app (goodIn_of _ (by decide +kernel)) ggX6_isPair_X6_in
theorem dX6_isPair_0 : decode cX6_isPair 0 = .ok (.iload_n 0, 1) := by decide +kernel
theorem dX6_isPair_1 : decode cX6_isPair 1 = .ok (.iconst 0, 1) := by decide +kernel
theorem dX6_isPair_2 : decode cX6_isPair 2 = .ok (.iconst 3, 1) := by decide +kernel
theorem dX6_isPair_3 : decode cX6_isPair 3 = .ok (.invokestatic 49, 3) := by decide +kernel
theorem dX6_isPair_6 : decode cX6_isPair 6 = .ok (.ireturn, 1) := by decide +kernel
theorem dX6_at_0 : decode cX6_at 0 = .ok (.iconst 3, 1) := by decide +kernel
theorem dX6_at_1 : decode cX6_at 1 = .ok (.bipush 10, 2) := by decide +kernel
theorem dX6_at_3 : decode cX6_at 3 = .ok (.iload_n 0, 1) := by decide +kernel
theorem dX6_at_4 : decode cX6_at 4 = .ok (.imul, 1) := by decide +kernel
theorem dX6_at_5 : decode cX6_at 5 = .ok (.iadd, 1) := by decide +kernel
theorem dX6_at_6 : decode cX6_at 6 = .ok (.iload_n 1, 1) := by decide +kernel
theorem dX6_at_7 : decode cX6_at 7 = .ok (.iadd, 1) := by decide +kernel
theorem dX6_at_8 : decode cX6_at 8 = .ok (.ireturn, 1) := by decide +kernel
set_option maxRecDepth 20000 in
theorem ggX6_of_X6_at : GoodIn wsX6_of wsX6_at := goodIn_r _ [5] (by decide +kernel) (by decide +kernel)
set_option maxRecDepth 20000 in
theorem gX6_of_X6_at : GoodIn wsX6_of (va_wsS RX6 45 yX6_at wsX6_at) := goodIn_app (goodIn_of _ (by decide +kernel)) ggX6_of_X6_at
theorem dX6_of_0 : decode cX6_of 0 = .ok (.aload_n 0, 1) := by decide +kernel
theorem dX6_of_1 : decode cX6_of 1 = .ok (.getfield 7, 3) := by decide +kernel
theorem dX6_of_4 : decode cX6_of 4 = .ok (.iload_n 1, 1) := by decide +kernel
theorem dX6_of_5 : decode cX6_of 5 = .ok (.iload_n 2, 1) := by decide +kernel
theorem dX6_of_6 : decode cX6_of 6 = .ok (.invokestatic 45, 3) := by decide +kernel
theorem dX6_of_9 : decode cX6_of 9 = .ok (.iaload, 1) := by decide +kernel
theorem dX6_of_10 : decode cX6_of 10 = .ok (.ireturn, 1) := by decide +kernel
set_option maxRecDepth 20000 in
theorem ggX6_isOn_X6_of : GoodIn wsX6_isOn wsX6_of := goodIn_r _ [5, 6, 7, 8, 4, 9, 10, 11, 12, 13, 14, 15, 16, 17, 18, 19, 20, 21, 22, 23, 24, 25, 26, 27, 28, 29, 30, 31] (by decide +kernel) (by decide +kernel)
set_option maxRecDepth 20000 in
theorem gX6_isOn_X6_of : GoodIn wsX6_isOn (wsV RX6 53 RX6 yX6_of wsX6_of) := goodIn_app (goodIn_of _ (by decide +kernel)) ggX6_isOn_X6_of
theorem dX6_isOn_0 : decode cX6_isOn 0 = .ok (.aload_n 0, 1) := by decide +kernel
theorem dX6_isOn_1 : decode cX6_isOn 1 = .ok (.iload_n 1, 1) := by decide +kernel
theorem dX6_isOn_2 : decode cX6_isOn 2 = .ok (.bipush 9, 2) := by decide +kernel
theorem dX6_isOn_4 : decode cX6_isOn 4 = .ok (.invokevirtual 53, 3) := by decide +kernel
theorem dX6_isOn_7 : decode cX6_isOn 7 = .ok (.iconst 1, 1) := by decide +kernel
theorem dX6_isOn_8 : decode cX6_isOn 8 = .ok (.if_icmp .ne 7, 3) := by decide +kernel
theorem dX6_isOn_11 : decode cX6_isOn 11 = .ok (.iconst 1, 1) := by decide +kernel
theorem dX6_isOn_12 : decode cX6_isOn 12 = .ok (.goto 4, 3) := by decide +kernel
theorem dX6_isOn_15 : decode cX6_isOn 15 = .ok (.iconst 0, 1) := by decide +kernel
theorem dX6_isOn_16 : decode cX6_isOn 16 = .ok (.ireturn, 1) := by decide +kernel
theorem dX6_looks_0 : decode cX6_looks 0 = .ok (.iconst 0, 1) := by decide +kernel
theorem dX6_looks_1 : decode cX6_looks 1 = .ok (.istore_n 1, 1) := by decide +kernel
theorem dX6_looks_2 : decode cX6_looks 2 = .ok (.iload_n 1, 1) := by decide +kernel
theorem dX6_looks_3 : decode cX6_looks 3 = .ok (.bipush 43, 2) := by decide +kernel
theorem dX6_looks_5 : decode cX6_looks 5 = .ok (.if_icmp .ge 21, 3) := by decide +kernel
theorem dX6_looks_8 : decode cX6_looks 8 = .ok (.aload_n 0, 1) := by decide +kernel
theorem dX6_looks_9 : decode cX6_looks 9 = .ok (.getfield 17, 3) := by decide +kernel
theorem dX6_looks_12 : decode cX6_looks 12 = .ok (.iload_n 1, 1) := by decide +kernel
theorem dX6_looks_13 : decode cX6_looks 13 = .ok (.aload_n 0, 1) := by decide +kernel
theorem dX6_looks_14 : decode cX6_looks 14 = .ok (.getfield 7, 3) := by decide +kernel
theorem dX6_looks_17 : decode cX6_looks 17 = .ok (.iload_n 1, 1) := by decide +kernel
theorem dX6_looks_18 : decode cX6_looks 18 = .ok (.iaload, 1) := by decide +kernel
theorem dX6_looks_19 : decode cX6_looks 19 = .ok (.iastore, 1) := by decide +kernel
theorem dX6_looks_20 : decode cX6_looks 20 = .ok (.iinc 1 1, 3) := by decide +kernel
theorem dX6_looks_23 : decode cX6_looks 23 = .ok (.goto (-21), 3) := by decide +kernel
theorem dX6_looks_26 : decode cX6_looks 26 = .ok (.iconst 0, 1) := by decide +kernel
theorem dX6_looks_27 : decode cX6_looks 27 = .ok (.istore_n 1, 1) := by decide +kernel
theorem dX6_looks_28 : decode cX6_looks 28 = .ok (.iload_n 1, 1) := by decide +kernel
theorem dX6_looks_29 : decode cX6_looks 29 = .ok (.bipush 12, 2) := by decide +kernel
theorem dX6_looks_31 : decode cX6_looks 31 = .ok (.if_icmp .ge 21, 3) := by decide +kernel
theorem dX6_looks_34 : decode cX6_looks 34 = .ok (.aload_n 0, 1) := by decide +kernel
theorem dX6_looks_35 : decode cX6_looks 35 = .ok (.getfield 20, 3) := by decide +kernel
theorem dX6_looks_38 : decode cX6_looks 38 = .ok (.iload_n 1, 1) := by decide +kernel
theorem dX6_looks_39 : decode cX6_looks 39 = .ok (.aload_n 0, 1) := by decide +kernel
theorem dX6_looks_40 : decode cX6_looks 40 = .ok (.getfield 13, 3) := by decide +kernel
theorem dX6_looks_43 : decode cX6_looks 43 = .ok (.iload_n 1, 1) := by decide +kernel
theorem dX6_looks_44 : decode cX6_looks 44 = .ok (.laload, 1) := by decide +kernel
theorem dX6_looks_45 : decode cX6_looks 45 = .ok (.lastore, 1) := by decide +kernel
theorem dX6_looks_46 : decode cX6_looks 46 = .ok (.iinc 1 1, 3) := by decide +kernel
theorem dX6_looks_49 : decode cX6_looks 49 = .ok (.goto (-21), 3) := by decide +kernel
theorem dX6_looks_52 : decode cX6_looks 52 = .ok (.return_, 1) := by decide +kernel
theorem dX6_looksBack_0 : decode cX6_looksBack 0 = .ok (.iconst 0, 1) := by decide +kernel
theorem dX6_looksBack_1 : decode cX6_looksBack 1 = .ok (.istore_n 1, 1) := by decide +kernel
theorem dX6_looksBack_2 : decode cX6_looksBack 2 = .ok (.iload_n 1, 1) := by decide +kernel
theorem dX6_looksBack_3 : decode cX6_looksBack 3 = .ok (.bipush 43, 2) := by decide +kernel
theorem dX6_looksBack_5 : decode cX6_looksBack 5 = .ok (.if_icmp .ge 21, 3) := by decide +kernel
theorem dX6_looksBack_8 : decode cX6_looksBack 8 = .ok (.aload_n 0, 1) := by decide +kernel
theorem dX6_looksBack_9 : decode cX6_looksBack 9 = .ok (.getfield 7, 3) := by decide +kernel
theorem dX6_looksBack_12 : decode cX6_looksBack 12 = .ok (.iload_n 1, 1) := by decide +kernel
theorem dX6_looksBack_13 : decode cX6_looksBack 13 = .ok (.aload_n 0, 1) := by decide +kernel
theorem dX6_looksBack_14 : decode cX6_looksBack 14 = .ok (.getfield 17, 3) := by decide +kernel
theorem dX6_looksBack_17 : decode cX6_looksBack 17 = .ok (.iload_n 1, 1) := by decide +kernel
theorem dX6_looksBack_18 : decode cX6_looksBack 18 = .ok (.iaload, 1) := by decide +kernel
theorem dX6_looksBack_19 : decode cX6_looksBack 19 = .ok (.iastore, 1) := by decide +kernel
theorem dX6_looksBack_20 : decode cX6_looksBack 20 = .ok (.iinc 1 1, 3) := by decide +kernel
theorem dX6_looksBack_23 : decode cX6_looksBack 23 = .ok (.goto (-21), 3) := by decide +kernel
theorem dX6_looksBack_26 : decode cX6_looksBack 26 = .ok (.iconst 0, 1) := by decide +kernel
theorem dX6_looksBack_27 : decode cX6_looksBack 27 = .ok (.istore_n 1, 1) := by decide +kernel
theorem dX6_looksBack_28 : decode cX6_looksBack 28 = .ok (.iload_n 1, 1) := by decide +kernel
theorem dX6_looksBack_29 : decode cX6_looksBack 29 = .ok (.bipush 12, 2) := by decide +kernel
theorem dX6_looksBack_31 : decode cX6_looksBack 31 = .ok (.if_icmp .ge 21, 3) := by decide +kernel
theorem dX6_looksBack_34 : decode cX6_looksBack 34 = .ok (.aload_n 0, 1) := by decide +kernel
theorem dX6_looksBack_35 : decode cX6_looksBack 35 = .ok (.getfield 13, 3) := by decide +kernel
theorem dX6_looksBack_38 : decode cX6_looksBack 38 = .ok (.iload_n 1, 1) := by decide +kernel
theorem dX6_looksBack_39 : decode cX6_looksBack 39 = .ok (.aload_n 0, 1) := by decide +kernel
theorem dX6_looksBack_40 : decode cX6_looksBack 40 = .ok (.getfield 20, 3) := by decide +kernel
theorem dX6_looksBack_43 : decode cX6_looksBack 43 = .ok (.iload_n 1, 1) := by decide +kernel
theorem dX6_looksBack_44 : decode cX6_looksBack 44 = .ok (.laload, 1) := by decide +kernel
theorem dX6_looksBack_45 : decode cX6_looksBack 45 = .ok (.lastore, 1) := by decide +kernel
theorem dX6_looksBack_46 : decode cX6_looksBack 46 = .ok (.iinc 1 1, 3) := by decide +kernel
theorem dX6_looksBack_49 : decode cX6_looksBack 49 = .ok (.goto (-21), 3) := by decide +kernel
theorem dX6_looksBack_52 : decode cX6_looksBack 52 = .ok (.return_, 1) := by decide +kernel
theorem dX6_records_0 : decode cX6_records 0 = .ok (.aload_n 0, 1) := by decide +kernel
theorem dX6_records_1 : decode cX6_records 1 = .ok (.getfield 56, 3) := by decide +kernel
theorem dX6_records_4 : decode cX6_records 4 = .ok (.iconst 4, 1) := by decide +kernel
theorem dX6_records_5 : decode cX6_records 5 = .ok (.if_icmp .ne 72, 3) := by decide +kernel
theorem dX6_records_8 : decode cX6_records 8 = .ok (.iconst 0, 1) := by decide +kernel
theorem dX6_records_9 : decode cX6_records 9 = .ok (.istore_n 1, 1) := by decide +kernel
theorem dX6_records_10 : decode cX6_records 10 = .ok (.iload_n 1, 1) := by decide +kernel
theorem dX6_records_11 : decode cX6_records 11 = .ok (.sipush 129, 3) := by decide +kernel
theorem dX6_records_14 : decode cX6_records 14 = .ok (.if_icmp .ge 24, 3) := by decide +kernel
theorem dX6_records_17 : decode cX6_records 17 = .ok (.aload_n 0, 1) := by decide +kernel
theorem dX6_records_18 : decode cX6_records 18 = .ok (.getfield 29, 3) := by decide +kernel
theorem dX6_records_21 : decode cX6_records 21 = .ok (.iload_n 1, 1) := by decide +kernel
theorem dX6_records_22 : decode cX6_records 22 = .ok (.aload_n 0, 1) := by decide +kernel
theorem dX6_records_23 : decode cX6_records 23 = .ok (.getfield 29, 3) := by decide +kernel
theorem dX6_records_26 : decode cX6_records 26 = .ok (.bipush 43, 2) := by decide +kernel
theorem dX6_records_28 : decode cX6_records 28 = .ok (.iload_n 1, 1) := by decide +kernel
theorem dX6_records_29 : decode cX6_records 29 = .ok (.iadd, 1) := by decide +kernel
theorem dX6_records_30 : decode cX6_records 30 = .ok (.iaload, 1) := by decide +kernel
theorem dX6_records_31 : decode cX6_records 31 = .ok (.iastore, 1) := by decide +kernel
theorem dX6_records_32 : decode cX6_records 32 = .ok (.iinc 1 1, 3) := by decide +kernel
theorem dX6_records_35 : decode cX6_records 35 = .ok (.goto (-25), 3) := by decide +kernel
theorem dX6_records_38 : decode cX6_records 38 = .ok (.iconst 0, 1) := by decide +kernel
theorem dX6_records_39 : decode cX6_records 39 = .ok (.istore_n 1, 1) := by decide +kernel
theorem dX6_records_40 : decode cX6_records 40 = .ok (.iload_n 1, 1) := by decide +kernel
theorem dX6_records_41 : decode cX6_records 41 = .ok (.bipush 36, 2) := by decide +kernel
theorem dX6_records_43 : decode cX6_records 43 = .ok (.if_icmp .ge 24, 3) := by decide +kernel
theorem dX6_records_46 : decode cX6_records 46 = .ok (.aload_n 0, 1) := by decide +kernel
theorem dX6_records_47 : decode cX6_records 47 = .ok (.getfield 32, 3) := by decide +kernel
theorem dX6_records_50 : decode cX6_records 50 = .ok (.iload_n 1, 1) := by decide +kernel
theorem dX6_records_51 : decode cX6_records 51 = .ok (.aload_n 0, 1) := by decide +kernel
theorem dX6_records_52 : decode cX6_records 52 = .ok (.getfield 32, 3) := by decide +kernel
theorem dX6_records_55 : decode cX6_records 55 = .ok (.bipush 12, 2) := by decide +kernel
theorem dX6_records_57 : decode cX6_records 57 = .ok (.iload_n 1, 1) := by decide +kernel
theorem dX6_records_58 : decode cX6_records 58 = .ok (.iadd, 1) := by decide +kernel
theorem dX6_records_59 : decode cX6_records 59 = .ok (.laload, 1) := by decide +kernel
theorem dX6_records_60 : decode cX6_records 60 = .ok (.lastore, 1) := by decide +kernel
theorem dX6_records_61 : decode cX6_records 61 = .ok (.iinc 1 1, 3) := by decide +kernel
theorem dX6_records_64 : decode cX6_records 64 = .ok (.goto (-24), 3) := by decide +kernel
theorem dX6_records_67 : decode cX6_records 67 = .ok (.aload_n 0, 1) := by decide +kernel
theorem dX6_records_68 : decode cX6_records 68 = .ok (.dup, 1) := by decide +kernel
theorem dX6_records_69 : decode cX6_records 69 = .ok (.getfield 56, 3) := by decide +kernel
theorem dX6_records_72 : decode cX6_records 72 = .ok (.iconst 1, 1) := by decide +kernel
theorem dX6_records_73 : decode cX6_records 73 = .ok (.isub, 1) := by decide +kernel
theorem dX6_records_74 : decode cX6_records 74 = .ok (.putfield 56, 3) := by decide +kernel
theorem dX6_records_77 : decode cX6_records 77 = .ok (.iconst 0, 1) := by decide +kernel
theorem dX6_records_78 : decode cX6_records 78 = .ok (.istore_n 1, 1) := by decide +kernel
theorem dX6_records_79 : decode cX6_records 79 = .ok (.iload_n 1, 1) := by decide +kernel
theorem dX6_records_80 : decode cX6_records 80 = .ok (.bipush 43, 2) := by decide +kernel
theorem dX6_records_82 : decode cX6_records 82 = .ok (.if_icmp .ge 29, 3) := by decide +kernel
theorem dX6_records_85 : decode cX6_records 85 = .ok (.aload_n 0, 1) := by decide +kernel
theorem dX6_records_86 : decode cX6_records 86 = .ok (.getfield 29, 3) := by decide +kernel
theorem dX6_records_89 : decode cX6_records 89 = .ok (.bipush 43, 2) := by decide +kernel
theorem dX6_records_91 : decode cX6_records 91 = .ok (.aload_n 0, 1) := by decide +kernel
theorem dX6_records_92 : decode cX6_records 92 = .ok (.getfield 56, 3) := by decide +kernel
theorem dX6_records_95 : decode cX6_records 95 = .ok (.imul, 1) := by decide +kernel
theorem dX6_records_96 : decode cX6_records 96 = .ok (.iload_n 1, 1) := by decide +kernel
theorem dX6_records_97 : decode cX6_records 97 = .ok (.iadd, 1) := by decide +kernel
theorem dX6_records_98 : decode cX6_records 98 = .ok (.aload_n 0, 1) := by decide +kernel
theorem dX6_records_99 : decode cX6_records 99 = .ok (.getfield 17, 3) := by decide +kernel
theorem dX6_records_102 : decode cX6_records 102 = .ok (.iload_n 1, 1) := by decide +kernel
theorem dX6_records_103 : decode cX6_records 103 = .ok (.iaload, 1) := by decide +kernel
theorem dX6_records_104 : decode cX6_records 104 = .ok (.iastore, 1) := by decide +kernel
theorem dX6_records_105 : decode cX6_records 105 = .ok (.iinc 1 1, 3) := by decide +kernel
theorem dX6_records_108 : decode cX6_records 108 = .ok (.goto (-29), 3) := by decide +kernel
theorem dX6_records_111 : decode cX6_records 111 = .ok (.iconst 0, 1) := by decide +kernel
theorem dX6_records_112 : decode cX6_records 112 = .ok (.istore_n 1, 1) := by decide +kernel
theorem dX6_records_113 : decode cX6_records 113 = .ok (.iload_n 1, 1) := by decide +kernel
theorem dX6_records_114 : decode cX6_records 114 = .ok (.bipush 12, 2) := by decide +kernel
theorem dX6_records_116 : decode cX6_records 116 = .ok (.if_icmp .ge 29, 3) := by decide +kernel
theorem dX6_records_119 : decode cX6_records 119 = .ok (.aload_n 0, 1) := by decide +kernel
theorem dX6_records_120 : decode cX6_records 120 = .ok (.getfield 32, 3) := by decide +kernel
theorem dX6_records_123 : decode cX6_records 123 = .ok (.bipush 12, 2) := by decide +kernel
theorem dX6_records_125 : decode cX6_records 125 = .ok (.aload_n 0, 1) := by decide +kernel
theorem dX6_records_126 : decode cX6_records 126 = .ok (.getfield 56, 3) := by decide +kernel
theorem dX6_records_129 : decode cX6_records 129 = .ok (.imul, 1) := by decide +kernel
theorem dX6_records_130 : decode cX6_records 130 = .ok (.iload_n 1, 1) := by decide +kernel
theorem dX6_records_131 : decode cX6_records 131 = .ok (.iadd, 1) := by decide +kernel
theorem dX6_records_132 : decode cX6_records 132 = .ok (.aload_n 0, 1) := by decide +kernel
theorem dX6_records_133 : decode cX6_records 133 = .ok (.getfield 20, 3) := by decide +kernel
theorem dX6_records_136 : decode cX6_records 136 = .ok (.iload_n 1, 1) := by decide +kernel
theorem dX6_records_137 : decode cX6_records 137 = .ok (.laload, 1) := by decide +kernel
theorem dX6_records_138 : decode cX6_records 138 = .ok (.lastore, 1) := by decide +kernel
theorem dX6_records_139 : decode cX6_records 139 = .ok (.iinc 1 1, 3) := by decide +kernel
theorem dX6_records_142 : decode cX6_records 142 = .ok (.goto (-29), 3) := by decide +kernel
theorem dX6_records_145 : decode cX6_records 145 = .ok (.aload_n 0, 1) := by decide +kernel
theorem dX6_records_146 : decode cX6_records 146 = .ok (.dup, 1) := by decide +kernel
theorem dX6_records_147 : decode cX6_records 147 = .ok (.getfield 56, 3) := by decide +kernel
theorem dX6_records_150 : decode cX6_records 150 = .ok (.iconst 1, 1) := by decide +kernel
theorem dX6_records_151 : decode cX6_records 151 = .ok (.iadd, 1) := by decide +kernel
theorem dX6_records_152 : decode cX6_records 152 = .ok (.putfield 56, 3) := by decide +kernel
theorem dX6_records_155 : decode cX6_records 155 = .ok (.return_, 1) := by decide +kernel
set_option maxRecDepth 20000 in
theorem ggX6_capacity_X6_of : GoodIn wsX6_capacity wsX6_of := goodIn_r _ [5, 6, 7, 8, 4, 9, 10, 11, 12, 13, 14, 15, 16, 17, 18, 19, 20, 21, 22, 23, 24, 25, 26, 27, 28, 29, 30, 31] (by decide +kernel) (by decide +kernel)
set_option maxRecDepth 20000 in
theorem gX6_capacity_X6_of : GoodIn wsX6_capacity (wsV RX6 53 RX6 yX6_of wsX6_of) := goodIn_app (goodIn_of _ (by decide +kernel)) ggX6_capacity_X6_of
theorem dX6_capacity_0 : decode cX6_capacity 0 = .ok (.aload_n 0, 1) := by decide +kernel
theorem dX6_capacity_1 : decode cX6_capacity 1 = .ok (.iload_n 1, 1) := by decide +kernel
theorem dX6_capacity_2 : decode cX6_capacity 2 = .ok (.iconst 0, 1) := by decide +kernel
theorem dX6_capacity_3 : decode cX6_capacity 3 = .ok (.invokevirtual 53, 3) := by decide +kernel
theorem dX6_capacity_6 : decode cX6_capacity 6 = .ok (.bipush 40, 2) := by decide +kernel
theorem dX6_capacity_8 : decode cX6_capacity 8 = .ok (.aload_n 0, 1) := by decide +kernel
theorem dX6_capacity_9 : decode cX6_capacity 9 = .ok (.iload_n 1, 1) := by decide +kernel
theorem dX6_capacity_10 : decode cX6_capacity 10 = .ok (.iconst 1, 1) := by decide +kernel
theorem dX6_capacity_11 : decode cX6_capacity 11 = .ok (.invokevirtual 53, 3) := by decide +kernel
theorem dX6_capacity_14 : decode cX6_capacity 14 = .ok (.iconst 1, 1) := by decide +kernel
theorem dX6_capacity_15 : decode cX6_capacity 15 = .ok (.isub, 1) := by decide +kernel
theorem dX6_capacity_16 : decode cX6_capacity 16 = .ok (.iload_n 2, 1) := by decide +kernel
theorem dX6_capacity_17 : decode cX6_capacity 17 = .ok (.imul, 1) := by decide +kernel
theorem dX6_capacity_18 : decode cX6_capacity 18 = .ok (.iadd, 1) := by decide +kernel
theorem dX6_capacity_19 : decode cX6_capacity 19 = .ok (.imul, 1) := by decide +kernel
theorem dX6_capacity_20 : decode cX6_capacity 20 = .ok (.ireturn, 1) := by decide +kernel
set_option maxRecDepth 20000 in
theorem ggX6_capacityNow_X6_of : GoodIn wsX6_capacityNow wsX6_of := goodIn_r _ [5, 6, 7, 8, 4, 9, 14, 15, 16, 17, 18, 19, 20, 21, 22, 23, 24, 25, 26, 27, 28, 29, 30, 31, 32, 33, 34, 35] (by decide +kernel) (by decide +kernel)
set_option maxRecDepth 20000 in
theorem gX6_capacityNow_X6_of : GoodIn wsX6_capacityNow (wsV RX6 53 RX6 yX6_of wsX6_of) := goodIn_app (goodIn_of _ (by decide +kernel)) ggX6_capacityNow_X6_of
set_option maxRecDepth 20000 in
theorem ggX6_capacityNow_X6_capacity : GoodIn wsX6_capacityNow wsX6_capacity := goodIn_r _ [13, 1, 2, 3, 4, 5, 6, 7, 8, 9, 14, 15, 16, 17, 18, 19, 20, 21, 22, 23, 24, 25, 26, 27, 28, 29, 30, 31, 32, 33, 34, 35] (by decide +kernel) (by decide +kernel)
set_option maxRecDepth 20000 in
theorem gX6_capacityNow_X6_capacity : GoodIn wsX6_capacityNow (wsV RX6 59 RX6 yX6_capacity wsX6_capacity) := goodIn_app (goodIn_of _ (by decide +kernel)) ggX6_capacityNow_X6_capacity
theorem dX6_capacityNow_0 : decode cX6_capacityNow 0 = .ok (.aload_n 0, 1) := by decide +kernel
theorem dX6_capacityNow_1 : decode cX6_capacityNow 1 = .ok (.iload_n 1, 1) := by decide +kernel
theorem dX6_capacityNow_2 : decode cX6_capacityNow 2 = .ok (.aload_n 0, 1) := by decide +kernel
theorem dX6_capacityNow_3 : decode cX6_capacityNow 3 = .ok (.iload_n 1, 1) := by decide +kernel
theorem dX6_capacityNow_4 : decode cX6_capacityNow 4 = .ok (.bipush 6, 2) := by decide +kernel
theorem dX6_capacityNow_6 : decode cX6_capacityNow 6 = .ok (.invokevirtual 53, 3) := by decide +kernel
theorem dX6_capacityNow_9 : decode cX6_capacityNow 9 = .ok (.invokevirtual 59, 3) := by decide +kernel
theorem dX6_capacityNow_12 : decode cX6_capacityNow 12 = .ok (.ireturn, 1) := by decide +kernel
set_option maxRecDepth 20000 in
theorem ggX6_stored_X6_of : GoodIn wsX6_stored wsX6_of := goodIn_r _ [5, 6, 7, 8, 4, 9, 22, 23, 24, 25, 26, 27, 28, 29, 30, 31, 32, 33, 34, 35, 36, 37, 38, 39, 40, 41, 42, 43] (by decide +kernel) (by decide +kernel)
set_option maxRecDepth 20000 in
theorem gX6_stored_X6_of : GoodIn wsX6_stored (wsV RX6 53 RX6 yX6_of wsX6_of) := goodIn_app (goodIn_of _ (by decide +kernel)) ggX6_stored_X6_of
set_option maxRecDepth 20000 in
theorem ggX6_stored_X6_isOn : GoodIn wsX6_stored wsX6_isOn := goodIn_r _ [13, 1, 2, 3, 4, 5, 6, 7, 8, 9, 22, 23, 24, 25, 26, 27, 28, 29, 30, 31, 32, 33, 34, 35, 36, 37, 38, 39, 40, 41, 42, 43] (by decide +kernel) (by decide +kernel)
set_option maxRecDepth 20000 in
theorem gX6_stored_X6_isOn : GoodIn wsX6_stored (wsV RX6 62 RX6 yX6_isOn wsX6_isOn) := goodIn_app (goodIn_of _ (by decide +kernel)) ggX6_stored_X6_isOn
set_option maxRecDepth 20000 in
theorem ggX6_stored_X6_capacityNow : GoodIn wsX6_stored wsX6_capacityNow := goodIn_r _ [17, 1, 2, 3, 4, 5, 6, 7, 8, 9, 18, 19, 20, 21, 22, 23, 24, 25, 26, 27, 28, 29, 30, 31, 32, 33, 34, 35, 36, 37, 38, 39, 40, 41, 42, 43] (by decide +kernel) (by decide +kernel)
set_option maxRecDepth 20000 in
theorem gX6_stored_X6_capacityNow : GoodIn wsX6_stored (wsV RX6 66 RX6 yX6_capacityNow wsX6_capacityNow) := goodIn_app (goodIn_of _ (by decide +kernel)) ggX6_stored_X6_capacityNow
theorem dX6_stored_0 : decode cX6_stored 0 = .ok (.aload_n 0, 1) := by decide +kernel
theorem dX6_stored_1 : decode cX6_stored 1 = .ok (.iload_n 1, 1) := by decide +kernel
theorem dX6_stored_2 : decode cX6_stored 2 = .ok (.bipush 7, 2) := by decide +kernel
theorem dX6_stored_4 : decode cX6_stored 4 = .ok (.invokevirtual 53, 3) := by decide +kernel
theorem dX6_stored_7 : decode cX6_stored 7 = .ok (.i2l, 1) := by decide +kernel
theorem dX6_stored_8 : decode cX6_stored 8 = .ok (.lstore_n 2, 1) := by decide +kernel
theorem dX6_stored_9 : decode cX6_stored 9 = .ok (.aload_n 0, 1) := by decide +kernel
theorem dX6_stored_10 : decode cX6_stored 10 = .ok (.iload_n 1, 1) := by decide +kernel
theorem dX6_stored_11 : decode cX6_stored 11 = .ok (.invokevirtual 62, 3) := by decide +kernel
theorem dX6_stored_14 : decode cX6_stored 14 = .ok (.ifCond .eq 16, 3) := by decide +kernel
theorem dX6_stored_17 : decode cX6_stored 17 = .ok (.aload_n 0, 1) := by decide +kernel
theorem dX6_stored_18 : decode cX6_stored 18 = .ok (.iload_n 1, 1) := by decide +kernel
theorem dX6_stored_19 : decode cX6_stored 19 = .ok (.bipush 8, 2) := by decide +kernel
theorem dX6_stored_21 : decode cX6_stored 21 = .ok (.invokevirtual 53, 3) := by decide +kernel
theorem dX6_stored_24 : decode cX6_stored 24 = .ok (.i2l, 1) := by decide +kernel
theorem dX6_stored_25 : decode cX6_stored 25 = .ok (.lload_n 2, 1) := by decide +kernel
theorem dX6_stored_26 : decode cX6_stored 26 = .ok (.lmul, 1) := by decide +kernel
theorem dX6_stored_27 : decode cX6_stored 27 = .ok (.goto 13, 3) := by decide +kernel
theorem dX6_stored_30 : decode cX6_stored 30 = .ok (.lload_n 2, 1) := by decide +kernel
theorem dX6_stored_31 : decode cX6_stored 31 = .ok (.lload_n 2, 1) := by decide +kernel
theorem dX6_stored_32 : decode cX6_stored 32 = .ok (.lmul, 1) := by decide +kernel
theorem dX6_stored_33 : decode cX6_stored 33 = .ok (.aload_n 0, 1) := by decide +kernel
theorem dX6_stored_34 : decode cX6_stored 34 = .ok (.iload_n 1, 1) := by decide +kernel
theorem dX6_stored_35 : decode cX6_stored 35 = .ok (.invokevirtual 66, 3) := by decide +kernel
theorem dX6_stored_38 : decode cX6_stored 38 = .ok (.i2l, 1) := by decide +kernel
theorem dX6_stored_39 : decode cX6_stored 39 = .ok (.ldiv, 1) := by decide +kernel
theorem dX6_stored_40 : decode cX6_stored 40 = .ok (.lreturn, 1) := by decide +kernel
set_option maxRecDepth 20000 in
theorem ggX6_pullBy_X6_of : GoodIn wsX6_pullBy wsX6_of := goodIn_r _ [5, 6, 7, 8, 4, 9, 10, 11, 12, 13, 14, 15, 16, 17, 18, 19, 20, 21, 22, 23, 24, 25, 26, 27, 28, 29, 30, 31] (by decide +kernel) (by decide +kernel)
set_option maxRecDepth 20000 in
theorem gX6_pullBy_X6_of : GoodIn wsX6_pullBy (wsV RX6 53 RX6 yX6_of wsX6_of) := goodIn_app (goodIn_of _ (by decide +kernel)) ggX6_pullBy_X6_of
theorem dX6_pullBy_0 : decode cX6_pullBy 0 = .ok (.aload_n 0, 1) := by decide +kernel
theorem dX6_pullBy_1 : decode cX6_pullBy 1 = .ok (.iload_n 1, 1) := by decide +kernel
theorem dX6_pullBy_2 : decode cX6_pullBy 2 = .ok (.iconst 0, 1) := by decide +kernel
theorem dX6_pullBy_3 : decode cX6_pullBy 3 = .ok (.invokevirtual 53, 3) := by decide +kernel
theorem dX6_pullBy_6 : decode cX6_pullBy 6 = .ok (.aload_n 0, 1) := by decide +kernel
theorem dX6_pullBy_7 : decode cX6_pullBy 7 = .ok (.iload_n 1, 1) := by decide +kernel
theorem dX6_pullBy_8 : decode cX6_pullBy 8 = .ok (.iconst 1, 1) := by decide +kernel
theorem dX6_pullBy_9 : decode cX6_pullBy 9 = .ok (.invokevirtual 53, 3) := by decide +kernel
theorem dX6_pullBy_12 : decode cX6_pullBy 12 = .ok (.iconst 1, 1) := by decide +kernel
theorem dX6_pullBy_13 : decode cX6_pullBy 13 = .ok (.isub, 1) := by decide +kernel
theorem dX6_pullBy_14 : decode cX6_pullBy 14 = .ok (.imul, 1) := by decide +kernel
theorem dX6_pullBy_15 : decode cX6_pullBy 15 = .ok (.iload_n 2, 1) := by decide +kernel
theorem dX6_pullBy_16 : decode cX6_pullBy 16 = .ok (.imul, 1) := by decide +kernel
theorem dX6_pullBy_17 : decode cX6_pullBy 17 = .ok (.iload_n 2, 1) := by decide +kernel
theorem dX6_pullBy_18 : decode cX6_pullBy 18 = .ok (.imul, 1) := by decide +kernel
theorem dX6_pullBy_19 : decode cX6_pullBy 19 = .ok (.ireturn, 1) := by decide +kernel
set_option maxRecDepth 20000 in
theorem ggX6_pullOf_X6_capacity : GoodIn wsX6_pullOf wsX6_capacity := goodIn_r _ [5, 6, 7, 8, 4, 9, 10, 11, 12, 13, 14, 15, 16, 17, 18, 19, 20, 21, 22, 23, 24, 25, 26, 27, 28, 29, 30, 31, 32, 33, 34, 35] (by decide +kernel) (by decide +kernel)
set_option maxRecDepth 20000 in
theorem gX6_pullOf_X6_capacity : GoodIn wsX6_pullOf (wsV RX6 59 RX6 yX6_capacity wsX6_capacity) := goodIn_app (goodIn_of _ (by decide +kernel)) ggX6_pullOf_X6_capacity
set_option maxRecDepth 20000 in
theorem ggX6_pullOf_X6_of : GoodIn wsX6_pullOf wsX6_of := goodIn_r _ [9, 10, 11, 12, 4, 13, 14, 15, 16, 17, 18, 19, 20, 21, 22, 23, 24, 25, 26, 27, 28, 29, 30, 31, 32, 33, 34, 35] (by decide +kernel) (by decide +kernel)
set_option maxRecDepth 20000 in
theorem gX6_pullOf_X6_of : GoodIn wsX6_pullOf (wsV RX6 53 RX6 yX6_of wsX6_of) := goodIn_app (goodIn_of _ (by decide +kernel)) ggX6_pullOf_X6_of
theorem dX6_pullOf_0 : decode cX6_pullOf 0 = .ok (.iload_n 3, 1) := by decide +kernel
theorem dX6_pullOf_1 : decode cX6_pullOf 1 = .ok (.i2l, 1) := by decide +kernel
theorem dX6_pullOf_2 : decode cX6_pullOf 2 = .ok (.lstore 4, 2) := by decide +kernel
theorem dX6_pullOf_4 : decode cX6_pullOf 4 = .ok (.aload_n 0, 1) := by decide +kernel
theorem dX6_pullOf_5 : decode cX6_pullOf 5 = .ok (.iload_n 1, 1) := by decide +kernel
theorem dX6_pullOf_6 : decode cX6_pullOf 6 = .ok (.iload_n 2, 1) := by decide +kernel
theorem dX6_pullOf_7 : decode cX6_pullOf 7 = .ok (.invokevirtual 59, 3) := by decide +kernel
theorem dX6_pullOf_10 : decode cX6_pullOf 10 = .ok (.i2l, 1) := by decide +kernel
theorem dX6_pullOf_11 : decode cX6_pullOf 11 = .ok (.lstore 6, 2) := by decide +kernel
theorem dX6_pullOf_13 : decode cX6_pullOf 13 = .ok (.aload_n 0, 1) := by decide +kernel
theorem dX6_pullOf_14 : decode cX6_pullOf 14 = .ok (.iload_n 1, 1) := by decide +kernel
theorem dX6_pullOf_15 : decode cX6_pullOf 15 = .ok (.iconst 0, 1) := by decide +kernel
theorem dX6_pullOf_16 : decode cX6_pullOf 16 = .ok (.invokevirtual 53, 3) := by decide +kernel
theorem dX6_pullOf_19 : decode cX6_pullOf 19 = .ok (.aload_n 0, 1) := by decide +kernel
theorem dX6_pullOf_20 : decode cX6_pullOf 20 = .ok (.iload_n 1, 1) := by decide +kernel
theorem dX6_pullOf_21 : decode cX6_pullOf 21 = .ok (.iconst 1, 1) := by decide +kernel
theorem dX6_pullOf_22 : decode cX6_pullOf 22 = .ok (.invokevirtual 53, 3) := by decide +kernel
theorem dX6_pullOf_25 : decode cX6_pullOf 25 = .ok (.iconst 1, 1) := by decide +kernel
theorem dX6_pullOf_26 : decode cX6_pullOf 26 = .ok (.isub, 1) := by decide +kernel
theorem dX6_pullOf_27 : decode cX6_pullOf 27 = .ok (.imul, 1) := by decide +kernel
theorem dX6_pullOf_28 : decode cX6_pullOf 28 = .ok (.i2l, 1) := by decide +kernel
theorem dX6_pullOf_29 : decode cX6_pullOf 29 = .ok (.lload 4, 2) := by decide +kernel
theorem dX6_pullOf_31 : decode cX6_pullOf 31 = .ok (.lmul, 1) := by decide +kernel
theorem dX6_pullOf_32 : decode cX6_pullOf 32 = .ok (.lload 4, 2) := by decide +kernel
theorem dX6_pullOf_34 : decode cX6_pullOf 34 = .ok (.lmul, 1) := by decide +kernel
theorem dX6_pullOf_35 : decode cX6_pullOf 35 = .ok (.lload 6, 2) := by decide +kernel
theorem dX6_pullOf_37 : decode cX6_pullOf 37 = .ok (.lload 6, 2) := by decide +kernel
theorem dX6_pullOf_39 : decode cX6_pullOf 39 = .ok (.lmul, 1) := by decide +kernel
theorem dX6_pullOf_40 : decode cX6_pullOf 40 = .ok (.ldiv, 1) := by decide +kernel
theorem dX6_pullOf_41 : decode cX6_pullOf 41 = .ok (.l2i, 1) := by decide +kernel
theorem dX6_pullOf_42 : decode cX6_pullOf 42 = .ok (.ireturn, 1) := by decide +kernel
set_option maxRecDepth 20000 in
theorem ggX6_pullAt_X6_isOn : GoodIn wsX6_pullAt wsX6_isOn := goodIn_r _ [5, 6, 7, 8, 4, 9, 10, 11, 12, 13, 26, 27, 28, 29, 30, 31, 32, 33, 34, 35, 36, 37, 38, 39, 40, 41, 42, 43, 44, 45, 46, 47] (by decide +kernel) (by decide +kernel)
set_option maxRecDepth 20000 in
theorem gX6_pullAt_X6_isOn : GoodIn wsX6_pullAt (wsV RX6 62 RX6 yX6_isOn wsX6_isOn) := goodIn_app (goodIn_of _ (by decide +kernel)) ggX6_pullAt_X6_isOn
set_option maxRecDepth 20000 in
theorem ggX6_pullAt_X6_of : GoodIn wsX6_pullAt wsX6_of := goodIn_r _ [9, 10, 11, 12, 4, 13, 26, 27, 28, 29, 30, 31, 32, 33, 34, 35, 36, 37, 38, 39, 40, 41, 42, 43, 44, 45, 46, 47] (by decide +kernel) (by decide +kernel)
set_option maxRecDepth 20000 in
theorem gX6_pullAt_X6_of : GoodIn wsX6_pullAt (wsV RX6 53 RX6 yX6_of wsX6_of) := goodIn_app (goodIn_of _ (by decide +kernel)) ggX6_pullAt_X6_of
set_option maxRecDepth 20000 in
theorem ggX6_pullAt_X6_pullBy : GoodIn wsX6_pullAt wsX6_pullBy := goodIn_r _ [17, 6, 7, 8, 4, 9, 10, 11, 12, 13, 26, 27, 28, 29, 30, 31, 32, 33, 34, 35, 36, 37, 38, 39, 40, 41, 42, 43, 44, 45, 46, 47] (by decide +kernel) (by decide +kernel)
set_option maxRecDepth 20000 in
theorem gX6_pullAt_X6_pullBy : GoodIn wsX6_pullAt (wsV RX6 70 RX6 yX6_pullBy wsX6_pullBy) := goodIn_app (goodIn_of _ (by decide +kernel)) ggX6_pullAt_X6_pullBy
set_option maxRecDepth 20000 in
theorem ggX6_pullAt_X6_pullOf : GoodIn wsX6_pullAt wsX6_pullOf := goodIn_r _ [21, 22, 23, 24, 4, 25, 6, 7, 8, 9, 10, 11, 12, 13, 26, 27, 28, 29, 30, 31, 32, 33, 34, 35, 36, 37, 38, 39, 40, 41, 42, 43, 44, 45, 46, 47] (by decide +kernel) (by decide +kernel)
set_option maxRecDepth 20000 in
theorem gX6_pullAt_X6_pullOf : GoodIn wsX6_pullAt (wsV RX6 73 RX6 yX6_pullOf wsX6_pullOf) := goodIn_app (goodIn_of _ (by decide +kernel)) ggX6_pullAt_X6_pullOf
theorem dX6_pullAt_0 : decode cX6_pullAt 0 = .ok (.aload_n 0, 1) := by decide +kernel
theorem dX6_pullAt_1 : decode cX6_pullAt 1 = .ok (.iload_n 1, 1) := by decide +kernel
theorem dX6_pullAt_2 : decode cX6_pullAt 2 = .ok (.invokevirtual 62, 3) := by decide +kernel
theorem dX6_pullAt_5 : decode cX6_pullAt 5 = .ok (.ifCond .eq 18, 3) := by decide +kernel
theorem dX6_pullAt_8 : decode cX6_pullAt 8 = .ok (.aload_n 0, 1) := by decide +kernel
theorem dX6_pullAt_9 : decode cX6_pullAt 9 = .ok (.iload_n 1, 1) := by decide +kernel
theorem dX6_pullAt_10 : decode cX6_pullAt 10 = .ok (.aload_n 0, 1) := by decide +kernel
theorem dX6_pullAt_11 : decode cX6_pullAt 11 = .ok (.iload_n 1, 1) := by decide +kernel
theorem dX6_pullAt_12 : decode cX6_pullAt 12 = .ok (.bipush 8, 2) := by decide +kernel
theorem dX6_pullAt_14 : decode cX6_pullAt 14 = .ok (.invokevirtual 53, 3) := by decide +kernel
theorem dX6_pullAt_17 : decode cX6_pullAt 17 = .ok (.invokevirtual 70, 3) := by decide +kernel
theorem dX6_pullAt_20 : decode cX6_pullAt 20 = .ok (.goto 10, 3) := by decide +kernel
theorem dX6_pullAt_23 : decode cX6_pullAt 23 = .ok (.aload_n 0, 1) := by decide +kernel
theorem dX6_pullAt_24 : decode cX6_pullAt 24 = .ok (.iload_n 1, 1) := by decide +kernel
theorem dX6_pullAt_25 : decode cX6_pullAt 25 = .ok (.iload_n 2, 1) := by decide +kernel
theorem dX6_pullAt_26 : decode cX6_pullAt 26 = .ok (.iload_n 3, 1) := by decide +kernel
theorem dX6_pullAt_27 : decode cX6_pullAt 27 = .ok (.invokevirtual 73, 3) := by decide +kernel
theorem dX6_pullAt_30 : decode cX6_pullAt 30 = .ok (.ireturn, 1) := by decide +kernel
set_option maxRecDepth 20000 in
theorem ggX6_spring_X6_of : GoodIn wsX6_spring wsX6_of := goodIn_r _ [5, 6, 7, 8, 4, 9, 10, 11, 12, 13, 14, 15, 16, 17, 18, 19, 20, 21, 22, 23, 24, 25, 26, 27, 28, 29, 30, 31] (by decide +kernel) (by decide +kernel)
set_option maxRecDepth 20000 in
theorem gX6_spring_X6_of : GoodIn wsX6_spring (wsV RX6 53 RX6 yX6_of wsX6_of) := goodIn_app (goodIn_of _ (by decide +kernel)) ggX6_spring_X6_of
theorem dX6_spring_0 : decode cX6_spring 0 = .ok (.aload_n 0, 1) := by decide +kernel
theorem dX6_spring_1 : decode cX6_spring 1 = .ok (.iload_n 1, 1) := by decide +kernel
theorem dX6_spring_2 : decode cX6_spring 2 = .ok (.iconst 2, 1) := by decide +kernel
theorem dX6_spring_3 : decode cX6_spring 3 = .ok (.invokevirtual 53, 3) := by decide +kernel
theorem dX6_spring_6 : decode cX6_spring 6 = .ok (.iload_n 2, 1) := by decide +kernel
theorem dX6_spring_7 : decode cX6_spring 7 = .ok (.aload_n 0, 1) := by decide +kernel
theorem dX6_spring_8 : decode cX6_spring 8 = .ok (.iload_n 1, 1) := by decide +kernel
theorem dX6_spring_9 : decode cX6_spring 9 = .ok (.iconst 3, 1) := by decide +kernel
theorem dX6_spring_10 : decode cX6_spring 10 = .ok (.invokevirtual 53, 3) := by decide +kernel
theorem dX6_spring_13 : decode cX6_spring 13 = .ok (.isub, 1) := by decide +kernel
theorem dX6_spring_14 : decode cX6_spring 14 = .ok (.imul, 1) := by decide +kernel
theorem dX6_spring_15 : decode cX6_spring 15 = .ok (.ireturn, 1) := by decide +kernel
set_option maxRecDepth 20000 in
theorem ggX6_net_X6_of : GoodIn wsX6_net wsX6_of := goodIn_r _ [5, 6, 7, 8, 4, 9, 34, 35, 36, 37, 38, 39, 40, 41, 42, 43, 44, 45, 46, 47, 48, 49, 50, 51, 52, 53, 54, 55] (by decide +kernel) (by decide +kernel)
set_option maxRecDepth 20000 in
theorem gX6_net_X6_of : GoodIn wsX6_net (wsV RX6 53 RX6 yX6_of wsX6_of) := goodIn_app (goodIn_of _ (by decide +kernel)) ggX6_net_X6_of
set_option maxRecDepth 20000 in
theorem ggX6_net_X6_pullAt : GoodIn wsX6_net wsX6_pullAt := goodIn_r _ [13, 14, 15, 16, 4, 17, 1, 2, 3, 5, 6, 7, 8, 9, 18, 19, 20, 21, 22, 23, 24, 25, 26, 27, 28, 29, 34, 35, 36, 37, 38, 39, 40, 41, 42, 43, 44, 45, 46, 47, 48, 49, 50, 51, 52, 53, 54, 55] (by decide +kernel) (by decide +kernel)
set_option maxRecDepth 20000 in
theorem gX6_net_X6_pullAt : GoodIn wsX6_net (wsV RX6 77 RX6 yX6_pullAt wsX6_pullAt) := goodIn_app (goodIn_of _ (by decide +kernel)) ggX6_net_X6_pullAt
set_option maxRecDepth 20000 in
theorem ggX6_net_X6_spring : GoodIn wsX6_net wsX6_spring := goodIn_r _ [33, 1, 2, 3, 4, 5, 6, 7, 8, 9, 34, 35, 36, 37, 38, 39, 40, 41, 42, 43, 44, 45, 46, 47, 48, 49, 50, 51, 52, 53, 54, 55] (by decide +kernel) (by decide +kernel)
set_option maxRecDepth 20000 in
theorem gX6_net_X6_spring : GoodIn wsX6_net (wsV RX6 80 RX6 yX6_spring wsX6_spring) := goodIn_app (goodIn_of _ (by decide +kernel)) ggX6_net_X6_spring
theorem dX6_net_0 : decode cX6_net 0 = .ok (.aload_n 0, 1) := by decide +kernel
theorem dX6_net_1 : decode cX6_net 1 = .ok (.iload_n 1, 1) := by decide +kernel
theorem dX6_net_2 : decode cX6_net 2 = .ok (.aload_n 0, 1) := by decide +kernel
theorem dX6_net_3 : decode cX6_net 3 = .ok (.iload_n 1, 1) := by decide +kernel
theorem dX6_net_4 : decode cX6_net 4 = .ok (.bipush 6, 2) := by decide +kernel
theorem dX6_net_6 : decode cX6_net 6 = .ok (.invokevirtual 53, 3) := by decide +kernel
theorem dX6_net_9 : decode cX6_net 9 = .ok (.aload_n 0, 1) := by decide +kernel
theorem dX6_net_10 : decode cX6_net 10 = .ok (.iload_n 1, 1) := by decide +kernel
theorem dX6_net_11 : decode cX6_net 11 = .ok (.bipush 7, 2) := by decide +kernel
theorem dX6_net_13 : decode cX6_net 13 = .ok (.invokevirtual 53, 3) := by decide +kernel
theorem dX6_net_16 : decode cX6_net 16 = .ok (.invokevirtual 77, 3) := by decide +kernel
theorem dX6_net_19 : decode cX6_net 19 = .ok (.aload_n 0, 1) := by decide +kernel
theorem dX6_net_20 : decode cX6_net 20 = .ok (.iload_n 1, 1) := by decide +kernel
theorem dX6_net_21 : decode cX6_net 21 = .ok (.aload_n 0, 1) := by decide +kernel
theorem dX6_net_22 : decode cX6_net 22 = .ok (.iload_n 1, 1) := by decide +kernel
theorem dX6_net_23 : decode cX6_net 23 = .ok (.bipush 6, 2) := by decide +kernel
theorem dX6_net_25 : decode cX6_net 25 = .ok (.invokevirtual 53, 3) := by decide +kernel
theorem dX6_net_28 : decode cX6_net 28 = .ok (.invokevirtual 80, 3) := by decide +kernel
theorem dX6_net_31 : decode cX6_net 31 = .ok (.isub, 1) := by decide +kernel
theorem dX6_net_32 : decode cX6_net 32 = .ok (.ireturn, 1) := by decide +kernel
theorem dX6_size_0 : decode cX6_size 0 = .ok (.iload_n 0, 1) := by decide +kernel
theorem dX6_size_1 : decode cX6_size 1 = .ok (.ifCond .ge 8, 3) := by decide +kernel
theorem dX6_size_4 : decode cX6_size 4 = .ok (.iload_n 0, 1) := by decide +kernel
theorem dX6_size_5 : decode cX6_size 5 = .ok (.ineg, 1) := by decide +kernel
theorem dX6_size_6 : decode cX6_size 6 = .ok (.goto 4, 3) := by decide +kernel
theorem dX6_size_9 : decode cX6_size 9 = .ok (.iload_n 0, 1) := by decide +kernel
theorem dX6_size_10 : decode cX6_size 10 = .ok (.ireturn, 1) := by decide +kernel
set_option maxRecDepth 20000 in
theorem ggX6_move_X6_size : GoodIn wsX6_move wsX6_size := goodIn_r _ [4] (by decide +kernel) (by decide +kernel)
set_option maxRecDepth 20000 in
theorem gX6_move_X6_size : GoodIn wsX6_move (va_wsS RX6 83 yX6_size wsX6_size) := goodIn_app (goodIn_of _ (by decide +kernel)) ggX6_move_X6_size
set_option maxRecDepth 20000 in
theorem ggX6_move_X6_of : GoodIn wsX6_move wsX6_of := goodIn_r _ [8, 9, 10, 11, 3, 12, 13, 14, 15, 16, 17, 18, 19, 20, 21, 22, 23, 24, 25, 26, 27, 28, 29, 30, 31, 32, 33, 34] (by decide +kernel) (by decide +kernel)
set_option maxRecDepth 20000 in
theorem gX6_move_X6_of : GoodIn wsX6_move (wsV RX6 53 RX6 yX6_of wsX6_of) := goodIn_app (goodIn_of _ (by decide +kernel)) ggX6_move_X6_of
theorem dX6_move_0 : decode cX6_move 0 = .ok (.iload_n 3, 1) := by decide +kernel
theorem dX6_move_1 : decode cX6_move 1 = .ok (.invokestatic 83, 3) := by decide +kernel
theorem dX6_move_4 : decode cX6_move 4 = .ok (.aload_n 0, 1) := by decide +kernel
theorem dX6_move_5 : decode cX6_move 5 = .ok (.iload_n 1, 1) := by decide +kernel
theorem dX6_move_6 : decode cX6_move 6 = .ok (.iconst 4, 1) := by decide +kernel
theorem dX6_move_7 : decode cX6_move 7 = .ok (.invokevirtual 53, 3) := by decide +kernel
theorem dX6_move_10 : decode cX6_move 10 = .ok (.if_icmp .gt 5, 3) := by decide +kernel
theorem dX6_move_13 : decode cX6_move 13 = .ok (.iconst 0, 1) := by decide +kernel
theorem dX6_move_14 : decode cX6_move 14 = .ok (.ireturn, 1) := by decide +kernel
theorem dX6_move_15 : decode cX6_move 15 = .ok (.iload_n 3, 1) := by decide +kernel
theorem dX6_move_16 : decode cX6_move 16 = .ok (.ifCond .le 17, 3) := by decide +kernel
theorem dX6_move_19 : decode cX6_move 19 = .ok (.iload_n 2, 1) := by decide +kernel
theorem dX6_move_20 : decode cX6_move 20 = .ok (.bipush 40, 2) := by decide +kernel
theorem dX6_move_22 : decode cX6_move 22 = .ok (.if_icmp .ge 7, 3) := by decide +kernel
theorem dX6_move_25 : decode cX6_move 25 = .ok (.iconst 1, 1) := by decide +kernel
theorem dX6_move_26 : decode cX6_move 26 = .ok (.goto 16, 3) := by decide +kernel
theorem dX6_move_29 : decode cX6_move 29 = .ok (.iconst 0, 1) := by decide +kernel
theorem dX6_move_30 : decode cX6_move 30 = .ok (.goto 12, 3) := by decide +kernel
theorem dX6_move_33 : decode cX6_move 33 = .ok (.iload_n 2, 1) := by decide +kernel
theorem dX6_move_34 : decode cX6_move 34 = .ok (.ifCond .le 7, 3) := by decide +kernel
theorem dX6_move_37 : decode cX6_move 37 = .ok (.iconst (-1), 1) := by decide +kernel
theorem dX6_move_38 : decode cX6_move 38 = .ok (.goto 4, 3) := by decide +kernel
theorem dX6_move_41 : decode cX6_move 41 = .ok (.iconst 0, 1) := by decide +kernel
theorem dX6_move_42 : decode cX6_move 42 = .ok (.ireturn, 1) := by decide +kernel
set_option maxRecDepth 20000 in
theorem ggX6_leak_X6_of : GoodIn wsX6_leak wsX6_of := goodIn_r _ [6, 7, 8, 9, 5, 10, 11, 12, 13, 14, 15, 16, 17, 18, 19, 20, 21, 22, 23, 24, 25, 26, 27, 28, 29, 30, 31, 32] (by decide +kernel) (by decide +kernel)
set_option maxRecDepth 20000 in
theorem gX6_leak_X6_of : GoodIn wsX6_leak (wsV RX6 53 RX6 yX6_of wsX6_of) := goodIn_app (goodIn_of _ (by decide +kernel)) ggX6_leak_X6_of
theorem dX6_leak_0 : decode cX6_leak 0 = .ok (.iload_n 2, 1) := by decide +kernel
theorem dX6_leak_1 : decode cX6_leak 1 = .ok (.i2l, 1) := by decide +kernel
theorem dX6_leak_2 : decode cX6_leak 2 = .ok (.aload_n 0, 1) := by decide +kernel
theorem dX6_leak_3 : decode cX6_leak 3 = .ok (.iload_n 1, 1) := by decide +kernel
theorem dX6_leak_4 : decode cX6_leak 4 = .ok (.iconst 5, 1) := by decide +kernel
theorem dX6_leak_5 : decode cX6_leak 5 = .ok (.invokevirtual 53, 3) := by decide +kernel
theorem dX6_leak_8 : decode cX6_leak 8 = .ok (.i2l, 1) := by decide +kernel
theorem dX6_leak_9 : decode cX6_leak 9 = .ok (.lmul, 1) := by decide +kernel
theorem dX6_leak_10 : decode cX6_leak 10 = .ok (.ldc2_w 86, 3) := by decide +kernel
theorem dX6_leak_13 : decode cX6_leak 13 = .ok (.ldiv, 1) := by decide +kernel
theorem dX6_leak_14 : decode cX6_leak 14 = .ok (.l2i, 1) := by decide +kernel
theorem dX6_leak_15 : decode cX6_leak 15 = .ok (.ireturn, 1) := by decide +kernel
set_option maxRecDepth 20000 in
theorem ggX6_charges_X6_isOn : GoodIn wsX6_charges wsX6_isOn := goodIn_r _ [8, 9, 10, 11, 7, 12, 3, 13, 14, 15, 24, 25, 26, 27, 28, 29, 30, 31, 32, 33, 34, 35, 36, 37, 38, 39, 40, 41, 42, 43, 44, 45] (by decide +kernel) (by decide +kernel)
set_option maxRecDepth 20000 in
theorem gX6_charges_X6_isOn : GoodIn wsX6_charges (wsV RX6 62 RX6 yX6_isOn wsX6_isOn) := goodIn_app (goodIn_of _ (by decide +kernel)) ggX6_charges_X6_isOn
set_option maxRecDepth 20000 in
theorem ggX6_charges_X6_capacityNow : GoodIn wsX6_charges wsX6_capacityNow := goodIn_r _ [19, 9, 10, 11, 7, 12, 3, 13, 14, 15, 20, 21, 22, 23, 24, 25, 26, 27, 28, 29, 30, 31, 32, 33, 34, 35, 36, 37, 38, 39, 40, 41, 42, 43, 44, 45] (by decide +kernel) (by decide +kernel)
set_option maxRecDepth 20000 in
theorem gX6_charges_X6_capacityNow : GoodIn wsX6_charges (wsV RX6 66 RX6 yX6_capacityNow wsX6_capacityNow) := goodIn_app (goodIn_of _ (by decide +kernel)) ggX6_charges_X6_capacityNow
set_option maxRecDepth 20000 in
theorem ggX6_charges_X6_of : GoodIn wsX6_charges wsX6_of := goodIn_r _ [12, 3, 13, 14, 7, 15, 24, 25, 26, 27, 28, 29, 30, 31, 32, 33, 34, 35, 36, 37, 38, 39, 40, 41, 42, 43, 44, 45] (by decide +kernel) (by decide +kernel)
set_option maxRecDepth 20000 in
theorem gX6_charges_X6_of : GoodIn wsX6_charges (wsV RX6 53 RX6 yX6_of wsX6_of) := goodIn_app (goodIn_of _ (by decide +kernel)) ggX6_charges_X6_of
set_option maxRecDepth 20000 in
theorem ggX6_charges_X6_at : GoodIn wsX6_charges wsX6_at := goodIn_r _ [15] (by decide +kernel) (by decide +kernel)
set_option maxRecDepth 20000 in
theorem gX6_charges_X6_at : GoodIn wsX6_charges (va_wsS RX6 45 yX6_at wsX6_at) := goodIn_app (goodIn_of _ (by decide +kernel)) ggX6_charges_X6_at
theorem dX6_charges_0 : decode cX6_charges 0 = .ok (.aload_n 0, 1) := by decide +kernel
theorem dX6_charges_1 : decode cX6_charges 1 = .ok (.iload_n 1, 1) := by decide +kernel
theorem dX6_charges_2 : decode cX6_charges 2 = .ok (.invokevirtual 62, 3) := by decide +kernel
theorem dX6_charges_5 : decode cX6_charges 5 = .ok (.ifCond .eq 65, 3) := by decide +kernel
theorem dX6_charges_8 : decode cX6_charges 8 = .ok (.aload_n 0, 1) := by decide +kernel
theorem dX6_charges_9 : decode cX6_charges 9 = .ok (.iload_n 1, 1) := by decide +kernel
theorem dX6_charges_10 : decode cX6_charges 10 = .ok (.invokevirtual 66, 3) := by decide +kernel
theorem dX6_charges_13 : decode cX6_charges 13 = .ok (.aload_n 0, 1) := by decide +kernel
theorem dX6_charges_14 : decode cX6_charges 14 = .ok (.iload_n 1, 1) := by decide +kernel
theorem dX6_charges_15 : decode cX6_charges 15 = .ok (.bipush 8, 2) := by decide +kernel
theorem dX6_charges_17 : decode cX6_charges 17 = .ok (.invokevirtual 53, 3) := by decide +kernel
theorem dX6_charges_20 : decode cX6_charges 20 = .ok (.imul, 1) := by decide +kernel
theorem dX6_charges_21 : decode cX6_charges 21 = .ok (.istore_n 2, 1) := by decide +kernel
theorem dX6_charges_22 : decode cX6_charges 22 = .ok (.aload_n 0, 1) := by decide +kernel
theorem dX6_charges_23 : decode cX6_charges 23 = .ok (.getfield 13, 3) := by decide +kernel
theorem dX6_charges_26 : decode cX6_charges 26 = .ok (.iconst 3, 1) := by decide +kernel
theorem dX6_charges_27 : decode cX6_charges 27 = .ok (.iload_n 1, 1) := by decide +kernel
theorem dX6_charges_28 : decode cX6_charges 28 = .ok (.imul, 1) := by decide +kernel
theorem dX6_charges_29 : decode cX6_charges 29 = .ok (.iconst 0, 1) := by decide +kernel
theorem dX6_charges_30 : decode cX6_charges 30 = .ok (.iadd, 1) := by decide +kernel
theorem dX6_charges_31 : decode cX6_charges 31 = .ok (.dup2, 1) := by decide +kernel
theorem dX6_charges_32 : decode cX6_charges 32 = .ok (.laload, 1) := by decide +kernel
theorem dX6_charges_33 : decode cX6_charges 33 = .ok (.ldc2_w 88, 3) := by decide +kernel
theorem dX6_charges_36 : decode cX6_charges 36 = .ok (.aload_n 0, 1) := by decide +kernel
theorem dX6_charges_37 : decode cX6_charges 37 = .ok (.iload_n 1, 1) := by decide +kernel
theorem dX6_charges_38 : decode cX6_charges 38 = .ok (.bipush 8, 2) := by decide +kernel
theorem dX6_charges_40 : decode cX6_charges 40 = .ok (.invokevirtual 53, 3) := by decide +kernel
theorem dX6_charges_43 : decode cX6_charges 43 = .ok (.i2l, 1) := by decide +kernel
theorem dX6_charges_44 : decode cX6_charges 44 = .ok (.lmul, 1) := by decide +kernel
theorem dX6_charges_45 : decode cX6_charges 45 = .ok (.iload_n 2, 1) := by decide +kernel
theorem dX6_charges_46 : decode cX6_charges 46 = .ok (.aload_n 0, 1) := by decide +kernel
theorem dX6_charges_47 : decode cX6_charges 47 = .ok (.iload_n 1, 1) := by decide +kernel
theorem dX6_charges_48 : decode cX6_charges 48 = .ok (.bipush 7, 2) := by decide +kernel
theorem dX6_charges_50 : decode cX6_charges 50 = .ok (.invokevirtual 53, 3) := by decide +kernel
theorem dX6_charges_53 : decode cX6_charges 53 = .ok (.isub, 1) := by decide +kernel
theorem dX6_charges_54 : decode cX6_charges 54 = .ok (.i2l, 1) := by decide +kernel
theorem dX6_charges_55 : decode cX6_charges 55 = .ok (.lmul, 1) := by decide +kernel
theorem dX6_charges_56 : decode cX6_charges 56 = .ok (.ladd, 1) := by decide +kernel
theorem dX6_charges_57 : decode cX6_charges 57 = .ok (.lastore, 1) := by decide +kernel
theorem dX6_charges_58 : decode cX6_charges 58 = .ok (.aload_n 0, 1) := by decide +kernel
theorem dX6_charges_59 : decode cX6_charges 59 = .ok (.getfield 7, 3) := by decide +kernel
theorem dX6_charges_62 : decode cX6_charges 62 = .ok (.iload_n 1, 1) := by decide +kernel
theorem dX6_charges_63 : decode cX6_charges 63 = .ok (.bipush 7, 2) := by decide +kernel
theorem dX6_charges_65 : decode cX6_charges 65 = .ok (.invokestatic 45, 3) := by decide +kernel
theorem dX6_charges_68 : decode cX6_charges 68 = .ok (.iload_n 2, 1) := by decide +kernel
theorem dX6_charges_69 : decode cX6_charges 69 = .ok (.iastore, 1) := by decide +kernel
theorem dX6_charges_70 : decode cX6_charges 70 = .ok (.return_, 1) := by decide +kernel
set_option maxRecDepth 20000 in
theorem ggX6_tick_X6_isOn : GoodIn wsX6_tick wsX6_isOn := goodIn_r _ [7, 8, 9, 10, 6, 11, 1, 12, 13, 14, 64, 65, 66, 67, 68, 69, 70, 71, 72, 73, 74, 75, 76, 77, 78, 79, 80, 81, 82, 83, 84, 85] (by decide +kernel) (by decide +kernel)
set_option maxRecDepth 20000 in
theorem gX6_tick_X6_isOn : GoodIn wsX6_tick (wsV RX6 62 RX6 yX6_isOn wsX6_isOn) := goodIn_app (goodIn_of _ (by decide +kernel)) ggX6_tick_X6_isOn
set_option maxRecDepth 20000 in
theorem ggX6_tick_X6_stored : GoodIn wsX6_tick wsX6_stored := goodIn_r _ [18, 8, 9, 10, 6, 11, 1, 12, 13, 14, 3, 4, 5, 7, 19, 20, 21, 22, 23, 24, 25, 26, 64, 65, 66, 67, 68, 69, 70, 71, 72, 73, 74, 75, 76, 77, 78, 79, 80, 81, 82, 83, 84, 85] (by decide +kernel) (by decide +kernel)
set_option maxRecDepth 20000 in
theorem gX6_tick_X6_stored : GoodIn wsX6_tick (wsV RX6 90 RX6 yX6_stored wsX6_stored) := goodIn_app (goodIn_of _ (by decide +kernel)) ggX6_tick_X6_stored
set_option maxRecDepth 20000 in
theorem ggX6_tick_X6_at : GoodIn wsX6_tick wsX6_at := goodIn_r _ [14] (by decide +kernel) (by decide +kernel)
set_option maxRecDepth 20000 in
theorem gX6_tick_X6_at : GoodIn wsX6_tick (va_wsS RX6 45 yX6_at wsX6_at) := goodIn_app (goodIn_of _ (by decide +kernel)) ggX6_tick_X6_at
set_option maxRecDepth 20000 in
theorem ggX6_tick_X6_of : GoodIn wsX6_tick wsX6_of := goodIn_r _ [11, 1, 12, 13, 6, 14, 64, 65, 66, 67, 68, 69, 70, 71, 72, 73, 74, 75, 76, 77, 78, 79, 80, 81, 82, 83, 84, 85] (by decide +kernel) (by decide +kernel)
set_option maxRecDepth 20000 in
theorem gX6_tick_X6_of : GoodIn wsX6_tick (wsV RX6 53 RX6 yX6_of wsX6_of) := goodIn_app (goodIn_of _ (by decide +kernel)) ggX6_tick_X6_of
set_option maxRecDepth 20000 in
theorem ggX6_tick_X6_leak : GoodIn wsX6_tick wsX6_leak := goodIn_r _ [30, 31, 8, 9, 10, 6, 11, 1, 12, 13, 14, 64, 65, 66, 67, 68, 69, 70, 71, 72, 73, 74, 75, 76, 77, 78, 79, 80, 81, 82, 83, 84, 85] (by decide +kernel) (by decide +kernel)
set_option maxRecDepth 20000 in
theorem gX6_tick_X6_leak : GoodIn wsX6_tick (wsV RX6 94 RX6 yX6_leak wsX6_leak) := goodIn_app (goodIn_of _ (by decide +kernel)) ggX6_tick_X6_leak
set_option maxRecDepth 20000 in
theorem ggX6_tick_X6_net : GoodIn wsX6_tick wsX6_net := goodIn_r _ [35, 8, 9, 10, 6, 11, 1, 12, 13, 14, 36, 37, 38, 39, 3, 4, 5, 7, 40, 41, 42, 43, 44, 45, 46, 47, 23, 24, 25, 26, 48, 49, 50, 51, 64, 65, 66, 67, 68, 69, 70, 71, 72, 73, 74, 75, 76, 77, 78, 79, 80, 81, 82, 83, 84, 85] (by decide +kernel) (by decide +kernel)
set_option maxRecDepth 20000 in
theorem gX6_tick_X6_net : GoodIn wsX6_tick (wsV RX6 97 RX6 yX6_net wsX6_net) := goodIn_app (goodIn_of _ (by decide +kernel)) ggX6_tick_X6_net
set_option maxRecDepth 20000 in
theorem ggX6_tick_X6_move : GoodIn wsX6_tick wsX6_move := goodIn_r _ [55, 56, 57, 6, 58, 8, 9, 10, 11, 1, 12, 13, 14, 64, 65, 66, 67, 68, 69, 70, 71, 72, 73, 74, 75, 76, 77, 78, 79, 80, 81, 82, 83, 84, 85] (by decide +kernel) (by decide +kernel)
set_option maxRecDepth 20000 in
theorem gX6_tick_X6_move : GoodIn wsX6_tick (wsV RX6 100 RX6 yX6_move wsX6_move) := goodIn_app (goodIn_of _ (by decide +kernel)) ggX6_tick_X6_move
set_option maxRecDepth 20000 in
theorem ggX6_tick_X6_size : GoodIn wsX6_tick wsX6_size := goodIn_r _ [58] (by decide +kernel) (by decide +kernel)
set_option maxRecDepth 20000 in
theorem gX6_tick_X6_size : GoodIn wsX6_tick (va_wsS RX6 83 yX6_size wsX6_size) := goodIn_app (goodIn_of _ (by decide +kernel)) ggX6_tick_X6_size
set_option maxRecDepth 20000 in
theorem ggX6_tick_X6_charges : GoodIn wsX6_tick wsX6_charges := goodIn_r _ [62, 2, 63, 1, 3, 4, 5, 6, 7, 8, 9, 10, 11, 12, 13, 14, 19, 20, 21, 22, 23, 24, 25, 26, 64, 65, 66, 67, 68, 69, 70, 71, 72, 73, 74, 75, 76, 77, 78, 79, 80, 81, 82, 83, 84, 85] (by decide +kernel) (by decide +kernel)
set_option maxRecDepth 20000 in
theorem gX6_tick_X6_charges : GoodIn wsX6_tick (wsV RX6 103 RX6 yX6_charges wsX6_charges) := goodIn_app (goodIn_of _ (by decide +kernel)) ggX6_tick_X6_charges
theorem dX6_tick_0 : decode cX6_tick 0 = .ok (.aload_n 0, 1) := by decide +kernel
theorem dX6_tick_1 : decode cX6_tick 1 = .ok (.iload_n 1, 1) := by decide +kernel
theorem dX6_tick_2 : decode cX6_tick 2 = .ok (.invokevirtual 62, 3) := by decide +kernel
theorem dX6_tick_5 : decode cX6_tick 5 = .ok (.ifCond .ne 55, 3) := by decide +kernel
theorem dX6_tick_8 : decode cX6_tick 8 = .ok (.aload_n 0, 1) := by decide +kernel
theorem dX6_tick_9 : decode cX6_tick 9 = .ok (.iload_n 1, 1) := by decide +kernel
theorem dX6_tick_10 : decode cX6_tick 10 = .ok (.invokevirtual 90, 3) := by decide +kernel
theorem dX6_tick_13 : decode cX6_tick 13 = .ok (.lstore_n 2, 1) := by decide +kernel
theorem dX6_tick_14 : decode cX6_tick 14 = .ok (.aload_n 0, 1) := by decide +kernel
theorem dX6_tick_15 : decode cX6_tick 15 = .ok (.getfield 7, 3) := by decide +kernel
theorem dX6_tick_18 : decode cX6_tick 18 = .ok (.iload_n 1, 1) := by decide +kernel
theorem dX6_tick_19 : decode cX6_tick 19 = .ok (.bipush 7, 2) := by decide +kernel
theorem dX6_tick_21 : decode cX6_tick 21 = .ok (.invokestatic 45, 3) := by decide +kernel
theorem dX6_tick_24 : decode cX6_tick 24 = .ok (.dup2, 1) := by decide +kernel
theorem dX6_tick_25 : decode cX6_tick 25 = .ok (.iaload, 1) := by decide +kernel
theorem dX6_tick_26 : decode cX6_tick 26 = .ok (.aload_n 0, 1) := by decide +kernel
theorem dX6_tick_27 : decode cX6_tick 27 = .ok (.iload_n 1, 1) := by decide +kernel
theorem dX6_tick_28 : decode cX6_tick 28 = .ok (.aload_n 0, 1) := by decide +kernel
theorem dX6_tick_29 : decode cX6_tick 29 = .ok (.iload_n 1, 1) := by decide +kernel
theorem dX6_tick_30 : decode cX6_tick 30 = .ok (.bipush 7, 2) := by decide +kernel
theorem dX6_tick_32 : decode cX6_tick 32 = .ok (.invokevirtual 53, 3) := by decide +kernel
theorem dX6_tick_35 : decode cX6_tick 35 = .ok (.invokevirtual 94, 3) := by decide +kernel
theorem dX6_tick_38 : decode cX6_tick 38 = .ok (.isub, 1) := by decide +kernel
theorem dX6_tick_39 : decode cX6_tick 39 = .ok (.iastore, 1) := by decide +kernel
theorem dX6_tick_40 : decode cX6_tick 40 = .ok (.aload_n 0, 1) := by decide +kernel
theorem dX6_tick_41 : decode cX6_tick 41 = .ok (.getfield 13, 3) := by decide +kernel
theorem dX6_tick_44 : decode cX6_tick 44 = .ok (.iconst 3, 1) := by decide +kernel
theorem dX6_tick_45 : decode cX6_tick 45 = .ok (.iload_n 1, 1) := by decide +kernel
theorem dX6_tick_46 : decode cX6_tick 46 = .ok (.imul, 1) := by decide +kernel
theorem dX6_tick_47 : decode cX6_tick 47 = .ok (.iconst 1, 1) := by decide +kernel
theorem dX6_tick_48 : decode cX6_tick 48 = .ok (.iadd, 1) := by decide +kernel
theorem dX6_tick_49 : decode cX6_tick 49 = .ok (.dup2, 1) := by decide +kernel
theorem dX6_tick_50 : decode cX6_tick 50 = .ok (.laload, 1) := by decide +kernel
theorem dX6_tick_51 : decode cX6_tick 51 = .ok (.lload_n 2, 1) := by decide +kernel
theorem dX6_tick_52 : decode cX6_tick 52 = .ok (.aload_n 0, 1) := by decide +kernel
theorem dX6_tick_53 : decode cX6_tick 53 = .ok (.iload_n 1, 1) := by decide +kernel
theorem dX6_tick_54 : decode cX6_tick 54 = .ok (.invokevirtual 90, 3) := by decide +kernel
theorem dX6_tick_57 : decode cX6_tick 57 = .ok (.lsub, 1) := by decide +kernel
theorem dX6_tick_58 : decode cX6_tick 58 = .ok (.ladd, 1) := by decide +kernel
theorem dX6_tick_59 : decode cX6_tick 59 = .ok (.lastore, 1) := by decide +kernel
theorem dX6_tick_60 : decode cX6_tick 60 = .ok (.aload_n 0, 1) := by decide +kernel
theorem dX6_tick_61 : decode cX6_tick 61 = .ok (.iload_n 1, 1) := by decide +kernel
theorem dX6_tick_62 : decode cX6_tick 62 = .ok (.aload_n 0, 1) := by decide +kernel
theorem dX6_tick_63 : decode cX6_tick 63 = .ok (.iload_n 1, 1) := by decide +kernel
theorem dX6_tick_64 : decode cX6_tick 64 = .ok (.bipush 6, 2) := by decide +kernel
theorem dX6_tick_66 : decode cX6_tick 66 = .ok (.invokevirtual 53, 3) := by decide +kernel
theorem dX6_tick_69 : decode cX6_tick 69 = .ok (.aload_n 0, 1) := by decide +kernel
theorem dX6_tick_70 : decode cX6_tick 70 = .ok (.iload_n 1, 1) := by decide +kernel
theorem dX6_tick_71 : decode cX6_tick 71 = .ok (.invokevirtual 97, 3) := by decide +kernel
theorem dX6_tick_74 : decode cX6_tick 74 = .ok (.invokevirtual 100, 3) := by decide +kernel
theorem dX6_tick_77 : decode cX6_tick 77 = .ok (.istore_n 2, 1) := by decide +kernel
theorem dX6_tick_78 : decode cX6_tick 78 = .ok (.aload_n 0, 1) := by decide +kernel
theorem dX6_tick_79 : decode cX6_tick 79 = .ok (.getfield 7, 3) := by decide +kernel
theorem dX6_tick_82 : decode cX6_tick 82 = .ok (.iload_n 1, 1) := by decide +kernel
theorem dX6_tick_83 : decode cX6_tick 83 = .ok (.bipush 6, 2) := by decide +kernel
theorem dX6_tick_85 : decode cX6_tick 85 = .ok (.invokestatic 45, 3) := by decide +kernel
theorem dX6_tick_88 : decode cX6_tick 88 = .ok (.dup2, 1) := by decide +kernel
theorem dX6_tick_89 : decode cX6_tick 89 = .ok (.iaload, 1) := by decide +kernel
theorem dX6_tick_90 : decode cX6_tick 90 = .ok (.iload_n 2, 1) := by decide +kernel
theorem dX6_tick_91 : decode cX6_tick 91 = .ok (.iadd, 1) := by decide +kernel
theorem dX6_tick_92 : decode cX6_tick 92 = .ok (.iastore, 1) := by decide +kernel
theorem dX6_tick_93 : decode cX6_tick 93 = .ok (.aload_n 0, 1) := by decide +kernel
theorem dX6_tick_94 : decode cX6_tick 94 = .ok (.getfield 7, 3) := by decide +kernel
theorem dX6_tick_97 : decode cX6_tick 97 = .ok (.iconst 2, 1) := by decide +kernel
theorem dX6_tick_98 : decode cX6_tick 98 = .ok (.dup2, 1) := by decide +kernel
theorem dX6_tick_99 : decode cX6_tick 99 = .ok (.iaload, 1) := by decide +kernel
theorem dX6_tick_100 : decode cX6_tick 100 = .ok (.iload_n 2, 1) := by decide +kernel
theorem dX6_tick_101 : decode cX6_tick 101 = .ok (.invokestatic 83, 3) := by decide +kernel
theorem dX6_tick_104 : decode cX6_tick 104 = .ok (.iadd, 1) := by decide +kernel
theorem dX6_tick_105 : decode cX6_tick 105 = .ok (.iastore, 1) := by decide +kernel
theorem dX6_tick_106 : decode cX6_tick 106 = .ok (.aload_n 0, 1) := by decide +kernel
theorem dX6_tick_107 : decode cX6_tick 107 = .ok (.iload_n 1, 1) := by decide +kernel
theorem dX6_tick_108 : decode cX6_tick 108 = .ok (.invokevirtual 103, 3) := by decide +kernel
theorem dX6_tick_111 : decode cX6_tick 111 = .ok (.iload_n 2, 1) := by decide +kernel
theorem dX6_tick_112 : decode cX6_tick 112 = .ok (.invokestatic 83, 3) := by decide +kernel
theorem dX6_tick_115 : decode cX6_tick 115 = .ok (.ireturn, 1) := by decide +kernel
set_option maxRecDepth 20000 in
theorem ggX6_passes_X6_tick : GoodIn wsX6_passes wsX6_tick := goodIn_r _ [7, 1, 8, 9, 10, 11, 6, 12, 13, 14, 15, 16, 17, 18, 19, 20, 21, 22, 23, 24, 25, 26, 27, 28, 29, 30, 31, 32, 33, 34, 35, 36, 37, 38, 39, 40, 41, 42, 43, 44, 45, 46, 47, 48, 49, 50, 51, 52, 53, 54, 55, 56, 57, 58, 59, 60, 61, 62, 63, 64, 65, 66, 67, 68, 69, 70, 71, 72, 73, 74, 75, 76, 77, 78, 79, 80, 81, 82, 83, 84, 85, 86, 87, 88, 89, 90] (by decide +kernel) (by decide +kernel)
set_option maxRecDepth 20000 in
theorem gX6_passes_X6_tick : GoodIn wsX6_passes (wsV RX6 108 RX6 yX6_tick wsX6_tick) := goodIn_app (goodIn_of _ (by decide +kernel)) ggX6_passes_X6_tick
theorem dX6_passes_0 : decode cX6_passes 0 = .ok (.aload_n 0, 1) := by decide +kernel
theorem dX6_passes_1 : decode cX6_passes 1 = .ok (.getfield 7, 3) := by decide +kernel
theorem dX6_passes_4 : decode cX6_passes 4 = .ok (.iconst 0, 1) := by decide +kernel
theorem dX6_passes_5 : decode cX6_passes 5 = .ok (.iaload, 1) := by decide +kernel
theorem dX6_passes_6 : decode cX6_passes 6 = .ok (.iload_n 1, 1) := by decide +kernel
theorem dX6_passes_7 : decode cX6_passes 7 = .ok (.iadd, 1) := by decide +kernel
theorem dX6_passes_8 : decode cX6_passes 8 = .ok (.ldc 107, 2) := by decide +kernel
theorem dX6_passes_10 : decode cX6_passes 10 = .ok (.if_icmp .le 6, 3) := by decide +kernel
theorem dX6_passes_13 : decode cX6_passes 13 = .ok (.bipush (-3), 2) := by decide +kernel
theorem dX6_passes_15 : decode cX6_passes 15 = .ok (.ireturn, 1) := by decide +kernel
theorem dX6_passes_16 : decode cX6_passes 16 = .ok (.iconst 0, 1) := by decide +kernel
theorem dX6_passes_17 : decode cX6_passes 17 = .ok (.istore_n 2, 1) := by decide +kernel
theorem dX6_passes_18 : decode cX6_passes 18 = .ok (.iconst 0, 1) := by decide +kernel
theorem dX6_passes_19 : decode cX6_passes 19 = .ok (.istore_n 3, 1) := by decide +kernel
theorem dX6_passes_20 : decode cX6_passes 20 = .ok (.iload_n 3, 1) := by decide +kernel
theorem dX6_passes_21 : decode cX6_passes 21 = .ok (.iload_n 1, 1) := by decide +kernel
theorem dX6_passes_22 : decode cX6_passes 22 = .ok (.if_icmp .ge 33, 3) := by decide +kernel
theorem dX6_passes_25 : decode cX6_passes 25 = .ok (.aload_n 0, 1) := by decide +kernel
theorem dX6_passes_26 : decode cX6_passes 26 = .ok (.iconst 0, 1) := by decide +kernel
theorem dX6_passes_27 : decode cX6_passes 27 = .ok (.invokevirtual 108, 3) := by decide +kernel
theorem dX6_passes_30 : decode cX6_passes 30 = .ok (.aload_n 0, 1) := by decide +kernel
theorem dX6_passes_31 : decode cX6_passes 31 = .ok (.iconst 1, 1) := by decide +kernel
theorem dX6_passes_32 : decode cX6_passes 32 = .ok (.invokevirtual 108, 3) := by decide +kernel
theorem dX6_passes_35 : decode cX6_passes 35 = .ok (.iadd, 1) := by decide +kernel
theorem dX6_passes_36 : decode cX6_passes 36 = .ok (.aload_n 0, 1) := by decide +kernel
theorem dX6_passes_37 : decode cX6_passes 37 = .ok (.iconst 2, 1) := by decide +kernel
theorem dX6_passes_38 : decode cX6_passes 38 = .ok (.invokevirtual 108, 3) := by decide +kernel
theorem dX6_passes_41 : decode cX6_passes 41 = .ok (.iadd, 1) := by decide +kernel
theorem dX6_passes_42 : decode cX6_passes 42 = .ok (.aload_n 0, 1) := by decide +kernel
theorem dX6_passes_43 : decode cX6_passes 43 = .ok (.iconst 3, 1) := by decide +kernel
theorem dX6_passes_44 : decode cX6_passes 44 = .ok (.invokevirtual 108, 3) := by decide +kernel
theorem dX6_passes_47 : decode cX6_passes 47 = .ok (.iadd, 1) := by decide +kernel
theorem dX6_passes_48 : decode cX6_passes 48 = .ok (.istore_n 2, 1) := by decide +kernel
theorem dX6_passes_49 : decode cX6_passes 49 = .ok (.iinc 3 1, 3) := by decide +kernel
theorem dX6_passes_52 : decode cX6_passes 52 = .ok (.goto (-32), 3) := by decide +kernel
theorem dX6_passes_55 : decode cX6_passes 55 = .ok (.aload_n 0, 1) := by decide +kernel
theorem dX6_passes_56 : decode cX6_passes 56 = .ok (.getfield 7, 3) := by decide +kernel
theorem dX6_passes_59 : decode cX6_passes 59 = .ok (.iconst 0, 1) := by decide +kernel
theorem dX6_passes_60 : decode cX6_passes 60 = .ok (.dup2, 1) := by decide +kernel
theorem dX6_passes_61 : decode cX6_passes 61 = .ok (.iaload, 1) := by decide +kernel
theorem dX6_passes_62 : decode cX6_passes 62 = .ok (.iload_n 1, 1) := by decide +kernel
theorem dX6_passes_63 : decode cX6_passes 63 = .ok (.iadd, 1) := by decide +kernel
theorem dX6_passes_64 : decode cX6_passes 64 = .ok (.iastore, 1) := by decide +kernel
theorem dX6_passes_65 : decode cX6_passes 65 = .ok (.iload_n 2, 1) := by decide +kernel
theorem dX6_passes_66 : decode cX6_passes 66 = .ok (.ireturn, 1) := by decide +kernel
set_option maxRecDepth 20000 in
theorem ggX6_turnsOn_X6_isOn : GoodIn wsX6_turnsOn wsX6_isOn := goodIn_r _ [6, 7, 8, 9, 5, 10, 1, 11, 12, 13, 28, 29, 30, 31, 32, 33, 34, 35, 36, 37, 38, 39, 40, 41, 42, 43, 44, 45, 46, 47, 48, 49] (by decide +kernel) (by decide +kernel)
set_option maxRecDepth 20000 in
theorem gX6_turnsOn_X6_isOn : GoodIn wsX6_turnsOn (wsV RX6 62 RX6 yX6_isOn wsX6_isOn) := goodIn_app (goodIn_of _ (by decide +kernel)) ggX6_turnsOn_X6_isOn
set_option maxRecDepth 20000 in
theorem ggX6_turnsOn_X6_of : GoodIn wsX6_turnsOn wsX6_of := goodIn_r _ [10, 1, 11, 12, 5, 13, 28, 29, 30, 31, 32, 33, 34, 35, 36, 37, 38, 39, 40, 41, 42, 43, 44, 45, 46, 47, 48, 49] (by decide +kernel) (by decide +kernel)
set_option maxRecDepth 20000 in
theorem gX6_turnsOn_X6_of : GoodIn wsX6_turnsOn (wsV RX6 53 RX6 yX6_of wsX6_of) := goodIn_app (goodIn_of _ (by decide +kernel)) ggX6_turnsOn_X6_of
set_option maxRecDepth 20000 in
theorem ggX6_turnsOn_X6_at : GoodIn wsX6_turnsOn wsX6_at := goodIn_r _ [13] (by decide +kernel) (by decide +kernel)
set_option maxRecDepth 20000 in
theorem gX6_turnsOn_X6_at : GoodIn wsX6_turnsOn (va_wsS RX6 45 yX6_at wsX6_at) := goodIn_app (goodIn_of _ (by decide +kernel)) ggX6_turnsOn_X6_at
set_option maxRecDepth 20000 in
theorem ggX6_turnsOn_X6_charges : GoodIn wsX6_turnsOn wsX6_charges := goodIn_r _ [17, 18, 19, 1, 2, 3, 4, 5, 6, 7, 8, 9, 10, 11, 12, 13, 20, 21, 22, 23, 24, 25, 26, 27, 28, 29, 30, 31, 32, 33, 34, 35, 36, 37, 38, 39, 40, 41, 42, 43, 44, 45, 46, 47, 48, 49] (by decide +kernel) (by decide +kernel)
set_option maxRecDepth 20000 in
theorem gX6_turnsOn_X6_charges : GoodIn wsX6_turnsOn (wsV RX6 103 RX6 yX6_charges wsX6_charges) := goodIn_app (goodIn_of _ (by decide +kernel)) ggX6_turnsOn_X6_charges
theorem dX6_turnsOn_0 : decode cX6_turnsOn 0 = .ok (.aload_n 0, 1) := by decide +kernel
theorem dX6_turnsOn_1 : decode cX6_turnsOn 1 = .ok (.iload_n 1, 1) := by decide +kernel
theorem dX6_turnsOn_2 : decode cX6_turnsOn 2 = .ok (.invokevirtual 62, 3) := by decide +kernel
theorem dX6_turnsOn_5 : decode cX6_turnsOn 5 = .ok (.ifCond .eq 17, 3) := by decide +kernel
theorem dX6_turnsOn_8 : decode cX6_turnsOn 8 = .ok (.aload_n 0, 1) := by decide +kernel
theorem dX6_turnsOn_9 : decode cX6_turnsOn 9 = .ok (.iload_n 1, 1) := by decide +kernel
theorem dX6_turnsOn_10 : decode cX6_turnsOn 10 = .ok (.bipush 8, 2) := by decide +kernel
theorem dX6_turnsOn_12 : decode cX6_turnsOn 12 = .ok (.invokevirtual 53, 3) := by decide +kernel
theorem dX6_turnsOn_15 : decode cX6_turnsOn 15 = .ok (.iload_n 2, 1) := by decide +kernel
theorem dX6_turnsOn_16 : decode cX6_turnsOn 16 = .ok (.if_icmp .ne 6, 3) := by decide +kernel
theorem dX6_turnsOn_19 : decode cX6_turnsOn 19 = .ok (.bipush (-5), 2) := by decide +kernel
theorem dX6_turnsOn_21 : decode cX6_turnsOn 21 = .ok (.ireturn, 1) := by decide +kernel
theorem dX6_turnsOn_22 : decode cX6_turnsOn 22 = .ok (.aload_n 0, 1) := by decide +kernel
theorem dX6_turnsOn_23 : decode cX6_turnsOn 23 = .ok (.getfield 7, 3) := by decide +kernel
theorem dX6_turnsOn_26 : decode cX6_turnsOn 26 = .ok (.iload_n 1, 1) := by decide +kernel
theorem dX6_turnsOn_27 : decode cX6_turnsOn 27 = .ok (.bipush 9, 2) := by decide +kernel
theorem dX6_turnsOn_29 : decode cX6_turnsOn 29 = .ok (.invokestatic 45, 3) := by decide +kernel
theorem dX6_turnsOn_32 : decode cX6_turnsOn 32 = .ok (.iconst 1, 1) := by decide +kernel
theorem dX6_turnsOn_33 : decode cX6_turnsOn 33 = .ok (.iastore, 1) := by decide +kernel
theorem dX6_turnsOn_34 : decode cX6_turnsOn 34 = .ok (.aload_n 0, 1) := by decide +kernel
theorem dX6_turnsOn_35 : decode cX6_turnsOn 35 = .ok (.getfield 7, 3) := by decide +kernel
theorem dX6_turnsOn_38 : decode cX6_turnsOn 38 = .ok (.iload_n 1, 1) := by decide +kernel
theorem dX6_turnsOn_39 : decode cX6_turnsOn 39 = .ok (.bipush 8, 2) := by decide +kernel
theorem dX6_turnsOn_41 : decode cX6_turnsOn 41 = .ok (.invokestatic 45, 3) := by decide +kernel
theorem dX6_turnsOn_44 : decode cX6_turnsOn 44 = .ok (.iload_n 2, 1) := by decide +kernel
theorem dX6_turnsOn_45 : decode cX6_turnsOn 45 = .ok (.iastore, 1) := by decide +kernel
theorem dX6_turnsOn_46 : decode cX6_turnsOn 46 = .ok (.aload_n 0, 1) := by decide +kernel
theorem dX6_turnsOn_47 : decode cX6_turnsOn 47 = .ok (.iload_n 1, 1) := by decide +kernel
theorem dX6_turnsOn_48 : decode cX6_turnsOn 48 = .ok (.invokevirtual 103, 3) := by decide +kernel
theorem dX6_turnsOn_51 : decode cX6_turnsOn 51 = .ok (.aload_n 0, 1) := by decide +kernel
theorem dX6_turnsOn_52 : decode cX6_turnsOn 52 = .ok (.iload_n 1, 1) := by decide +kernel
theorem dX6_turnsOn_53 : decode cX6_turnsOn 53 = .ok (.bipush 7, 2) := by decide +kernel
theorem dX6_turnsOn_55 : decode cX6_turnsOn 55 = .ok (.invokevirtual 53, 3) := by decide +kernel
theorem dX6_turnsOn_58 : decode cX6_turnsOn 58 = .ok (.ireturn, 1) := by decide +kernel
set_option maxRecDepth 20000 in
theorem ggX6_turnsOff_X6_isOn : GoodIn wsX6_turnsOff wsX6_isOn := goodIn_r _ [6, 7, 8, 9, 5, 10, 1, 11, 12, 13, 14, 15, 16, 17, 18, 19, 20, 21, 22, 23, 24, 25, 26, 27, 28, 29, 30, 31, 32, 33, 34, 35] (by decide +kernel) (by decide +kernel)
set_option maxRecDepth 20000 in
theorem gX6_turnsOff_X6_isOn : GoodIn wsX6_turnsOff (wsV RX6 62 RX6 yX6_isOn wsX6_isOn) := goodIn_app (goodIn_of _ (by decide +kernel)) ggX6_turnsOff_X6_isOn
set_option maxRecDepth 20000 in
theorem ggX6_turnsOff_X6_at : GoodIn wsX6_turnsOff wsX6_at := goodIn_r _ [13] (by decide +kernel) (by decide +kernel)
set_option maxRecDepth 20000 in
theorem gX6_turnsOff_X6_at : GoodIn wsX6_turnsOff (va_wsS RX6 45 yX6_at wsX6_at) := goodIn_app (goodIn_of _ (by decide +kernel)) ggX6_turnsOff_X6_at
set_option maxRecDepth 20000 in
theorem ggX6_turnsOff_X6_of : GoodIn wsX6_turnsOff wsX6_of := goodIn_r _ [10, 1, 11, 12, 5, 13, 14, 15, 16, 17, 18, 19, 20, 21, 22, 23, 24, 25, 26, 27, 28, 29, 30, 31, 32, 33, 34, 35] (by decide +kernel) (by decide +kernel)
set_option maxRecDepth 20000 in
theorem gX6_turnsOff_X6_of : GoodIn wsX6_turnsOff (wsV RX6 53 RX6 yX6_of wsX6_of) := goodIn_app (goodIn_of _ (by decide +kernel)) ggX6_turnsOff_X6_of
theorem dX6_turnsOff_0 : decode cX6_turnsOff 0 = .ok (.aload_n 0, 1) := by decide +kernel
theorem dX6_turnsOff_1 : decode cX6_turnsOff 1 = .ok (.iload_n 1, 1) := by decide +kernel
theorem dX6_turnsOff_2 : decode cX6_turnsOff 2 = .ok (.invokevirtual 62, 3) := by decide +kernel
theorem dX6_turnsOff_5 : decode cX6_turnsOff 5 = .ok (.ifCond .ne 6, 3) := by decide +kernel
theorem dX6_turnsOff_8 : decode cX6_turnsOff 8 = .ok (.bipush (-5), 2) := by decide +kernel
theorem dX6_turnsOff_10 : decode cX6_turnsOff 10 = .ok (.ireturn, 1) := by decide +kernel
theorem dX6_turnsOff_11 : decode cX6_turnsOff 11 = .ok (.aload_n 0, 1) := by decide +kernel
theorem dX6_turnsOff_12 : decode cX6_turnsOff 12 = .ok (.getfield 7, 3) := by decide +kernel
theorem dX6_turnsOff_15 : decode cX6_turnsOff 15 = .ok (.iload_n 1, 1) := by decide +kernel
theorem dX6_turnsOff_16 : decode cX6_turnsOff 16 = .ok (.bipush 9, 2) := by decide +kernel
theorem dX6_turnsOff_18 : decode cX6_turnsOff 18 = .ok (.invokestatic 45, 3) := by decide +kernel
theorem dX6_turnsOff_21 : decode cX6_turnsOff 21 = .ok (.iconst 0, 1) := by decide +kernel
theorem dX6_turnsOff_22 : decode cX6_turnsOff 22 = .ok (.iastore, 1) := by decide +kernel
theorem dX6_turnsOff_23 : decode cX6_turnsOff 23 = .ok (.aload_n 0, 1) := by decide +kernel
theorem dX6_turnsOff_24 : decode cX6_turnsOff 24 = .ok (.iload_n 1, 1) := by decide +kernel
theorem dX6_turnsOff_25 : decode cX6_turnsOff 25 = .ok (.bipush 7, 2) := by decide +kernel
theorem dX6_turnsOff_27 : decode cX6_turnsOff 27 = .ok (.invokevirtual 53, 3) := by decide +kernel
theorem dX6_turnsOff_30 : decode cX6_turnsOff 30 = .ok (.ireturn, 1) := by decide +kernel
set_option maxRecDepth 20000 in
theorem ggX6_lays_X6_of : GoodIn wsX6_lays wsX6_of := goodIn_r _ [6, 1, 7, 8, 5, 9, 28, 29, 30, 31, 32, 33, 34, 35, 36, 37, 38, 39, 40, 41, 42, 43, 44, 45, 46, 47, 48, 49] (by decide +kernel) (by decide +kernel)
set_option maxRecDepth 20000 in
theorem gX6_lays_X6_of : GoodIn wsX6_lays (wsV RX6 53 RX6 yX6_of wsX6_of) := goodIn_app (goodIn_of _ (by decide +kernel)) ggX6_lays_X6_of
set_option maxRecDepth 20000 in
theorem ggX6_lays_X6_at : GoodIn wsX6_lays wsX6_at := goodIn_r _ [9] (by decide +kernel) (by decide +kernel)
set_option maxRecDepth 20000 in
theorem gX6_lays_X6_at : GoodIn wsX6_lays (va_wsS RX6 45 yX6_at wsX6_at) := goodIn_app (goodIn_of _ (by decide +kernel)) ggX6_lays_X6_at
set_option maxRecDepth 20000 in
theorem ggX6_lays_X6_charges : GoodIn wsX6_lays wsX6_charges := goodIn_r _ [13, 14, 15, 1, 16, 17, 18, 5, 19, 2, 3, 4, 6, 7, 8, 9, 20, 21, 22, 23, 24, 25, 26, 27, 28, 29, 30, 31, 32, 33, 34, 35, 36, 37, 38, 39, 40, 41, 42, 43, 44, 45, 46, 47, 48, 49] (by decide +kernel) (by decide +kernel)
set_option maxRecDepth 20000 in
theorem gX6_lays_X6_charges : GoodIn wsX6_lays (wsV RX6 103 RX6 yX6_charges wsX6_charges) := goodIn_app (goodIn_of _ (by decide +kernel)) ggX6_lays_X6_charges
theorem dX6_lays_0 : decode cX6_lays 0 = .ok (.aload_n 0, 1) := by decide +kernel
theorem dX6_lays_1 : decode cX6_lays 1 = .ok (.iload_n 1, 1) := by decide +kernel
theorem dX6_lays_2 : decode cX6_lays 2 = .ok (.iload_n 2, 1) := by decide +kernel
theorem dX6_lays_3 : decode cX6_lays 3 = .ok (.invokevirtual 53, 3) := by decide +kernel
theorem dX6_lays_6 : decode cX6_lays 6 = .ok (.istore 4, 2) := by decide +kernel
theorem dX6_lays_8 : decode cX6_lays 8 = .ok (.iload 4, 2) := by decide +kernel
theorem dX6_lays_10 : decode cX6_lays 10 = .ok (.iload_n 3, 1) := by decide +kernel
theorem dX6_lays_11 : decode cX6_lays 11 = .ok (.if_icmp .ne 6, 3) := by decide +kernel
theorem dX6_lays_14 : decode cX6_lays 14 = .ok (.bipush (-5), 2) := by decide +kernel
theorem dX6_lays_16 : decode cX6_lays 16 = .ok (.ireturn, 1) := by decide +kernel
theorem dX6_lays_17 : decode cX6_lays 17 = .ok (.aload_n 0, 1) := by decide +kernel
theorem dX6_lays_18 : decode cX6_lays 18 = .ok (.getfield 7, 3) := by decide +kernel
theorem dX6_lays_21 : decode cX6_lays 21 = .ok (.iload_n 1, 1) := by decide +kernel
theorem dX6_lays_22 : decode cX6_lays 22 = .ok (.iload_n 2, 1) := by decide +kernel
theorem dX6_lays_23 : decode cX6_lays 23 = .ok (.invokestatic 45, 3) := by decide +kernel
theorem dX6_lays_26 : decode cX6_lays 26 = .ok (.iload_n 3, 1) := by decide +kernel
theorem dX6_lays_27 : decode cX6_lays 27 = .ok (.iastore, 1) := by decide +kernel
theorem dX6_lays_28 : decode cX6_lays 28 = .ok (.aload_n 0, 1) := by decide +kernel
theorem dX6_lays_29 : decode cX6_lays 29 = .ok (.iload_n 1, 1) := by decide +kernel
theorem dX6_lays_30 : decode cX6_lays 30 = .ok (.invokevirtual 103, 3) := by decide +kernel
theorem dX6_lays_33 : decode cX6_lays 33 = .ok (.iload 4, 2) := by decide +kernel
theorem dX6_lays_35 : decode cX6_lays 35 = .ok (.ireturn, 1) := by decide +kernel
theorem dX6_half_0 : decode cX6_half 0 = .ok (.lload_n 0, 1) := by decide +kernel
theorem dX6_half_1 : decode cX6_half 1 = .ok (.lconst 0, 1) := by decide +kernel
theorem dX6_half_2 : decode cX6_half 2 = .ok (.lcmp, 1) := by decide +kernel
theorem dX6_half_3 : decode cX6_half 3 = .ok (.ifCond .ge 14, 3) := by decide +kernel
theorem dX6_half_6 : decode cX6_half 6 = .ok (.lconst 1, 1) := by decide +kernel
theorem dX6_half_7 : decode cX6_half 7 = .ok (.lload_n 0, 1) := by decide +kernel
theorem dX6_half_8 : decode cX6_half 8 = .ok (.lsub, 1) := by decide +kernel
theorem dX6_half_9 : decode cX6_half 9 = .ok (.ldc2_w 88, 3) := by decide +kernel
theorem dX6_half_12 : decode cX6_half 12 = .ok (.ldiv, 1) := by decide +kernel
theorem dX6_half_13 : decode cX6_half 13 = .ok (.lneg, 1) := by decide +kernel
theorem dX6_half_14 : decode cX6_half 14 = .ok (.goto 8, 3) := by decide +kernel
theorem dX6_half_17 : decode cX6_half 17 = .ok (.lload_n 0, 1) := by decide +kernel
theorem dX6_half_18 : decode cX6_half 18 = .ok (.ldc2_w 88, 3) := by decide +kernel
theorem dX6_half_21 : decode cX6_half 21 = .ok (.ldiv, 1) := by decide +kernel
theorem dX6_half_22 : decode cX6_half 22 = .ok (.lreturn, 1) := by decide +kernel
end
section
set_option maxRecDepth 20000 in
theorem ggX6_couples_X6_isOn : GoodIn wsX6_couples wsX6_isOn := goodIn_r _ [8, 9, 10, 11, 7, 12, 2, 13, 14, 15, 32, 33, 34, 35, 36, 37, 38, 39, 40, 41, 42, 43, 44, 45, 46, 47, 48, 49, 50, 51, 52, 53] (by decide +kernel) (by decide +kernel)
set_option maxRecDepth 20000 in
theorem gX6_couples_X6_isOn : GoodIn wsX6_couples (wsV RX6 62 RX6 yX6_isOn wsX6_isOn) := goodIn_app (goodIn_of _ (by decide +kernel)) ggX6_couples_X6_isOn
set_option maxRecDepth 20000 in
theorem ggX6_couples_X6_of : GoodIn wsX6_couples wsX6_of := goodIn_r _ [12, 2, 13, 14, 7, 15, 32, 33, 34, 35, 36, 37, 38, 39, 40, 41, 42, 43, 44, 45, 46, 47, 48, 49, 50, 51, 52, 53] (by decide +kernel) (by decide +kernel)
set_option maxRecDepth 20000 in
theorem gX6_couples_X6_of : GoodIn wsX6_couples (wsV RX6 53 RX6 yX6_of wsX6_of) := goodIn_app (goodIn_of _ (by decide +kernel)) ggX6_couples_X6_of
set_option maxRecDepth 20000 in
theorem ggX6_couples_X6_capacityNow : GoodIn wsX6_couples wsX6_capacityNow := goodIn_r _ [19, 9, 10, 11, 7, 12, 2, 13, 14, 15, 20, 21, 22, 23, 32, 33, 34, 35, 36, 37, 38, 39, 40, 41, 42, 43, 44, 45, 46, 47, 48, 49, 50, 51, 52, 53] (by decide +kernel) (by decide +kernel)
set_option maxRecDepth 20000 in
theorem gX6_couples_X6_capacityNow : GoodIn wsX6_couples (wsV RX6 66 RX6 yX6_capacityNow wsX6_capacityNow) := goodIn_app (goodIn_of _ (by decide +kernel)) ggX6_couples_X6_capacityNow
set_option maxRecDepth 20000 in
theorem ggX6_couples_X6_stored : GoodIn wsX6_couples wsX6_stored := goodIn_r _ [27, 9, 10, 11, 7, 12, 2, 13, 14, 15, 4, 5, 6, 8, 16, 17, 18, 19, 20, 21, 22, 23, 32, 33, 34, 35, 36, 37, 38, 39, 40, 41, 42, 43, 44, 45, 46, 47, 48, 49, 50, 51, 52, 53] (by decide +kernel) (by decide +kernel)
set_option maxRecDepth 20000 in
theorem gX6_couples_X6_stored : GoodIn wsX6_couples (wsV RX6 90 RX6 yX6_stored wsX6_stored) := goodIn_app (goodIn_of _ (by decide +kernel)) ggX6_couples_X6_stored
set_option maxRecDepth 20000 in
theorem ggX6_couples_X6_at : GoodIn wsX6_couples wsX6_at := goodIn_r _ [15] (by decide +kernel) (by decide +kernel)
set_option maxRecDepth 20000 in
theorem gX6_couples_X6_at : GoodIn wsX6_couples (va_wsS RX6 45 yX6_at wsX6_at) := goodIn_app (goodIn_of _ (by decide +kernel)) ggX6_couples_X6_at
set_option maxRecDepth 20000 in
theorem ggX6_couples_X6_half : GoodIn wsX6_couples wsX6_half := goodIn_r _ [30, 31] (by decide +kernel) (by decide +kernel)
set_option maxRecDepth 20000 in
theorem gX6_couples_X6_half : GoodIn wsX6_couples (va_wsS RX6 112 yX6_half wsX6_half) := goodIn_app (goodIn_of _ (by decide +kernel)) ggX6_couples_X6_half
theorem dX6_couples_0 : decode cX6_couples 0 = .ok (.iload_n 1, 1) := by decide +kernel
theorem dX6_couples_1 : decode cX6_couples 1 = .ok (.iload_n 2, 1) := by decide +kernel
theorem dX6_couples_2 : decode cX6_couples 2 = .ok (.if_icmp .ne 6, 3) := by decide +kernel
theorem dX6_couples_5 : decode cX6_couples 5 = .ok (.bipush (-2), 2) := by decide +kernel
theorem dX6_couples_7 : decode cX6_couples 7 = .ok (.ireturn, 1) := by decide +kernel
theorem dX6_couples_8 : decode cX6_couples 8 = .ok (.aload_n 0, 1) := by decide +kernel
theorem dX6_couples_9 : decode cX6_couples 9 = .ok (.iload_n 1, 1) := by decide +kernel
theorem dX6_couples_10 : decode cX6_couples 10 = .ok (.invokevirtual 62, 3) := by decide +kernel
theorem dX6_couples_13 : decode cX6_couples 13 = .ok (.ifCond .ne 11, 3) := by decide +kernel
theorem dX6_couples_16 : decode cX6_couples 16 = .ok (.aload_n 0, 1) := by decide +kernel
theorem dX6_couples_17 : decode cX6_couples 17 = .ok (.iload_n 2, 1) := by decide +kernel
theorem dX6_couples_18 : decode cX6_couples 18 = .ok (.invokevirtual 62, 3) := by decide +kernel
theorem dX6_couples_21 : decode cX6_couples 21 = .ok (.ifCond .eq 6, 3) := by decide +kernel
theorem dX6_couples_24 : decode cX6_couples 24 = .ok (.bipush (-4), 2) := by decide +kernel
theorem dX6_couples_26 : decode cX6_couples 26 = .ok (.ireturn, 1) := by decide +kernel
theorem dX6_couples_27 : decode cX6_couples 27 = .ok (.aload_n 0, 1) := by decide +kernel
theorem dX6_couples_28 : decode cX6_couples 28 = .ok (.iload_n 1, 1) := by decide +kernel
theorem dX6_couples_29 : decode cX6_couples 29 = .ok (.bipush 7, 2) := by decide +kernel
theorem dX6_couples_31 : decode cX6_couples 31 = .ok (.invokevirtual 53, 3) := by decide +kernel
theorem dX6_couples_34 : decode cX6_couples 34 = .ok (.aload_n 0, 1) := by decide +kernel
theorem dX6_couples_35 : decode cX6_couples 35 = .ok (.iload_n 2, 1) := by decide +kernel
theorem dX6_couples_36 : decode cX6_couples 36 = .ok (.bipush 7, 2) := by decide +kernel
theorem dX6_couples_38 : decode cX6_couples 38 = .ok (.invokevirtual 53, 3) := by decide +kernel
theorem dX6_couples_41 : decode cX6_couples 41 = .ok (.iadd, 1) := by decide +kernel
theorem dX6_couples_42 : decode cX6_couples 42 = .ok (.i2l, 1) := by decide +kernel
theorem dX6_couples_43 : decode cX6_couples 43 = .ok (.lstore_n 3, 1) := by decide +kernel
theorem dX6_couples_44 : decode cX6_couples 44 = .ok (.lload_n 3, 1) := by decide +kernel
theorem dX6_couples_45 : decode cX6_couples 45 = .ok (.aload_n 0, 1) := by decide +kernel
theorem dX6_couples_46 : decode cX6_couples 46 = .ok (.iload_n 1, 1) := by decide +kernel
theorem dX6_couples_47 : decode cX6_couples 47 = .ok (.invokevirtual 66, 3) := by decide +kernel
theorem dX6_couples_50 : decode cX6_couples 50 = .ok (.i2l, 1) := by decide +kernel
theorem dX6_couples_51 : decode cX6_couples 51 = .ok (.lmul, 1) := by decide +kernel
theorem dX6_couples_52 : decode cX6_couples 52 = .ok (.aload_n 0, 1) := by decide +kernel
theorem dX6_couples_53 : decode cX6_couples 53 = .ok (.iload_n 1, 1) := by decide +kernel
theorem dX6_couples_54 : decode cX6_couples 54 = .ok (.invokevirtual 66, 3) := by decide +kernel
theorem dX6_couples_57 : decode cX6_couples 57 = .ok (.aload_n 0, 1) := by decide +kernel
theorem dX6_couples_58 : decode cX6_couples 58 = .ok (.iload_n 2, 1) := by decide +kernel
theorem dX6_couples_59 : decode cX6_couples 59 = .ok (.invokevirtual 66, 3) := by decide +kernel
theorem dX6_couples_62 : decode cX6_couples 62 = .ok (.iadd, 1) := by decide +kernel
theorem dX6_couples_63 : decode cX6_couples 63 = .ok (.i2l, 1) := by decide +kernel
theorem dX6_couples_64 : decode cX6_couples 64 = .ok (.ldiv, 1) := by decide +kernel
theorem dX6_couples_65 : decode cX6_couples 65 = .ok (.l2i, 1) := by decide +kernel
theorem dX6_couples_66 : decode cX6_couples 66 = .ok (.istore 5, 2) := by decide +kernel
theorem dX6_couples_68 : decode cX6_couples 68 = .ok (.lload_n 3, 1) := by decide +kernel
theorem dX6_couples_69 : decode cX6_couples 69 = .ok (.l2i, 1) := by decide +kernel
theorem dX6_couples_70 : decode cX6_couples 70 = .ok (.iload 5, 2) := by decide +kernel
theorem dX6_couples_72 : decode cX6_couples 72 = .ok (.isub, 1) := by decide +kernel
theorem dX6_couples_73 : decode cX6_couples 73 = .ok (.istore 6, 2) := by decide +kernel
theorem dX6_couples_75 : decode cX6_couples 75 = .ok (.iload 5, 2) := by decide +kernel
theorem dX6_couples_77 : decode cX6_couples 77 = .ok (.ldc 111, 2) := by decide +kernel
theorem dX6_couples_79 : decode cX6_couples 79 = .ok (.if_icmp .gt 10, 3) := by decide +kernel
theorem dX6_couples_82 : decode cX6_couples 82 = .ok (.iload 6, 2) := by decide +kernel
theorem dX6_couples_84 : decode cX6_couples 84 = .ok (.ldc 111, 2) := by decide +kernel
theorem dX6_couples_86 : decode cX6_couples 86 = .ok (.if_icmp .le 6, 3) := by decide +kernel
theorem dX6_couples_89 : decode cX6_couples 89 = .ok (.bipush (-3), 2) := by decide +kernel
theorem dX6_couples_91 : decode cX6_couples 91 = .ok (.ireturn, 1) := by decide +kernel
theorem dX6_couples_92 : decode cX6_couples 92 = .ok (.iload 5, 2) := by decide +kernel
theorem dX6_couples_94 : decode cX6_couples 94 = .ok (.aload_n 0, 1) := by decide +kernel
theorem dX6_couples_95 : decode cX6_couples 95 = .ok (.iload_n 1, 1) := by decide +kernel
theorem dX6_couples_96 : decode cX6_couples 96 = .ok (.bipush 7, 2) := by decide +kernel
theorem dX6_couples_98 : decode cX6_couples 98 = .ok (.invokevirtual 53, 3) := by decide +kernel
theorem dX6_couples_101 : decode cX6_couples 101 = .ok (.if_icmp .ne 6, 3) := by decide +kernel
theorem dX6_couples_104 : decode cX6_couples 104 = .ok (.bipush (-5), 2) := by decide +kernel
theorem dX6_couples_106 : decode cX6_couples 106 = .ok (.ireturn, 1) := by decide +kernel
theorem dX6_couples_107 : decode cX6_couples 107 = .ok (.aload_n 0, 1) := by decide +kernel
theorem dX6_couples_108 : decode cX6_couples 108 = .ok (.iload_n 1, 1) := by decide +kernel
theorem dX6_couples_109 : decode cX6_couples 109 = .ok (.invokevirtual 90, 3) := by decide +kernel
theorem dX6_couples_112 : decode cX6_couples 112 = .ok (.aload_n 0, 1) := by decide +kernel
theorem dX6_couples_113 : decode cX6_couples 113 = .ok (.iload_n 2, 1) := by decide +kernel
theorem dX6_couples_114 : decode cX6_couples 114 = .ok (.invokevirtual 90, 3) := by decide +kernel
theorem dX6_couples_117 : decode cX6_couples 117 = .ok (.ladd, 1) := by decide +kernel
theorem dX6_couples_118 : decode cX6_couples 118 = .ok (.lstore 7, 2) := by decide +kernel
theorem dX6_couples_120 : decode cX6_couples 120 = .ok (.aload_n 0, 1) := by decide +kernel
theorem dX6_couples_121 : decode cX6_couples 121 = .ok (.getfield 7, 3) := by decide +kernel
theorem dX6_couples_124 : decode cX6_couples 124 = .ok (.iload_n 1, 1) := by decide +kernel
theorem dX6_couples_125 : decode cX6_couples 125 = .ok (.bipush 7, 2) := by decide +kernel
theorem dX6_couples_127 : decode cX6_couples 127 = .ok (.invokestatic 45, 3) := by decide +kernel
theorem dX6_couples_130 : decode cX6_couples 130 = .ok (.iload 5, 2) := by decide +kernel
theorem dX6_couples_132 : decode cX6_couples 132 = .ok (.iastore, 1) := by decide +kernel
theorem dX6_couples_133 : decode cX6_couples 133 = .ok (.aload_n 0, 1) := by decide +kernel
theorem dX6_couples_134 : decode cX6_couples 134 = .ok (.getfield 7, 3) := by decide +kernel
theorem dX6_couples_137 : decode cX6_couples 137 = .ok (.iload_n 2, 1) := by decide +kernel
theorem dX6_couples_138 : decode cX6_couples 138 = .ok (.bipush 7, 2) := by decide +kernel
theorem dX6_couples_140 : decode cX6_couples 140 = .ok (.invokestatic 45, 3) := by decide +kernel
theorem dX6_couples_143 : decode cX6_couples 143 = .ok (.iload 6, 2) := by decide +kernel
theorem dX6_couples_145 : decode cX6_couples 145 = .ok (.iastore, 1) := by decide +kernel
theorem dX6_couples_146 : decode cX6_couples 146 = .ok (.lload 7, 2) := by decide +kernel
theorem dX6_couples_148 : decode cX6_couples 148 = .ok (.aload_n 0, 1) := by decide +kernel
theorem dX6_couples_149 : decode cX6_couples 149 = .ok (.iload_n 1, 1) := by decide +kernel
theorem dX6_couples_150 : decode cX6_couples 150 = .ok (.invokevirtual 90, 3) := by decide +kernel
theorem dX6_couples_153 : decode cX6_couples 153 = .ok (.lsub, 1) := by decide +kernel
theorem dX6_couples_154 : decode cX6_couples 154 = .ok (.aload_n 0, 1) := by decide +kernel
theorem dX6_couples_155 : decode cX6_couples 155 = .ok (.iload_n 2, 1) := by decide +kernel
theorem dX6_couples_156 : decode cX6_couples 156 = .ok (.invokevirtual 90, 3) := by decide +kernel
theorem dX6_couples_159 : decode cX6_couples 159 = .ok (.lsub, 1) := by decide +kernel
theorem dX6_couples_160 : decode cX6_couples 160 = .ok (.lstore 9, 2) := by decide +kernel
theorem dX6_couples_162 : decode cX6_couples 162 = .ok (.aload_n 0, 1) := by decide +kernel
theorem dX6_couples_163 : decode cX6_couples 163 = .ok (.getfield 13, 3) := by decide +kernel
theorem dX6_couples_166 : decode cX6_couples 166 = .ok (.iconst 3, 1) := by decide +kernel
theorem dX6_couples_167 : decode cX6_couples 167 = .ok (.iload_n 1, 1) := by decide +kernel
theorem dX6_couples_168 : decode cX6_couples 168 = .ok (.imul, 1) := by decide +kernel
theorem dX6_couples_169 : decode cX6_couples 169 = .ok (.iconst 2, 1) := by decide +kernel
theorem dX6_couples_170 : decode cX6_couples 170 = .ok (.iadd, 1) := by decide +kernel
theorem dX6_couples_171 : decode cX6_couples 171 = .ok (.dup2, 1) := by decide +kernel
theorem dX6_couples_172 : decode cX6_couples 172 = .ok (.laload, 1) := by decide +kernel
theorem dX6_couples_173 : decode cX6_couples 173 = .ok (.lload 9, 2) := by decide +kernel
theorem dX6_couples_175 : decode cX6_couples 175 = .ok (.invokestatic 112, 3) := by decide +kernel
theorem dX6_couples_178 : decode cX6_couples 178 = .ok (.ladd, 1) := by decide +kernel
theorem dX6_couples_179 : decode cX6_couples 179 = .ok (.lastore, 1) := by decide +kernel
theorem dX6_couples_180 : decode cX6_couples 180 = .ok (.aload_n 0, 1) := by decide +kernel
theorem dX6_couples_181 : decode cX6_couples 181 = .ok (.getfield 13, 3) := by decide +kernel
theorem dX6_couples_184 : decode cX6_couples 184 = .ok (.iconst 3, 1) := by decide +kernel
theorem dX6_couples_185 : decode cX6_couples 185 = .ok (.iload_n 2, 1) := by decide +kernel
theorem dX6_couples_186 : decode cX6_couples 186 = .ok (.imul, 1) := by decide +kernel
theorem dX6_couples_187 : decode cX6_couples 187 = .ok (.iconst 2, 1) := by decide +kernel
theorem dX6_couples_188 : decode cX6_couples 188 = .ok (.iadd, 1) := by decide +kernel
theorem dX6_couples_189 : decode cX6_couples 189 = .ok (.dup2, 1) := by decide +kernel
theorem dX6_couples_190 : decode cX6_couples 190 = .ok (.laload, 1) := by decide +kernel
theorem dX6_couples_191 : decode cX6_couples 191 = .ok (.lload 9, 2) := by decide +kernel
theorem dX6_couples_193 : decode cX6_couples 193 = .ok (.lload 9, 2) := by decide +kernel
theorem dX6_couples_195 : decode cX6_couples 195 = .ok (.invokestatic 112, 3) := by decide +kernel
theorem dX6_couples_198 : decode cX6_couples 198 = .ok (.lsub, 1) := by decide +kernel
theorem dX6_couples_199 : decode cX6_couples 199 = .ok (.ladd, 1) := by decide +kernel
theorem dX6_couples_200 : decode cX6_couples 200 = .ok (.lastore, 1) := by decide +kernel
theorem dX6_couples_201 : decode cX6_couples 201 = .ok (.aload_n 0, 1) := by decide +kernel
theorem dX6_couples_202 : decode cX6_couples 202 = .ok (.getfield 7, 3) := by decide +kernel
theorem dX6_couples_205 : decode cX6_couples 205 = .ok (.iconst 1, 1) := by decide +kernel
theorem dX6_couples_206 : decode cX6_couples 206 = .ok (.dup2, 1) := by decide +kernel
theorem dX6_couples_207 : decode cX6_couples 207 = .ok (.iaload, 1) := by decide +kernel
theorem dX6_couples_208 : decode cX6_couples 208 = .ok (.iconst 1, 1) := by decide +kernel
theorem dX6_couples_209 : decode cX6_couples 209 = .ok (.iadd, 1) := by decide +kernel
theorem dX6_couples_210 : decode cX6_couples 210 = .ok (.iastore, 1) := by decide +kernel
theorem dX6_couples_211 : decode cX6_couples 211 = .ok (.iload 5, 2) := by decide +kernel
theorem dX6_couples_213 : decode cX6_couples 213 = .ok (.ireturn, 1) := by decide +kernel
set_option maxRecDepth 20000 in
theorem ggX6_acted_X6_records : GoodIn wsX6_acted wsX6_records := goodIn_r _ [5, 6, 7, 8, 9, 10, 11, 12, 13, 14, 15, 16, 17, 18, 19, 20, 21, 22, 23, 24, 25, 26, 27, 28, 29, 30, 31, 32] (by decide +kernel) (by decide +kernel)
set_option maxRecDepth 20000 in
theorem gX6_acted_X6_records : GoodIn wsX6_acted (wsV RX6 116 RX6 yX6_records wsX6_records) := goodIn_app (goodIn_of _ (by decide +kernel)) ggX6_acted_X6_records
theorem dX6_acted_0 : decode cX6_acted 0 = .ok (.iload_n 1, 1) := by decide +kernel
theorem dX6_acted_1 : decode cX6_acted 1 = .ok (.ifCond .lt 7, 3) := by decide +kernel
theorem dX6_acted_4 : decode cX6_acted 4 = .ok (.aload_n 0, 1) := by decide +kernel
theorem dX6_acted_5 : decode cX6_acted 5 = .ok (.invokevirtual 116, 3) := by decide +kernel
theorem dX6_acted_8 : decode cX6_acted 8 = .ok (.iload_n 1, 1) := by decide +kernel
theorem dX6_acted_9 : decode cX6_acted 9 = .ok (.ireturn, 1) := by decide +kernel
theorem dX6_least_0 : decode cX6_least 0 = .ok (.iload_n 0, 1) := by decide +kernel
theorem dX6_least_1 : decode cX6_least 1 = .ok (.iconst 2, 1) := by decide +kernel
theorem dX6_least_2 : decode cX6_least 2 = .ok (.if_icmp .ge 7, 3) := by decide +kernel
theorem dX6_least_5 : decode cX6_least 5 = .ok (.iconst 1, 1) := by decide +kernel
theorem dX6_least_6 : decode cX6_least 6 = .ok (.goto 4, 3) := by decide +kernel
theorem dX6_least_9 : decode cX6_least 9 = .ok (.iconst 0, 1) := by decide +kernel
theorem dX6_least_10 : decode cX6_least 10 = .ok (.ireturn, 1) := by decide +kernel
theorem dX6_most_0 : decode cX6_most 0 = .ok (.iload_n 0, 1) := by decide +kernel
theorem dX6_most_1 : decode cX6_most 1 = .ok (.tableswitch 49 0 4 #[35, 35, 38, 42, 45], 35) := by decide +kernel
theorem dX6_most_36 : decode cX6_most 36 = .ok (.bipush 9, 2) := by decide +kernel
theorem dX6_most_38 : decode cX6_most 38 = .ok (.ireturn, 1) := by decide +kernel
theorem dX6_most_39 : decode cX6_most 39 = .ok (.sipush 999, 3) := by decide +kernel
theorem dX6_most_42 : decode cX6_most 42 = .ok (.ireturn, 1) := by decide +kernel
theorem dX6_most_43 : decode cX6_most 43 = .ok (.bipush 40, 2) := by decide +kernel
theorem dX6_most_45 : decode cX6_most 45 = .ok (.ireturn, 1) := by decide +kernel
theorem dX6_most_46 : decode cX6_most 46 = .ok (.sipush 9999, 3) := by decide +kernel
theorem dX6_most_49 : decode cX6_most 49 = .ok (.ireturn, 1) := by decide +kernel
theorem dX6_most_50 : decode cX6_most 50 = .ok (.bipush 100, 2) := by decide +kernel
theorem dX6_most_52 : decode cX6_most 52 = .ok (.ireturn, 1) := by decide +kernel
set_option maxRecDepth 20000 in
theorem ggX6_set_X6_isPair : GoodIn wsX6_set wsX6_isPair := goodIn_r _ [4, 5, 6, 3, 7] (by decide +kernel) (by decide +kernel)
set_option maxRecDepth 20000 in
theorem gX6_set_X6_isPair : GoodIn wsX6_set (va_wsS RX6 119 yX6_isPair wsX6_isPair) := goodIn_app (goodIn_of _ (by decide +kernel)) ggX6_set_X6_isPair
set_option maxRecDepth 20000 in
theorem ggX6_set_X6_in : GoodIn wsX6_set wsX6_in := goodIn_r _ [7] (by decide +kernel) (by decide +kernel)
set_option maxRecDepth 20000 in
theorem gX6_set_X6_in : GoodIn wsX6_set (va_wsS RX6 49 yX6_in wsX6_in) := goodIn_app (goodIn_of _ (by decide +kernel)) ggX6_set_X6_in
set_option maxRecDepth 20000 in
theorem ggX6_set_X6_looks : GoodIn wsX6_set wsX6_looks := goodIn_r _ [11, 12, 13, 14, 15, 61, 62, 63, 64, 65, 66, 67, 68, 69, 70, 71, 72, 73, 74, 75, 76, 77, 78, 79, 80, 81, 82] (by decide +kernel) (by decide +kernel)
set_option maxRecDepth 20000 in
theorem gX6_set_X6_looks : GoodIn wsX6_set (wsV RX6 122 RX6 yX6_looks wsX6_looks) := goodIn_app (goodIn_of _ (by decide +kernel)) ggX6_set_X6_looks
set_option maxRecDepth 20000 in
theorem ggX6_set_X6_least : GoodIn wsX6_set wsX6_least := goodIn_r _ [18] (by decide +kernel) (by decide +kernel)
set_option maxRecDepth 20000 in
theorem gX6_set_X6_least : GoodIn wsX6_set (va_wsS RX6 125 yX6_least wsX6_least) := goodIn_app (goodIn_of _ (by decide +kernel)) ggX6_set_X6_least
set_option maxRecDepth 20000 in
theorem ggX6_set_X6_most : GoodIn wsX6_set wsX6_most := goodIn_r _ [21] (by decide +kernel) (by decide +kernel)
set_option maxRecDepth 20000 in
theorem gX6_set_X6_most : GoodIn wsX6_set (va_wsS RX6 128 yX6_most wsX6_most) := goodIn_app (goodIn_of _ (by decide +kernel)) ggX6_set_X6_most
set_option maxRecDepth 20000 in
theorem ggX6_set_X6_lays : GoodIn wsX6_set wsX6_lays := goodIn_r _ [25, 13, 26, 27, 28, 3, 29, 30, 31, 32, 33, 34, 35, 36, 15, 37, 38, 39, 40, 41, 42, 43, 44, 45, 46, 47, 48, 49, 61, 62, 63, 64, 65, 66, 67, 68, 69, 70, 71, 72, 73, 74, 75, 76, 77, 78, 79, 80, 81, 82] (by decide +kernel) (by decide +kernel)
set_option maxRecDepth 20000 in
theorem gX6_set_X6_lays : GoodIn wsX6_set (wsV RX6 131 RX6 yX6_lays wsX6_lays) := goodIn_app (goodIn_of _ (by decide +kernel)) ggX6_set_X6_lays
set_option maxRecDepth 20000 in
theorem ggX6_set_X6_acted : GoodIn wsX6_set wsX6_acted := goodIn_r _ [53, 54, 55, 56, 3, 57, 58, 59, 60, 12, 14, 61, 62, 63, 64, 65, 66, 67, 68, 69, 70, 71, 72, 73, 74, 75, 76, 77, 78, 79, 80, 81, 82] (by decide +kernel) (by decide +kernel)
set_option maxRecDepth 20000 in
theorem gX6_set_X6_acted : GoodIn wsX6_set (wsV RX6 134 RX6 yX6_acted wsX6_acted) := goodIn_app (goodIn_of _ (by decide +kernel)) ggX6_set_X6_acted
theorem dX6_set_0 : decode cX6_set 0 = .ok (.iload_n 1, 1) := by decide +kernel
theorem dX6_set_1 : decode cX6_set 1 = .ok (.invokestatic 119, 3) := by decide +kernel
theorem dX6_set_4 : decode cX6_set 4 = .ok (.ifCond .eq 12, 3) := by decide +kernel
theorem dX6_set_7 : decode cX6_set 7 = .ok (.iload_n 2, 1) := by decide +kernel
theorem dX6_set_8 : decode cX6_set 8 = .ok (.iconst 0, 1) := by decide +kernel
theorem dX6_set_9 : decode cX6_set 9 = .ok (.iconst 5, 1) := by decide +kernel
theorem dX6_set_10 : decode cX6_set 10 = .ok (.invokestatic 49, 3) := by decide +kernel
theorem dX6_set_13 : decode cX6_set 13 = .ok (.ifCond .ne 5, 3) := by decide +kernel
theorem dX6_set_16 : decode cX6_set 16 = .ok (.iconst (-1), 1) := by decide +kernel
theorem dX6_set_17 : decode cX6_set 17 = .ok (.ireturn, 1) := by decide +kernel
theorem dX6_set_18 : decode cX6_set 18 = .ok (.aload_n 0, 1) := by decide +kernel
theorem dX6_set_19 : decode cX6_set 19 = .ok (.invokevirtual 122, 3) := by decide +kernel
theorem dX6_set_22 : decode cX6_set 22 = .ok (.iload_n 3, 1) := by decide +kernel
theorem dX6_set_23 : decode cX6_set 23 = .ok (.iload_n 2, 1) := by decide +kernel
theorem dX6_set_24 : decode cX6_set 24 = .ok (.invokestatic 125, 3) := by decide +kernel
theorem dX6_set_27 : decode cX6_set 27 = .ok (.iload_n 2, 1) := by decide +kernel
theorem dX6_set_28 : decode cX6_set 28 = .ok (.invokestatic 128, 3) := by decide +kernel
theorem dX6_set_31 : decode cX6_set 31 = .ok (.invokestatic 49, 3) := by decide +kernel
theorem dX6_set_34 : decode cX6_set 34 = .ok (.ifCond .eq 17, 3) := by decide +kernel
theorem dX6_set_37 : decode cX6_set 37 = .ok (.aload_n 0, 1) := by decide +kernel
theorem dX6_set_38 : decode cX6_set 38 = .ok (.aload_n 0, 1) := by decide +kernel
theorem dX6_set_39 : decode cX6_set 39 = .ok (.iload_n 1, 1) := by decide +kernel
theorem dX6_set_40 : decode cX6_set 40 = .ok (.iload_n 2, 1) := by decide +kernel
theorem dX6_set_41 : decode cX6_set 41 = .ok (.iload_n 3, 1) := by decide +kernel
theorem dX6_set_42 : decode cX6_set 42 = .ok (.invokevirtual 131, 3) := by decide +kernel
theorem dX6_set_45 : decode cX6_set 45 = .ok (.invokevirtual 134, 3) := by decide +kernel
theorem dX6_set_48 : decode cX6_set 48 = .ok (.goto 5, 3) := by decide +kernel
theorem dX6_set_51 : decode cX6_set 51 = .ok (.bipush (-2), 2) := by decide +kernel
theorem dX6_set_53 : decode cX6_set 53 = .ok (.ireturn, 1) := by decide +kernel
set_option maxRecDepth 20000 in
theorem ggX6_turnOn_X6_isPair : GoodIn wsX6_turnOn wsX6_isPair := goodIn_r _ [4, 5, 6, 3, 7] (by decide +kernel) (by decide +kernel)
set_option maxRecDepth 20000 in
theorem gX6_turnOn_X6_isPair : GoodIn wsX6_turnOn (va_wsS RX6 119 yX6_isPair wsX6_isPair) := goodIn_app (goodIn_of _ (by decide +kernel)) ggX6_turnOn_X6_isPair
set_option maxRecDepth 20000 in
theorem ggX6_turnOn_X6_looks : GoodIn wsX6_turnOn wsX6_looks := goodIn_r _ [11, 12, 13, 14, 15, 55, 56, 57, 58, 59, 60, 61, 62, 63, 64, 65, 66, 67, 68, 69, 70, 71, 72, 73, 74, 75, 76] (by decide +kernel) (by decide +kernel)
set_option maxRecDepth 20000 in
theorem gX6_turnOn_X6_looks : GoodIn wsX6_turnOn (wsV RX6 122 RX6 yX6_looks wsX6_looks) := goodIn_app (goodIn_of _ (by decide +kernel)) ggX6_turnOn_X6_looks
set_option maxRecDepth 20000 in
theorem ggX6_turnOn_X6_in : GoodIn wsX6_turnOn wsX6_in := goodIn_r _ [7] (by decide +kernel) (by decide +kernel)
set_option maxRecDepth 20000 in
theorem gX6_turnOn_X6_in : GoodIn wsX6_turnOn (va_wsS RX6 49 yX6_in wsX6_in) := goodIn_app (goodIn_of _ (by decide +kernel)) ggX6_turnOn_X6_in
set_option maxRecDepth 20000 in
theorem ggX6_turnOn_X6_turnsOn : GoodIn wsX6_turnOn wsX6_turnsOn := goodIn_r _ [19, 13, 20, 21, 22, 3, 23, 24, 25, 26, 27, 28, 29, 30, 31, 32, 33, 34, 15, 35, 36, 37, 38, 39, 40, 41, 42, 43, 55, 56, 57, 58, 59, 60, 61, 62, 63, 64, 65, 66, 67, 68, 69, 70, 71, 72, 73, 74, 75, 76] (by decide +kernel) (by decide +kernel)
set_option maxRecDepth 20000 in
theorem gX6_turnOn_X6_turnsOn : GoodIn wsX6_turnOn (wsV RX6 137 RX6 yX6_turnsOn wsX6_turnsOn) := goodIn_app (goodIn_of _ (by decide +kernel)) ggX6_turnOn_X6_turnsOn
set_option maxRecDepth 20000 in
theorem ggX6_turnOn_X6_acted : GoodIn wsX6_turnOn wsX6_acted := goodIn_r _ [47, 48, 49, 50, 3, 51, 52, 53, 54, 12, 14, 55, 56, 57, 58, 59, 60, 61, 62, 63, 64, 65, 66, 67, 68, 69, 70, 71, 72, 73, 74, 75, 76] (by decide +kernel) (by decide +kernel)
set_option maxRecDepth 20000 in
theorem gX6_turnOn_X6_acted : GoodIn wsX6_turnOn (wsV RX6 134 RX6 yX6_acted wsX6_acted) := goodIn_app (goodIn_of _ (by decide +kernel)) ggX6_turnOn_X6_acted
theorem dX6_turnOn_0 : decode cX6_turnOn 0 = .ok (.iload_n 1, 1) := by decide +kernel
theorem dX6_turnOn_1 : decode cX6_turnOn 1 = .ok (.invokestatic 119, 3) := by decide +kernel
theorem dX6_turnOn_4 : decode cX6_turnOn 4 = .ok (.ifCond .ne 5, 3) := by decide +kernel
theorem dX6_turnOn_7 : decode cX6_turnOn 7 = .ok (.iconst (-1), 1) := by decide +kernel
theorem dX6_turnOn_8 : decode cX6_turnOn 8 = .ok (.ireturn, 1) := by decide +kernel
theorem dX6_turnOn_9 : decode cX6_turnOn 9 = .ok (.aload_n 0, 1) := by decide +kernel
theorem dX6_turnOn_10 : decode cX6_turnOn 10 = .ok (.invokevirtual 122, 3) := by decide +kernel
theorem dX6_turnOn_13 : decode cX6_turnOn 13 = .ok (.iload_n 2, 1) := by decide +kernel
theorem dX6_turnOn_14 : decode cX6_turnOn 14 = .ok (.iconst 0, 1) := by decide +kernel
theorem dX6_turnOn_15 : decode cX6_turnOn 15 = .ok (.bipush 30, 2) := by decide +kernel
theorem dX6_turnOn_17 : decode cX6_turnOn 17 = .ok (.invokestatic 49, 3) := by decide +kernel
theorem dX6_turnOn_20 : decode cX6_turnOn 20 = .ok (.ifCond .eq 16, 3) := by decide +kernel
theorem dX6_turnOn_23 : decode cX6_turnOn 23 = .ok (.aload_n 0, 1) := by decide +kernel
theorem dX6_turnOn_24 : decode cX6_turnOn 24 = .ok (.aload_n 0, 1) := by decide +kernel
theorem dX6_turnOn_25 : decode cX6_turnOn 25 = .ok (.iload_n 1, 1) := by decide +kernel
theorem dX6_turnOn_26 : decode cX6_turnOn 26 = .ok (.iload_n 2, 1) := by decide +kernel
theorem dX6_turnOn_27 : decode cX6_turnOn 27 = .ok (.invokevirtual 137, 3) := by decide +kernel
theorem dX6_turnOn_30 : decode cX6_turnOn 30 = .ok (.invokevirtual 134, 3) := by decide +kernel
theorem dX6_turnOn_33 : decode cX6_turnOn 33 = .ok (.goto 5, 3) := by decide +kernel
theorem dX6_turnOn_36 : decode cX6_turnOn 36 = .ok (.bipush (-2), 2) := by decide +kernel
theorem dX6_turnOn_38 : decode cX6_turnOn 38 = .ok (.ireturn, 1) := by decide +kernel
set_option maxRecDepth 20000 in
theorem ggX6_turnOff_X6_looks : GoodIn wsX6_turnOff wsX6_looks := goodIn_r _ [5, 6, 7, 8, 9, 42, 43, 44, 45, 46, 47, 48, 49, 50, 51, 52, 53, 54, 55, 56, 57, 58, 59, 60, 61, 62, 63] (by decide +kernel) (by decide +kernel)
set_option maxRecDepth 20000 in
theorem gX6_turnOff_X6_looks : GoodIn wsX6_turnOff (wsV RX6 122 RX6 yX6_looks wsX6_looks) := goodIn_app (goodIn_of _ (by decide +kernel)) ggX6_turnOff_X6_looks
set_option maxRecDepth 20000 in
theorem ggX6_turnOff_X6_isPair : GoodIn wsX6_turnOff wsX6_isPair := goodIn_r _ [12, 13, 14, 4, 15] (by decide +kernel) (by decide +kernel)
set_option maxRecDepth 20000 in
theorem gX6_turnOff_X6_isPair : GoodIn wsX6_turnOff (va_wsS RX6 119 yX6_isPair wsX6_isPair) := goodIn_app (goodIn_of _ (by decide +kernel)) ggX6_turnOff_X6_isPair
set_option maxRecDepth 20000 in
theorem ggX6_turnOff_X6_turnsOff : GoodIn wsX6_turnOff wsX6_turnsOff := goodIn_r _ [19, 7, 20, 21, 22, 4, 23, 24, 25, 26, 27, 28, 29, 30, 42, 43, 44, 45, 46, 47, 48, 49, 50, 51, 52, 53, 54, 55, 56, 57, 58, 59, 60, 61, 62, 63] (by decide +kernel) (by decide +kernel)
set_option maxRecDepth 20000 in
theorem gX6_turnOff_X6_turnsOff : GoodIn wsX6_turnOff (wsV RX6 140 RX6 yX6_turnsOff wsX6_turnsOff) := goodIn_app (goodIn_of _ (by decide +kernel)) ggX6_turnOff_X6_turnsOff
set_option maxRecDepth 20000 in
theorem ggX6_turnOff_X6_acted : GoodIn wsX6_turnOff wsX6_acted := goodIn_r _ [34, 35, 36, 37, 4, 38, 39, 40, 41, 6, 8, 42, 43, 44, 45, 46, 47, 48, 49, 50, 51, 52, 53, 54, 55, 56, 57, 58, 59, 60, 61, 62, 63] (by decide +kernel) (by decide +kernel)
set_option maxRecDepth 20000 in
theorem gX6_turnOff_X6_acted : GoodIn wsX6_turnOff (wsV RX6 134 RX6 yX6_acted wsX6_acted) := goodIn_app (goodIn_of _ (by decide +kernel)) ggX6_turnOff_X6_acted
theorem dX6_turnOff_0 : decode cX6_turnOff 0 = .ok (.aload_n 0, 1) := by decide +kernel
theorem dX6_turnOff_1 : decode cX6_turnOff 1 = .ok (.invokevirtual 122, 3) := by decide +kernel
theorem dX6_turnOff_4 : decode cX6_turnOff 4 = .ok (.iload_n 1, 1) := by decide +kernel
theorem dX6_turnOff_5 : decode cX6_turnOff 5 = .ok (.invokestatic 119, 3) := by decide +kernel
theorem dX6_turnOff_8 : decode cX6_turnOff 8 = .ok (.ifCond .eq 15, 3) := by decide +kernel
theorem dX6_turnOff_11 : decode cX6_turnOff 11 = .ok (.aload_n 0, 1) := by decide +kernel
theorem dX6_turnOff_12 : decode cX6_turnOff 12 = .ok (.aload_n 0, 1) := by decide +kernel
theorem dX6_turnOff_13 : decode cX6_turnOff 13 = .ok (.iload_n 1, 1) := by decide +kernel
theorem dX6_turnOff_14 : decode cX6_turnOff 14 = .ok (.invokevirtual 140, 3) := by decide +kernel
theorem dX6_turnOff_17 : decode cX6_turnOff 17 = .ok (.invokevirtual 134, 3) := by decide +kernel
theorem dX6_turnOff_20 : decode cX6_turnOff 20 = .ok (.goto 4, 3) := by decide +kernel
theorem dX6_turnOff_23 : decode cX6_turnOff 23 = .ok (.iconst (-1), 1) := by decide +kernel
theorem dX6_turnOff_24 : decode cX6_turnOff 24 = .ok (.ireturn, 1) := by decide +kernel
set_option maxRecDepth 20000 in
theorem ggX6_put_X6_isPair : GoodIn wsX6_put wsX6_isPair := goodIn_r _ [4, 5, 6, 3, 7] (by decide +kernel) (by decide +kernel)
set_option maxRecDepth 20000 in
theorem gX6_put_X6_isPair : GoodIn wsX6_put (va_wsS RX6 119 yX6_isPair wsX6_isPair) := goodIn_app (goodIn_of _ (by decide +kernel)) ggX6_put_X6_isPair
set_option maxRecDepth 20000 in
theorem ggX6_put_X6_looks : GoodIn wsX6_put wsX6_looks := goodIn_r _ [11, 12, 13, 14, 15, 55, 56, 57, 58, 59, 60, 61, 62, 63, 64, 65, 66, 67, 68, 69, 70, 71, 72, 73, 74, 75, 76] (by decide +kernel) (by decide +kernel)
set_option maxRecDepth 20000 in
theorem gX6_put_X6_looks : GoodIn wsX6_put (wsV RX6 122 RX6 yX6_looks wsX6_looks) := goodIn_app (goodIn_of _ (by decide +kernel)) ggX6_put_X6_looks
set_option maxRecDepth 20000 in
theorem ggX6_put_X6_in : GoodIn wsX6_put wsX6_in := goodIn_r _ [7] (by decide +kernel) (by decide +kernel)
set_option maxRecDepth 20000 in
theorem gX6_put_X6_in : GoodIn wsX6_put (va_wsS RX6 49 yX6_in wsX6_in) := goodIn_app (goodIn_of _ (by decide +kernel)) ggX6_put_X6_in
set_option maxRecDepth 20000 in
theorem ggX6_put_X6_lays : GoodIn wsX6_put wsX6_lays := goodIn_r _ [19, 13, 20, 21, 22, 3, 23, 24, 25, 26, 27, 28, 29, 30, 15, 31, 32, 33, 34, 35, 36, 37, 38, 39, 40, 41, 42, 43, 55, 56, 57, 58, 59, 60, 61, 62, 63, 64, 65, 66, 67, 68, 69, 70, 71, 72, 73, 74, 75, 76] (by decide +kernel) (by decide +kernel)
set_option maxRecDepth 20000 in
theorem gX6_put_X6_lays : GoodIn wsX6_put (wsV RX6 131 RX6 yX6_lays wsX6_lays) := goodIn_app (goodIn_of _ (by decide +kernel)) ggX6_put_X6_lays
set_option maxRecDepth 20000 in
theorem ggX6_put_X6_acted : GoodIn wsX6_put wsX6_acted := goodIn_r _ [47, 48, 49, 50, 3, 51, 52, 53, 54, 12, 14, 55, 56, 57, 58, 59, 60, 61, 62, 63, 64, 65, 66, 67, 68, 69, 70, 71, 72, 73, 74, 75, 76] (by decide +kernel) (by decide +kernel)
set_option maxRecDepth 20000 in
theorem gX6_put_X6_acted : GoodIn wsX6_put (wsV RX6 134 RX6 yX6_acted wsX6_acted) := goodIn_app (goodIn_of _ (by decide +kernel)) ggX6_put_X6_acted
theorem dX6_put_0 : decode cX6_put 0 = .ok (.iload_n 1, 1) := by decide +kernel
theorem dX6_put_1 : decode cX6_put 1 = .ok (.invokestatic 119, 3) := by decide +kernel
theorem dX6_put_4 : decode cX6_put 4 = .ok (.ifCond .ne 5, 3) := by decide +kernel
theorem dX6_put_7 : decode cX6_put 7 = .ok (.iconst (-1), 1) := by decide +kernel
theorem dX6_put_8 : decode cX6_put 8 = .ok (.ireturn, 1) := by decide +kernel
theorem dX6_put_9 : decode cX6_put 9 = .ok (.aload_n 0, 1) := by decide +kernel
theorem dX6_put_10 : decode cX6_put 10 = .ok (.invokevirtual 122, 3) := by decide +kernel
theorem dX6_put_13 : decode cX6_put 13 = .ok (.iload_n 2, 1) := by decide +kernel
theorem dX6_put_14 : decode cX6_put 14 = .ok (.iconst 0, 1) := by decide +kernel
theorem dX6_put_15 : decode cX6_put 15 = .ok (.bipush 40, 2) := by decide +kernel
theorem dX6_put_17 : decode cX6_put 17 = .ok (.invokestatic 49, 3) := by decide +kernel
theorem dX6_put_20 : decode cX6_put 20 = .ok (.ifCond .eq 18, 3) := by decide +kernel
theorem dX6_put_23 : decode cX6_put 23 = .ok (.aload_n 0, 1) := by decide +kernel
theorem dX6_put_24 : decode cX6_put 24 = .ok (.aload_n 0, 1) := by decide +kernel
theorem dX6_put_25 : decode cX6_put 25 = .ok (.iload_n 1, 1) := by decide +kernel
theorem dX6_put_26 : decode cX6_put 26 = .ok (.bipush 6, 2) := by decide +kernel
theorem dX6_put_28 : decode cX6_put 28 = .ok (.iload_n 2, 1) := by decide +kernel
theorem dX6_put_29 : decode cX6_put 29 = .ok (.invokevirtual 131, 3) := by decide +kernel
theorem dX6_put_32 : decode cX6_put 32 = .ok (.invokevirtual 134, 3) := by decide +kernel
theorem dX6_put_35 : decode cX6_put 35 = .ok (.goto 5, 3) := by decide +kernel
theorem dX6_put_38 : decode cX6_put 38 = .ok (.bipush (-2), 2) := by decide +kernel
theorem dX6_put_40 : decode cX6_put 40 = .ok (.ireturn, 1) := by decide +kernel
set_option maxRecDepth 20000 in
theorem ggX6_couple_X6_looks : GoodIn wsX6_couple wsX6_looks := goodIn_r _ [5, 6, 7, 8, 9, 59, 60, 61, 62, 63, 64, 65, 66, 67, 68, 69, 70, 71, 72, 73, 74, 75, 76, 77, 78, 79, 80] (by decide +kernel) (by decide +kernel)
set_option maxRecDepth 20000 in
theorem gX6_couple_X6_looks : GoodIn wsX6_couple (wsV RX6 122 RX6 yX6_looks wsX6_looks) := goodIn_app (goodIn_of _ (by decide +kernel)) ggX6_couple_X6_looks
set_option maxRecDepth 20000 in
theorem ggX6_couple_X6_isPair : GoodIn wsX6_couple wsX6_isPair := goodIn_r _ [12, 13, 14, 4, 15] (by decide +kernel) (by decide +kernel)
set_option maxRecDepth 20000 in
theorem gX6_couple_X6_isPair : GoodIn wsX6_couple (va_wsS RX6 119 yX6_isPair wsX6_isPair) := goodIn_app (goodIn_of _ (by decide +kernel)) ggX6_couple_X6_isPair
set_option maxRecDepth 20000 in
theorem ggX6_couple_X6_couples : GoodIn wsX6_couple wsX6_couples := goodIn_r _ [19, 20, 7, 9, 21, 22, 23, 4, 24, 25, 26, 27, 28, 29, 30, 31, 32, 33, 34, 35, 36, 37, 38, 39, 40, 41, 42, 43, 44, 45, 46, 47, 59, 60, 61, 62, 63, 64, 65, 66, 67, 68, 69, 70, 71, 72, 73, 74, 75, 76, 77, 78, 79, 80] (by decide +kernel) (by decide +kernel)
set_option maxRecDepth 20000 in
theorem gX6_couple_X6_couples : GoodIn wsX6_couple (wsV RX6 143 RX6 yX6_couples wsX6_couples) := goodIn_app (goodIn_of _ (by decide +kernel)) ggX6_couple_X6_couples
set_option maxRecDepth 20000 in
theorem ggX6_couple_X6_acted : GoodIn wsX6_couple wsX6_acted := goodIn_r _ [51, 52, 53, 54, 4, 55, 56, 57, 58, 6, 8, 59, 60, 61, 62, 63, 64, 65, 66, 67, 68, 69, 70, 71, 72, 73, 74, 75, 76, 77, 78, 79, 80] (by decide +kernel) (by decide +kernel)
set_option maxRecDepth 20000 in
theorem gX6_couple_X6_acted : GoodIn wsX6_couple (wsV RX6 134 RX6 yX6_acted wsX6_acted) := goodIn_app (goodIn_of _ (by decide +kernel)) ggX6_couple_X6_acted
theorem dX6_couple_0 : decode cX6_couple 0 = .ok (.aload_n 0, 1) := by decide +kernel
theorem dX6_couple_1 : decode cX6_couple 1 = .ok (.invokevirtual 122, 3) := by decide +kernel
theorem dX6_couple_4 : decode cX6_couple 4 = .ok (.iload_n 1, 1) := by decide +kernel
theorem dX6_couple_5 : decode cX6_couple 5 = .ok (.invokestatic 119, 3) := by decide +kernel
theorem dX6_couple_8 : decode cX6_couple 8 = .ok (.ifCond .eq 23, 3) := by decide +kernel
theorem dX6_couple_11 : decode cX6_couple 11 = .ok (.iload_n 2, 1) := by decide +kernel
theorem dX6_couple_12 : decode cX6_couple 12 = .ok (.invokestatic 119, 3) := by decide +kernel
theorem dX6_couple_15 : decode cX6_couple 15 = .ok (.ifCond .eq 16, 3) := by decide +kernel
theorem dX6_couple_18 : decode cX6_couple 18 = .ok (.aload_n 0, 1) := by decide +kernel
theorem dX6_couple_19 : decode cX6_couple 19 = .ok (.aload_n 0, 1) := by decide +kernel
theorem dX6_couple_20 : decode cX6_couple 20 = .ok (.iload_n 1, 1) := by decide +kernel
theorem dX6_couple_21 : decode cX6_couple 21 = .ok (.iload_n 2, 1) := by decide +kernel
theorem dX6_couple_22 : decode cX6_couple 22 = .ok (.invokevirtual 143, 3) := by decide +kernel
theorem dX6_couple_25 : decode cX6_couple 25 = .ok (.invokevirtual 134, 3) := by decide +kernel
theorem dX6_couple_28 : decode cX6_couple 28 = .ok (.goto 4, 3) := by decide +kernel
theorem dX6_couple_31 : decode cX6_couple 31 = .ok (.iconst (-1), 1) := by decide +kernel
theorem dX6_couple_32 : decode cX6_couple 32 = .ok (.ireturn, 1) := by decide +kernel
set_option maxRecDepth 20000 in
theorem ggX6_pass_X6_looks : GoodIn wsX6_pass wsX6_looks := goodIn_r _ [5, 6, 7, 8, 9, 93, 94, 95, 96, 97, 98, 99, 100, 101, 102, 103, 104, 105, 106, 107, 108, 109, 110, 111, 112, 113, 114] (by decide +kernel) (by decide +kernel)
set_option maxRecDepth 20000 in
theorem gX6_pass_X6_looks : GoodIn wsX6_pass (wsV RX6 122 RX6 yX6_looks wsX6_looks) := goodIn_app (goodIn_of _ (by decide +kernel)) ggX6_pass_X6_looks
set_option maxRecDepth 20000 in
theorem ggX6_pass_X6_in : GoodIn wsX6_pass wsX6_in := goodIn_r _ [12] (by decide +kernel) (by decide +kernel)
set_option maxRecDepth 20000 in
theorem gX6_pass_X6_in : GoodIn wsX6_pass (va_wsS RX6 49 yX6_in wsX6_in) := goodIn_app (goodIn_of _ (by decide +kernel)) ggX6_pass_X6_in
set_option maxRecDepth 20000 in
theorem ggX6_pass_X6_passes : GoodIn wsX6_pass wsX6_passes := goodIn_r _ [16, 7, 17, 18, 19, 20, 4, 21, 9, 22, 23, 24, 25, 26, 27, 28, 29, 30, 31, 32, 33, 34, 35, 36, 37, 38, 39, 40, 41, 42, 43, 44, 45, 46, 47, 48, 49, 50, 51, 52, 53, 54, 55, 56, 57, 58, 59, 60, 61, 62, 63, 64, 65, 66, 67, 68, 69, 70, 71, 72, 73, 74, 75, 76, 77, 78, 79, 80, 81, 93, 94, 95, 96, 97, 98, 99, 100, 101, 102, 103, 104, 105, 106, 107, 108, 109, 110, 111, 112, 113, 114] (by decide +kernel) (by decide +kernel)
set_option maxRecDepth 20000 in
theorem gX6_pass_X6_passes : GoodIn wsX6_pass (wsV RX6 146 RX6 yX6_passes wsX6_passes) := goodIn_app (goodIn_of _ (by decide +kernel)) ggX6_pass_X6_passes
set_option maxRecDepth 20000 in
theorem ggX6_pass_X6_acted : GoodIn wsX6_pass wsX6_acted := goodIn_r _ [85, 86, 87, 88, 4, 89, 90, 91, 92, 6, 8, 93, 94, 95, 96, 97, 98, 99, 100, 101, 102, 103, 104, 105, 106, 107, 108, 109, 110, 111, 112, 113, 114] (by decide +kernel) (by decide +kernel)
set_option maxRecDepth 20000 in
theorem gX6_pass_X6_acted : GoodIn wsX6_pass (wsV RX6 134 RX6 yX6_acted wsX6_acted) := goodIn_app (goodIn_of _ (by decide +kernel)) ggX6_pass_X6_acted
theorem dX6_pass_0 : decode cX6_pass 0 = .ok (.aload_n 0, 1) := by decide +kernel
theorem dX6_pass_1 : decode cX6_pass 1 = .ok (.invokevirtual 122, 3) := by decide +kernel
theorem dX6_pass_4 : decode cX6_pass 4 = .ok (.iload_n 1, 1) := by decide +kernel
theorem dX6_pass_5 : decode cX6_pass 5 = .ok (.iconst 1, 1) := by decide +kernel
theorem dX6_pass_6 : decode cX6_pass 6 = .ok (.bipush 99, 2) := by decide +kernel
theorem dX6_pass_8 : decode cX6_pass 8 = .ok (.invokestatic 49, 3) := by decide +kernel
theorem dX6_pass_11 : decode cX6_pass 11 = .ok (.ifCond .eq 15, 3) := by decide +kernel
theorem dX6_pass_14 : decode cX6_pass 14 = .ok (.aload_n 0, 1) := by decide +kernel
theorem dX6_pass_15 : decode cX6_pass 15 = .ok (.aload_n 0, 1) := by decide +kernel
theorem dX6_pass_16 : decode cX6_pass 16 = .ok (.iload_n 1, 1) := by decide +kernel
theorem dX6_pass_17 : decode cX6_pass 17 = .ok (.invokevirtual 146, 3) := by decide +kernel
theorem dX6_pass_20 : decode cX6_pass 20 = .ok (.invokevirtual 134, 3) := by decide +kernel
theorem dX6_pass_23 : decode cX6_pass 23 = .ok (.goto 5, 3) := by decide +kernel
theorem dX6_pass_26 : decode cX6_pass 26 = .ok (.bipush (-2), 2) := by decide +kernel
theorem dX6_pass_28 : decode cX6_pass 28 = .ok (.ireturn, 1) := by decide +kernel
theorem dX6_type_0 : decode cX6_type 0 = .ok (.aload_n 0, 1) := by decide +kernel
theorem dX6_type_1 : decode cX6_type 1 = .ok (.getfield 149, 3) := by decide +kernel
theorem dX6_type_4 : decode cX6_type 4 = .ok (.bipush 60, 2) := by decide +kernel
theorem dX6_type_6 : decode cX6_type 6 = .ok (.if_icmp .ne 6, 3) := by decide +kernel
theorem dX6_type_9 : decode cX6_type 9 = .ok (.bipush (-3), 2) := by decide +kernel
theorem dX6_type_11 : decode cX6_type 11 = .ok (.ireturn, 1) := by decide +kernel
theorem dX6_type_12 : decode cX6_type 12 = .ok (.aload_n 0, 1) := by decide +kernel
theorem dX6_type_13 : decode cX6_type 13 = .ok (.getfield 35, 3) := by decide +kernel
theorem dX6_type_16 : decode cX6_type 16 = .ok (.aload_n 0, 1) := by decide +kernel
theorem dX6_type_17 : decode cX6_type 17 = .ok (.getfield 149, 3) := by decide +kernel
theorem dX6_type_20 : decode cX6_type 20 = .ok (.iload_n 1, 1) := by decide +kernel
theorem dX6_type_21 : decode cX6_type 21 = .ok (.iastore, 1) := by decide +kernel
theorem dX6_type_22 : decode cX6_type 22 = .ok (.aload_n 0, 1) := by decide +kernel
theorem dX6_type_23 : decode cX6_type 23 = .ok (.dup, 1) := by decide +kernel
theorem dX6_type_24 : decode cX6_type 24 = .ok (.getfield 149, 3) := by decide +kernel
theorem dX6_type_27 : decode cX6_type 27 = .ok (.iconst 1, 1) := by decide +kernel
theorem dX6_type_28 : decode cX6_type 28 = .ok (.iadd, 1) := by decide +kernel
theorem dX6_type_29 : decode cX6_type 29 = .ok (.putfield 149, 3) := by decide +kernel
theorem dX6_type_32 : decode cX6_type 32 = .ok (.aload_n 0, 1) := by decide +kernel
theorem dX6_type_33 : decode cX6_type 33 = .ok (.getfield 149, 3) := by decide +kernel
theorem dX6_type_36 : decode cX6_type 36 = .ok (.ireturn, 1) := by decide +kernel
theorem dX6_clearText_0 : decode cX6_clearText 0 = .ok (.aload_n 0, 1) := by decide +kernel
theorem dX6_clearText_1 : decode cX6_clearText 1 = .ok (.getfield 149, 3) := by decide +kernel
theorem dX6_clearText_4 : decode cX6_clearText 4 = .ok (.istore_n 1, 1) := by decide +kernel
theorem dX6_clearText_5 : decode cX6_clearText 5 = .ok (.aload_n 0, 1) := by decide +kernel
theorem dX6_clearText_6 : decode cX6_clearText 6 = .ok (.iconst 0, 1) := by decide +kernel
theorem dX6_clearText_7 : decode cX6_clearText 7 = .ok (.putfield 149, 3) := by decide +kernel
theorem dX6_clearText_10 : decode cX6_clearText 10 = .ok (.iload_n 1, 1) := by decide +kernel
theorem dX6_clearText_11 : decode cX6_clearText 11 = .ok (.ireturn, 1) := by decide +kernel
set_option maxRecDepth 20000 in
theorem ggX6_isNext_X6_in : GoodIn wsX6_isNext wsX6_in := goodIn_r _ [8] (by decide +kernel) (by decide +kernel)
set_option maxRecDepth 20000 in
theorem gX6_isNext_X6_in : GoodIn wsX6_isNext (va_wsS RX6 49 yX6_in wsX6_in) := goodIn_app (goodIn_of _ (by decide +kernel)) ggX6_isNext_X6_in
theorem dX6_isNext_0 : decode cX6_isNext 0 = .ok (.aload_n 0, 1) := by decide +kernel
theorem dX6_isNext_1 : decode cX6_isNext 1 = .ok (.getfield 152, 3) := by decide +kernel
theorem dX6_isNext_4 : decode cX6_isNext 4 = .ok (.ifCond .ne 35, 3) := by decide +kernel
theorem dX6_isNext_7 : decode cX6_isNext 7 = .ok (.aload_n 0, 1) := by decide +kernel
theorem dX6_isNext_8 : decode cX6_isNext 8 = .ok (.getfield 156, 3) := by decide +kernel
theorem dX6_isNext_11 : decode cX6_isNext 11 = .ok (.aload_n 0, 1) := by decide +kernel
theorem dX6_isNext_12 : decode cX6_isNext 12 = .ok (.getfield 149, 3) := by decide +kernel
theorem dX6_isNext_15 : decode cX6_isNext 15 = .ok (.if_icmp .ge 24, 3) := by decide +kernel
theorem dX6_isNext_18 : decode cX6_isNext 18 = .ok (.aload_n 0, 1) := by decide +kernel
theorem dX6_isNext_19 : decode cX6_isNext 19 = .ok (.getfield 35, 3) := by decide +kernel
theorem dX6_isNext_22 : decode cX6_isNext 22 = .ok (.aload_n 0, 1) := by decide +kernel
theorem dX6_isNext_23 : decode cX6_isNext 23 = .ok (.getfield 156, 3) := by decide +kernel
theorem dX6_isNext_26 : decode cX6_isNext 26 = .ok (.iaload, 1) := by decide +kernel
theorem dX6_isNext_27 : decode cX6_isNext 27 = .ok (.iload_n 1, 1) := by decide +kernel
theorem dX6_isNext_28 : decode cX6_isNext 28 = .ok (.iload_n 2, 1) := by decide +kernel
theorem dX6_isNext_29 : decode cX6_isNext 29 = .ok (.invokestatic 49, 3) := by decide +kernel
theorem dX6_isNext_32 : decode cX6_isNext 32 = .ok (.ifCond .eq 7, 3) := by decide +kernel
theorem dX6_isNext_35 : decode cX6_isNext 35 = .ok (.iconst 1, 1) := by decide +kernel
theorem dX6_isNext_36 : decode cX6_isNext 36 = .ok (.goto 4, 3) := by decide +kernel
theorem dX6_isNext_39 : decode cX6_isNext 39 = .ok (.iconst 0, 1) := by decide +kernel
theorem dX6_isNext_40 : decode cX6_isNext 40 = .ok (.ireturn, 1) := by decide +kernel
set_option maxRecDepth 20000 in
theorem ggX6_takes_X6_in : GoodIn wsX6_takes wsX6_in := goodIn_r _ [8] (by decide +kernel) (by decide +kernel)
set_option maxRecDepth 20000 in
theorem gX6_takes_X6_in : GoodIn wsX6_takes (va_wsS RX6 49 yX6_in wsX6_in) := goodIn_app (goodIn_of _ (by decide +kernel)) ggX6_takes_X6_in
theorem dX6_takes_0 : decode cX6_takes 0 = .ok (.aload_n 0, 1) := by decide +kernel
theorem dX6_takes_1 : decode cX6_takes 1 = .ok (.getfield 156, 3) := by decide +kernel
theorem dX6_takes_4 : decode cX6_takes 4 = .ok (.aload_n 0, 1) := by decide +kernel
theorem dX6_takes_5 : decode cX6_takes 5 = .ok (.getfield 149, 3) := by decide +kernel
theorem dX6_takes_8 : decode cX6_takes 8 = .ok (.if_icmp .ge 15, 3) := by decide +kernel
theorem dX6_takes_11 : decode cX6_takes 11 = .ok (.aload_n 0, 1) := by decide +kernel
theorem dX6_takes_12 : decode cX6_takes 12 = .ok (.getfield 35, 3) := by decide +kernel
theorem dX6_takes_15 : decode cX6_takes 15 = .ok (.aload_n 0, 1) := by decide +kernel
theorem dX6_takes_16 : decode cX6_takes 16 = .ok (.getfield 156, 3) := by decide +kernel
theorem dX6_takes_19 : decode cX6_takes 19 = .ok (.iaload, 1) := by decide +kernel
theorem dX6_takes_20 : decode cX6_takes 20 = .ok (.goto 4, 3) := by decide +kernel
theorem dX6_takes_23 : decode cX6_takes 23 = .ok (.iconst 0, 1) := by decide +kernel
theorem dX6_takes_24 : decode cX6_takes 24 = .ok (.istore_n 3, 1) := by decide +kernel
theorem dX6_takes_25 : decode cX6_takes 25 = .ok (.aload_n 0, 1) := by decide +kernel
theorem dX6_takes_26 : decode cX6_takes 26 = .ok (.aload_n 0, 1) := by decide +kernel
theorem dX6_takes_27 : decode cX6_takes 27 = .ok (.getfield 152, 3) := by decide +kernel
theorem dX6_takes_30 : decode cX6_takes 30 = .ok (.ifCond .ne 12, 3) := by decide +kernel
theorem dX6_takes_33 : decode cX6_takes 33 = .ok (.iload_n 3, 1) := by decide +kernel
theorem dX6_takes_34 : decode cX6_takes 34 = .ok (.iload_n 1, 1) := by decide +kernel
theorem dX6_takes_35 : decode cX6_takes 35 = .ok (.iload_n 2, 1) := by decide +kernel
theorem dX6_takes_36 : decode cX6_takes 36 = .ok (.invokestatic 49, 3) := by decide +kernel
theorem dX6_takes_39 : decode cX6_takes 39 = .ok (.ifCond .ne 7, 3) := by decide +kernel
theorem dX6_takes_42 : decode cX6_takes 42 = .ok (.iconst 1, 1) := by decide +kernel
theorem dX6_takes_43 : decode cX6_takes 43 = .ok (.goto 4, 3) := by decide +kernel
theorem dX6_takes_46 : decode cX6_takes 46 = .ok (.iconst 0, 1) := by decide +kernel
theorem dX6_takes_47 : decode cX6_takes 47 = .ok (.putfield 152, 3) := by decide +kernel
theorem dX6_takes_50 : decode cX6_takes 50 = .ok (.aload_n 0, 1) := by decide +kernel
theorem dX6_takes_51 : decode cX6_takes 51 = .ok (.dup, 1) := by decide +kernel
theorem dX6_takes_52 : decode cX6_takes 52 = .ok (.getfield 156, 3) := by decide +kernel
theorem dX6_takes_55 : decode cX6_takes 55 = .ok (.aload_n 0, 1) := by decide +kernel
theorem dX6_takes_56 : decode cX6_takes 56 = .ok (.getfield 152, 3) := by decide +kernel
theorem dX6_takes_59 : decode cX6_takes 59 = .ok (.ifCond .eq 7, 3) := by decide +kernel
theorem dX6_takes_62 : decode cX6_takes 62 = .ok (.iconst 0, 1) := by decide +kernel
theorem dX6_takes_63 : decode cX6_takes 63 = .ok (.goto 4, 3) := by decide +kernel
theorem dX6_takes_66 : decode cX6_takes 66 = .ok (.iconst 1, 1) := by decide +kernel
theorem dX6_takes_67 : decode cX6_takes 67 = .ok (.iadd, 1) := by decide +kernel
theorem dX6_takes_68 : decode cX6_takes 68 = .ok (.putfield 156, 3) := by decide +kernel
theorem dX6_takes_71 : decode cX6_takes 71 = .ok (.iload_n 3, 1) := by decide +kernel
theorem dX6_takes_72 : decode cX6_takes 72 = .ok (.iload_n 1, 1) := by decide +kernel
theorem dX6_takes_73 : decode cX6_takes 73 = .ok (.isub, 1) := by decide +kernel
theorem dX6_takes_74 : decode cX6_takes 74 = .ok (.ireturn, 1) := by decide +kernel
set_option maxRecDepth 20000 in
theorem ggX6_takesNumber_X6_takes : GoodIn wsX6_takesNumber wsX6_takes := goodIn_r _ [7, 2, 8, 1, 9, 10, 11, 6, 12, 17, 18, 19, 20, 21, 22, 23, 24, 25, 26, 27, 28, 29, 30, 31, 32, 33, 34, 35, 36, 37, 38] (by decide +kernel) (by decide +kernel)
set_option maxRecDepth 20000 in
theorem gX6_takesNumber_X6_takes : GoodIn wsX6_takesNumber (wsV RX6 159 RX6 yX6_takes wsX6_takes) := goodIn_app (goodIn_of _ (by decide +kernel)) ggX6_takesNumber_X6_takes
set_option maxRecDepth 20000 in
theorem ggX6_takesNumber_X6_isNext : GoodIn wsX6_takesNumber wsX6_isNext := goodIn_r _ [16, 9, 2, 8, 1, 10, 11, 6, 12, 17, 18, 19, 20, 21, 22, 23, 24, 25, 26, 27, 28, 29, 30, 31, 32, 33, 34, 35, 36, 37, 38] (by decide +kernel) (by decide +kernel)
set_option maxRecDepth 20000 in
theorem gX6_takesNumber_X6_isNext : GoodIn wsX6_takesNumber (wsV RX6 162 RX6 yX6_isNext wsX6_isNext) := goodIn_app (goodIn_of _ (by decide +kernel)) ggX6_takesNumber_X6_isNext
theorem dX6_takesNumber_0 : decode cX6_takesNumber 0 = .ok (.iload_n 1, 1) := by decide +kernel
theorem dX6_takesNumber_1 : decode cX6_takesNumber 1 = .ok (.aload_n 0, 1) := by decide +kernel
theorem dX6_takesNumber_2 : decode cX6_takesNumber 2 = .ok (.bipush 48, 2) := by decide +kernel
theorem dX6_takesNumber_4 : decode cX6_takesNumber 4 = .ok (.iload_n 1, 1) := by decide +kernel
theorem dX6_takesNumber_5 : decode cX6_takesNumber 5 = .ok (.iadd, 1) := by decide +kernel
theorem dX6_takesNumber_6 : decode cX6_takesNumber 6 = .ok (.bipush 57, 2) := by decide +kernel
theorem dX6_takesNumber_8 : decode cX6_takesNumber 8 = .ok (.invokevirtual 159, 3) := by decide +kernel
theorem dX6_takesNumber_11 : decode cX6_takesNumber 11 = .ok (.iadd, 1) := by decide +kernel
theorem dX6_takesNumber_12 : decode cX6_takesNumber 12 = .ok (.istore_n 3, 1) := by decide +kernel
theorem dX6_takesNumber_13 : decode cX6_takesNumber 13 = .ok (.iload_n 3, 1) := by decide +kernel
theorem dX6_takesNumber_14 : decode cX6_takesNumber 14 = .ok (.ifCond .le 7, 3) := by decide +kernel
theorem dX6_takesNumber_17 : decode cX6_takesNumber 17 = .ok (.iconst 1, 1) := by decide +kernel
theorem dX6_takesNumber_18 : decode cX6_takesNumber 18 = .ok (.goto 4, 3) := by decide +kernel
theorem dX6_takesNumber_21 : decode cX6_takesNumber 21 = .ok (.iconst 0, 1) := by decide +kernel
theorem dX6_takesNumber_22 : decode cX6_takesNumber 22 = .ok (.istore 4, 2) := by decide +kernel
theorem dX6_takesNumber_24 : decode cX6_takesNumber 24 = .ok (.iload 4, 2) := by decide +kernel
theorem dX6_takesNumber_26 : decode cX6_takesNumber 26 = .ok (.ifCond .eq 68, 3) := by decide +kernel
theorem dX6_takesNumber_29 : decode cX6_takesNumber 29 = .ok (.aload_n 0, 1) := by decide +kernel
theorem dX6_takesNumber_30 : decode cX6_takesNumber 30 = .ok (.bipush 48, 2) := by decide +kernel
theorem dX6_takesNumber_32 : decode cX6_takesNumber 32 = .ok (.bipush 57, 2) := by decide +kernel
theorem dX6_takesNumber_34 : decode cX6_takesNumber 34 = .ok (.invokevirtual 162, 3) := by decide +kernel
theorem dX6_takesNumber_37 : decode cX6_takesNumber 37 = .ok (.ifCond .eq 28, 3) := by decide +kernel
theorem dX6_takesNumber_40 : decode cX6_takesNumber 40 = .ok (.bipush 10, 2) := by decide +kernel
theorem dX6_takesNumber_42 : decode cX6_takesNumber 42 = .ok (.iload_n 3, 1) := by decide +kernel
theorem dX6_takesNumber_43 : decode cX6_takesNumber 43 = .ok (.imul, 1) := by decide +kernel
theorem dX6_takesNumber_44 : decode cX6_takesNumber 44 = .ok (.aload_n 0, 1) := by decide +kernel
theorem dX6_takesNumber_45 : decode cX6_takesNumber 45 = .ok (.getfield 35, 3) := by decide +kernel
theorem dX6_takesNumber_48 : decode cX6_takesNumber 48 = .ok (.aload_n 0, 1) := by decide +kernel
theorem dX6_takesNumber_49 : decode cX6_takesNumber 49 = .ok (.getfield 156, 3) := by decide +kernel
theorem dX6_takesNumber_52 : decode cX6_takesNumber 52 = .ok (.iaload, 1) := by decide +kernel
theorem dX6_takesNumber_53 : decode cX6_takesNumber 53 = .ok (.iadd, 1) := by decide +kernel
theorem dX6_takesNumber_54 : decode cX6_takesNumber 54 = .ok (.bipush 48, 2) := by decide +kernel
theorem dX6_takesNumber_56 : decode cX6_takesNumber 56 = .ok (.isub, 1) := by decide +kernel
theorem dX6_takesNumber_57 : decode cX6_takesNumber 57 = .ok (.iload_n 2, 1) := by decide +kernel
theorem dX6_takesNumber_58 : decode cX6_takesNumber 58 = .ok (.if_icmp .gt 7, 3) := by decide +kernel
theorem dX6_takesNumber_61 : decode cX6_takesNumber 61 = .ok (.iconst 1, 1) := by decide +kernel
theorem dX6_takesNumber_62 : decode cX6_takesNumber 62 = .ok (.goto 4, 3) := by decide +kernel
theorem dX6_takesNumber_65 : decode cX6_takesNumber 65 = .ok (.iconst 0, 1) := by decide +kernel
theorem dX6_takesNumber_66 : decode cX6_takesNumber 66 = .ok (.istore 4, 2) := by decide +kernel
theorem dX6_takesNumber_68 : decode cX6_takesNumber 68 = .ok (.iload 4, 2) := by decide +kernel
theorem dX6_takesNumber_70 : decode cX6_takesNumber 70 = .ok (.ifCond .eq 19, 3) := by decide +kernel
theorem dX6_takesNumber_73 : decode cX6_takesNumber 73 = .ok (.bipush 10, 2) := by decide +kernel
theorem dX6_takesNumber_75 : decode cX6_takesNumber 75 = .ok (.iload_n 3, 1) := by decide +kernel
theorem dX6_takesNumber_76 : decode cX6_takesNumber 76 = .ok (.imul, 1) := by decide +kernel
theorem dX6_takesNumber_77 : decode cX6_takesNumber 77 = .ok (.aload_n 0, 1) := by decide +kernel
theorem dX6_takesNumber_78 : decode cX6_takesNumber 78 = .ok (.bipush 48, 2) := by decide +kernel
theorem dX6_takesNumber_80 : decode cX6_takesNumber 80 = .ok (.bipush 57, 2) := by decide +kernel
theorem dX6_takesNumber_82 : decode cX6_takesNumber 82 = .ok (.invokevirtual 159, 3) := by decide +kernel
theorem dX6_takesNumber_85 : decode cX6_takesNumber 85 = .ok (.iadd, 1) := by decide +kernel
theorem dX6_takesNumber_86 : decode cX6_takesNumber 86 = .ok (.goto 4, 3) := by decide +kernel
theorem dX6_takesNumber_89 : decode cX6_takesNumber 89 = .ok (.iload_n 3, 1) := by decide +kernel
theorem dX6_takesNumber_90 : decode cX6_takesNumber 90 = .ok (.istore_n 3, 1) := by decide +kernel
theorem dX6_takesNumber_91 : decode cX6_takesNumber 91 = .ok (.goto (-67), 3) := by decide +kernel
theorem dX6_takesNumber_94 : decode cX6_takesNumber 94 = .ok (.iload_n 3, 1) := by decide +kernel
theorem dX6_takesNumber_95 : decode cX6_takesNumber 95 = .ok (.ireturn, 1) := by decide +kernel
set_option maxRecDepth 20000 in
theorem ggX6_readThing_X6_takesNumber : GoodIn wsX6_readThing wsX6_takesNumber := goodIn_r _ [12, 3, 1, 13, 14, 15, 11, 16, 2, 5, 17, 18, 19, 20, 21, 22, 23, 24, 25, 26, 27, 28, 29, 30, 31, 32, 33, 34, 35, 36, 37, 38, 39, 40, 41, 42, 43, 44, 45] (by decide +kernel) (by decide +kernel)
set_option maxRecDepth 20000 in
theorem gX6_readThing_X6_takesNumber : GoodIn wsX6_readThing (wsV RX6 169 RX6 yX6_takesNumber wsX6_takesNumber) := goodIn_app (goodIn_of _ (by decide +kernel)) ggX6_readThing_X6_takesNumber
set_option maxRecDepth 20000 in
theorem ggX6_readThing_X6_takes : GoodIn wsX6_readThing wsX6_takes := goodIn_r _ [16, 1, 2, 3, 5, 17, 18, 11, 19, 24, 25, 26, 27, 28, 29, 30, 31, 32, 33, 34, 35, 36, 37, 38, 39, 40, 41, 42, 43, 44, 45] (by decide +kernel) (by decide +kernel)
set_option maxRecDepth 20000 in
theorem gX6_readThing_X6_takes : GoodIn wsX6_readThing (wsV RX6 159 RX6 yX6_takes wsX6_takes) := goodIn_app (goodIn_of _ (by decide +kernel)) ggX6_readThing_X6_takes
theorem dX6_readThing_0 : decode cX6_readThing 0 = .ok (.aload_n 0, 1) := by decide +kernel
theorem dX6_readThing_1 : decode cX6_readThing 1 = .ok (.aload_n 0, 1) := by decide +kernel
theorem dX6_readThing_2 : decode cX6_readThing 2 = .ok (.getfield 156, 3) := by decide +kernel
theorem dX6_readThing_5 : decode cX6_readThing 5 = .ok (.aload_n 0, 1) := by decide +kernel
theorem dX6_readThing_6 : decode cX6_readThing 6 = .ok (.getfield 149, 3) := by decide +kernel
theorem dX6_readThing_9 : decode cX6_readThing 9 = .ok (.if_icmp .ge 15, 3) := by decide +kernel
theorem dX6_readThing_12 : decode cX6_readThing 12 = .ok (.aload_n 0, 1) := by decide +kernel
theorem dX6_readThing_13 : decode cX6_readThing 13 = .ok (.getfield 35, 3) := by decide +kernel
theorem dX6_readThing_16 : decode cX6_readThing 16 = .ok (.aload_n 0, 1) := by decide +kernel
theorem dX6_readThing_17 : decode cX6_readThing 17 = .ok (.getfield 156, 3) := by decide +kernel
theorem dX6_readThing_20 : decode cX6_readThing 20 = .ok (.iaload, 1) := by decide +kernel
theorem dX6_readThing_21 : decode cX6_readThing 21 = .ok (.goto 4, 3) := by decide +kernel
theorem dX6_readThing_24 : decode cX6_readThing 24 = .ok (.iconst 0, 1) := by decide +kernel
theorem dX6_readThing_25 : decode cX6_readThing 25 = .ok (.putfield 166, 3) := by decide +kernel
theorem dX6_readThing_28 : decode cX6_readThing 28 = .ok (.aload_n 0, 1) := by decide +kernel
theorem dX6_readThing_29 : decode cX6_readThing 29 = .ok (.aload_n 0, 1) := by decide +kernel
theorem dX6_readThing_30 : decode cX6_readThing 30 = .ok (.getfield 152, 3) := by decide +kernel
theorem dX6_readThing_33 : decode cX6_readThing 33 = .ok (.ifCond .ne 48, 3) := by decide +kernel
theorem dX6_readThing_36 : decode cX6_readThing 36 = .ok (.aload_n 0, 1) := by decide +kernel
theorem dX6_readThing_37 : decode cX6_readThing 37 = .ok (.getfield 166, 3) := by decide +kernel
theorem dX6_readThing_40 : decode cX6_readThing 40 = .ok (.bipush 98, 2) := by decide +kernel
theorem dX6_readThing_42 : decode cX6_readThing 42 = .ok (.if_icmp .eq 43, 3) := by decide +kernel
theorem dX6_readThing_45 : decode cX6_readThing 45 = .ok (.aload_n 0, 1) := by decide +kernel
theorem dX6_readThing_46 : decode cX6_readThing 46 = .ok (.getfield 166, 3) := by decide +kernel
theorem dX6_readThing_49 : decode cX6_readThing 49 = .ok (.bipush 111, 2) := by decide +kernel
theorem dX6_readThing_51 : decode cX6_readThing 51 = .ok (.if_icmp .eq 34, 3) := by decide +kernel
theorem dX6_readThing_54 : decode cX6_readThing 54 = .ok (.aload_n 0, 1) := by decide +kernel
theorem dX6_readThing_55 : decode cX6_readThing 55 = .ok (.getfield 166, 3) := by decide +kernel
theorem dX6_readThing_58 : decode cX6_readThing 58 = .ok (.bipush 100, 2) := by decide +kernel
theorem dX6_readThing_60 : decode cX6_readThing 60 = .ok (.if_icmp .eq 25, 3) := by decide +kernel
theorem dX6_readThing_63 : decode cX6_readThing 63 = .ok (.aload_n 0, 1) := by decide +kernel
theorem dX6_readThing_64 : decode cX6_readThing 64 = .ok (.getfield 166, 3) := by decide +kernel
theorem dX6_readThing_67 : decode cX6_readThing 67 = .ok (.bipush 99, 2) := by decide +kernel
theorem dX6_readThing_69 : decode cX6_readThing 69 = .ok (.if_icmp .eq 16, 3) := by decide +kernel
theorem dX6_readThing_72 : decode cX6_readThing 72 = .ok (.aload_n 0, 1) := by decide +kernel
theorem dX6_readThing_73 : decode cX6_readThing 73 = .ok (.getfield 166, 3) := by decide +kernel
theorem dX6_readThing_76 : decode cX6_readThing 76 = .ok (.bipush 46, 2) := by decide +kernel
theorem dX6_readThing_78 : decode cX6_readThing 78 = .ok (.if_icmp .eq 7, 3) := by decide +kernel
theorem dX6_readThing_81 : decode cX6_readThing 81 = .ok (.iconst 1, 1) := by decide +kernel
theorem dX6_readThing_82 : decode cX6_readThing 82 = .ok (.goto 4, 3) := by decide +kernel
theorem dX6_readThing_85 : decode cX6_readThing 85 = .ok (.iconst 0, 1) := by decide +kernel
theorem dX6_readThing_86 : decode cX6_readThing 86 = .ok (.putfield 152, 3) := by decide +kernel
theorem dX6_readThing_89 : decode cX6_readThing 89 = .ok (.aload_n 0, 1) := by decide +kernel
theorem dX6_readThing_90 : decode cX6_readThing 90 = .ok (.dup, 1) := by decide +kernel
theorem dX6_readThing_91 : decode cX6_readThing 91 = .ok (.getfield 156, 3) := by decide +kernel
theorem dX6_readThing_94 : decode cX6_readThing 94 = .ok (.aload_n 0, 1) := by decide +kernel
theorem dX6_readThing_95 : decode cX6_readThing 95 = .ok (.getfield 152, 3) := by decide +kernel
theorem dX6_readThing_98 : decode cX6_readThing 98 = .ok (.ifCond .eq 7, 3) := by decide +kernel
theorem dX6_readThing_101 : decode cX6_readThing 101 = .ok (.iconst 0, 1) := by decide +kernel
theorem dX6_readThing_102 : decode cX6_readThing 102 = .ok (.goto 4, 3) := by decide +kernel
theorem dX6_readThing_105 : decode cX6_readThing 105 = .ok (.iconst 1, 1) := by decide +kernel
theorem dX6_readThing_106 : decode cX6_readThing 106 = .ok (.iadd, 1) := by decide +kernel
theorem dX6_readThing_107 : decode cX6_readThing 107 = .ok (.putfield 156, 3) := by decide +kernel
theorem dX6_readThing_110 : decode cX6_readThing 110 = .ok (.aload_n 0, 1) := by decide +kernel
theorem dX6_readThing_111 : decode cX6_readThing 111 = .ok (.aload_n 0, 1) := by decide +kernel
theorem dX6_readThing_112 : decode cX6_readThing 112 = .ok (.getfield 166, 3) := by decide +kernel
theorem dX6_readThing_115 : decode cX6_readThing 115 = .ok (.bipush 46, 2) := by decide +kernel
theorem dX6_readThing_117 : decode cX6_readThing 117 = .ok (.if_icmp .ne 13, 3) := by decide +kernel
theorem dX6_readThing_120 : decode cX6_readThing 120 = .ok (.aload_n 0, 1) := by decide +kernel
theorem dX6_readThing_121 : decode cX6_readThing 121 = .ok (.iconst 1, 1) := by decide +kernel
theorem dX6_readThing_122 : decode cX6_readThing 122 = .ok (.bipush 99, 2) := by decide +kernel
theorem dX6_readThing_124 : decode cX6_readThing 124 = .ok (.invokevirtual 169, 3) := by decide +kernel
theorem dX6_readThing_127 : decode cX6_readThing 127 = .ok (.goto 11, 3) := by decide +kernel
theorem dX6_readThing_130 : decode cX6_readThing 130 = .ok (.aload_n 0, 1) := by decide +kernel
theorem dX6_readThing_131 : decode cX6_readThing 131 = .ok (.bipush 48, 2) := by decide +kernel
theorem dX6_readThing_133 : decode cX6_readThing 133 = .ok (.bipush 51, 2) := by decide +kernel
theorem dX6_readThing_135 : decode cX6_readThing 135 = .ok (.invokevirtual 159, 3) := by decide +kernel
theorem dX6_readThing_138 : decode cX6_readThing 138 = .ok (.putfield 172, 3) := by decide +kernel
theorem dX6_readThing_141 : decode cX6_readThing 141 = .ok (.aload_n 0, 1) := by decide +kernel
theorem dX6_readThing_142 : decode cX6_readThing 142 = .ok (.iconst 0, 1) := by decide +kernel
theorem dX6_readThing_143 : decode cX6_readThing 143 = .ok (.putfield 175, 3) := by decide +kernel
theorem dX6_readThing_146 : decode cX6_readThing 146 = .ok (.aload_n 0, 1) := by decide +kernel
theorem dX6_readThing_147 : decode cX6_readThing 147 = .ok (.getfield 166, 3) := by decide +kernel
theorem dX6_readThing_150 : decode cX6_readThing 150 = .ok (.bipush 98, 2) := by decide +kernel
theorem dX6_readThing_152 : decode cX6_readThing 152 = .ok (.if_icmp .eq 12, 3) := by decide +kernel
theorem dX6_readThing_155 : decode cX6_readThing 155 = .ok (.aload_n 0, 1) := by decide +kernel
theorem dX6_readThing_156 : decode cX6_readThing 156 = .ok (.getfield 166, 3) := by decide +kernel
theorem dX6_readThing_159 : decode cX6_readThing 159 = .ok (.bipush 100, 2) := by decide +kernel
theorem dX6_readThing_161 : decode cX6_readThing 161 = .ok (.if_icmp .ne 40, 3) := by decide +kernel
theorem dX6_readThing_164 : decode cX6_readThing 164 = .ok (.aload_n 0, 1) := by decide +kernel
theorem dX6_readThing_165 : decode cX6_readThing 165 = .ok (.bipush 61, 2) := by decide +kernel
theorem dX6_readThing_167 : decode cX6_readThing 167 = .ok (.bipush 61, 2) := by decide +kernel
theorem dX6_readThing_169 : decode cX6_readThing 169 = .ok (.invokevirtual 159, 3) := by decide +kernel
theorem dX6_readThing_172 : decode cX6_readThing 172 = .ok (.istore_n 1, 1) := by decide +kernel
theorem dX6_readThing_173 : decode cX6_readThing 173 = .ok (.aload_n 0, 1) := by decide +kernel
theorem dX6_readThing_174 : decode cX6_readThing 174 = .ok (.aload_n 0, 1) := by decide +kernel
theorem dX6_readThing_175 : decode cX6_readThing 175 = .ok (.iconst 0, 1) := by decide +kernel
theorem dX6_readThing_176 : decode cX6_readThing 176 = .ok (.aload_n 0, 1) := by decide +kernel
theorem dX6_readThing_177 : decode cX6_readThing 177 = .ok (.getfield 166, 3) := by decide +kernel
theorem dX6_readThing_180 : decode cX6_readThing 180 = .ok (.bipush 98, 2) := by decide +kernel
theorem dX6_readThing_182 : decode cX6_readThing 182 = .ok (.if_icmp .ne 8, 3) := by decide +kernel
theorem dX6_readThing_185 : decode cX6_readThing 185 = .ok (.bipush 30, 2) := by decide +kernel
theorem dX6_readThing_187 : decode cX6_readThing 187 = .ok (.goto 5, 3) := by decide +kernel
theorem dX6_readThing_190 : decode cX6_readThing 190 = .ok (.bipush 40, 2) := by decide +kernel
theorem dX6_readThing_192 : decode cX6_readThing 192 = .ok (.invokevirtual 169, 3) := by decide +kernel
theorem dX6_readThing_195 : decode cX6_readThing 195 = .ok (.putfield 175, 3) := by decide +kernel
theorem dX6_readThing_198 : decode cX6_readThing 198 = .ok (.goto 24, 3) := by decide +kernel
theorem dX6_readThing_201 : decode cX6_readThing 201 = .ok (.aload_n 0, 1) := by decide +kernel
theorem dX6_readThing_202 : decode cX6_readThing 202 = .ok (.getfield 166, 3) := by decide +kernel
theorem dX6_readThing_205 : decode cX6_readThing 205 = .ok (.bipush 99, 2) := by decide +kernel
theorem dX6_readThing_207 : decode cX6_readThing 207 = .ok (.if_icmp .ne 15, 3) := by decide +kernel
theorem dX6_readThing_210 : decode cX6_readThing 210 = .ok (.aload_n 0, 1) := by decide +kernel
theorem dX6_readThing_211 : decode cX6_readThing 211 = .ok (.aload_n 0, 1) := by decide +kernel
theorem dX6_readThing_212 : decode cX6_readThing 212 = .ok (.bipush 48, 2) := by decide +kernel
theorem dX6_readThing_214 : decode cX6_readThing 214 = .ok (.bipush 51, 2) := by decide +kernel
theorem dX6_readThing_216 : decode cX6_readThing 216 = .ok (.invokevirtual 159, 3) := by decide +kernel
theorem dX6_readThing_219 : decode cX6_readThing 219 = .ok (.putfield 175, 3) := by decide +kernel
theorem dX6_readThing_222 : decode cX6_readThing 222 = .ok (.return_, 1) := by decide +kernel
set_option maxRecDepth 20000 in
theorem ggX6_does_X6_turnsOn : GoodIn wsX6_does wsX6_turnsOn := goodIn_r _ [8, 9, 10, 11, 12, 7, 13, 14, 15, 16, 17, 18, 19, 20, 21, 22, 23, 24, 25, 26, 27, 28, 29, 30, 31, 32, 33, 34, 96, 97, 98, 99, 100, 101, 102, 103, 104, 105, 106, 107, 108, 109, 110, 111, 112, 113, 114, 115, 116, 117] (by decide +kernel) (by decide +kernel)
set_option maxRecDepth 20000 in
theorem gX6_does_X6_turnsOn : GoodIn wsX6_does (wsV RX6 137 RX6 yX6_turnsOn wsX6_turnsOn) := goodIn_app (goodIn_of _ (by decide +kernel)) ggX6_does_X6_turnsOn
set_option maxRecDepth 20000 in
theorem ggX6_does_X6_turnsOff : GoodIn wsX6_does wsX6_turnsOff := goodIn_r _ [38, 9, 10, 11, 12, 7, 13, 14, 15, 16, 17, 18, 19, 20, 96, 97, 98, 99, 100, 101, 102, 103, 104, 105, 106, 107, 108, 109, 110, 111, 112, 113, 114, 115, 116, 117] (by decide +kernel) (by decide +kernel)
set_option maxRecDepth 20000 in
theorem gX6_does_X6_turnsOff : GoodIn wsX6_does (wsV RX6 140 RX6 yX6_turnsOff wsX6_turnsOff) := goodIn_app (goodIn_of _ (by decide +kernel)) ggX6_does_X6_turnsOff
set_option maxRecDepth 20000 in
theorem ggX6_does_X6_lays : GoodIn wsX6_does wsX6_lays := goodIn_r _ [42, 9, 14, 15, 16, 7, 17, 18, 19, 20, 21, 22, 23, 24, 25, 26, 10, 11, 12, 13, 27, 28, 29, 30, 31, 32, 33, 34, 96, 97, 98, 99, 100, 101, 102, 103, 104, 105, 106, 107, 108, 109, 110, 111, 112, 113, 114, 115, 116, 117] (by decide +kernel) (by decide +kernel)
set_option maxRecDepth 20000 in
theorem gX6_does_X6_lays : GoodIn wsX6_does (wsV RX6 131 RX6 yX6_lays wsX6_lays) := goodIn_app (goodIn_of _ (by decide +kernel)) ggX6_does_X6_lays
set_option maxRecDepth 20000 in
theorem ggX6_does_X6_couples : GoodIn wsX6_does wsX6_couples := goodIn_r _ [46, 47, 9, 25, 10, 11, 12, 7, 13, 14, 15, 16, 17, 18, 19, 20, 27, 28, 29, 30, 31, 32, 33, 34, 48, 49, 50, 51, 52, 53, 54, 26, 96, 97, 98, 99, 100, 101, 102, 103, 104, 105, 106, 107, 108, 109, 110, 111, 112, 113, 114, 115, 116, 117] (by decide +kernel) (by decide +kernel)
set_option maxRecDepth 20000 in
theorem gX6_does_X6_couples : GoodIn wsX6_does (wsV RX6 143 RX6 yX6_couples wsX6_couples) := goodIn_app (goodIn_of _ (by decide +kernel)) ggX6_does_X6_couples
set_option maxRecDepth 20000 in
theorem ggX6_does_X6_passes : GoodIn wsX6_does wsX6_passes := goodIn_r _ [58, 9, 59, 60, 61, 62, 7, 63, 25, 10, 11, 12, 13, 14, 15, 16, 17, 18, 19, 20, 48, 49, 50, 51, 27, 28, 29, 30, 31, 32, 33, 34, 64, 65, 66, 67, 68, 69, 70, 71, 72, 73, 74, 75, 76, 77, 78, 79, 80, 81, 82, 83, 84, 85, 86, 87, 88, 89, 90, 91, 92, 93, 94, 95, 21, 22, 23, 24, 26, 96, 97, 98, 99, 100, 101, 102, 103, 104, 105, 106, 107, 108, 109, 110, 111, 112, 113, 114, 115, 116, 117] (by decide +kernel) (by decide +kernel)
set_option maxRecDepth 20000 in
theorem gX6_does_X6_passes : GoodIn wsX6_does (wsV RX6 146 RX6 yX6_passes wsX6_passes) := goodIn_app (goodIn_of _ (by decide +kernel)) ggX6_does_X6_passes
theorem dX6_does_0 : decode cX6_does 0 = .ok (.aload_n 0, 1) := by decide +kernel
theorem dX6_does_1 : decode cX6_does 1 = .ok (.getfield 166, 3) := by decide +kernel
theorem dX6_does_4 : decode cX6_does 4 = .ok (.lookupswitch 94 #[(98, 44), (99, 81), (100, 66), (111, 57)], 44) := by decide +kernel
theorem dX6_does_48 : decode cX6_does 48 = .ok (.aload_n 0, 1) := by decide +kernel
theorem dX6_does_49 : decode cX6_does 49 = .ok (.aload_n 0, 1) := by decide +kernel
theorem dX6_does_50 : decode cX6_does 50 = .ok (.getfield 172, 3) := by decide +kernel
theorem dX6_does_53 : decode cX6_does 53 = .ok (.aload_n 0, 1) := by decide +kernel
theorem dX6_does_54 : decode cX6_does 54 = .ok (.getfield 175, 3) := by decide +kernel
theorem dX6_does_57 : decode cX6_does 57 = .ok (.invokevirtual 137, 3) := by decide +kernel
theorem dX6_does_60 : decode cX6_does 60 = .ok (.ireturn, 1) := by decide +kernel
theorem dX6_does_61 : decode cX6_does 61 = .ok (.aload_n 0, 1) := by decide +kernel
theorem dX6_does_62 : decode cX6_does 62 = .ok (.aload_n 0, 1) := by decide +kernel
theorem dX6_does_63 : decode cX6_does 63 = .ok (.getfield 172, 3) := by decide +kernel
theorem dX6_does_66 : decode cX6_does 66 = .ok (.invokevirtual 140, 3) := by decide +kernel
theorem dX6_does_69 : decode cX6_does 69 = .ok (.ireturn, 1) := by decide +kernel
theorem dX6_does_70 : decode cX6_does 70 = .ok (.aload_n 0, 1) := by decide +kernel
theorem dX6_does_71 : decode cX6_does 71 = .ok (.aload_n 0, 1) := by decide +kernel
theorem dX6_does_72 : decode cX6_does 72 = .ok (.getfield 172, 3) := by decide +kernel
theorem dX6_does_75 : decode cX6_does 75 = .ok (.bipush 6, 2) := by decide +kernel
theorem dX6_does_77 : decode cX6_does 77 = .ok (.aload_n 0, 1) := by decide +kernel
theorem dX6_does_78 : decode cX6_does 78 = .ok (.getfield 175, 3) := by decide +kernel
theorem dX6_does_81 : decode cX6_does 81 = .ok (.invokevirtual 131, 3) := by decide +kernel
theorem dX6_does_84 : decode cX6_does 84 = .ok (.ireturn, 1) := by decide +kernel
theorem dX6_does_85 : decode cX6_does 85 = .ok (.aload_n 0, 1) := by decide +kernel
theorem dX6_does_86 : decode cX6_does 86 = .ok (.aload_n 0, 1) := by decide +kernel
theorem dX6_does_87 : decode cX6_does 87 = .ok (.getfield 172, 3) := by decide +kernel
theorem dX6_does_90 : decode cX6_does 90 = .ok (.aload_n 0, 1) := by decide +kernel
theorem dX6_does_91 : decode cX6_does 91 = .ok (.getfield 175, 3) := by decide +kernel
theorem dX6_does_94 : decode cX6_does 94 = .ok (.invokevirtual 143, 3) := by decide +kernel
theorem dX6_does_97 : decode cX6_does 97 = .ok (.ireturn, 1) := by decide +kernel
theorem dX6_does_98 : decode cX6_does 98 = .ok (.aload_n 0, 1) := by decide +kernel
theorem dX6_does_99 : decode cX6_does 99 = .ok (.aload_n 0, 1) := by decide +kernel
theorem dX6_does_100 : decode cX6_does 100 = .ok (.getfield 172, 3) := by decide +kernel
theorem dX6_does_103 : decode cX6_does 103 = .ok (.invokevirtual 146, 3) := by decide +kernel
theorem dX6_does_106 : decode cX6_does 106 = .ok (.ireturn, 1) := by decide +kernel
set_option maxRecDepth 20000 in
theorem ggX6_runs_X6_readThing : GoodIn wsX6_runs wsX6_readThing := goodIn_r _ [9, 1, 4, 10, 11, 2, 12, 13, 14, 15, 16, 8, 17, 18, 19, 20, 21, 22, 23, 24, 25, 26, 27, 28, 124, 125, 126, 127, 128, 129, 130, 131, 132, 133, 134, 135, 136, 137, 138, 139, 140, 141, 142, 143, 144, 145] (by decide +kernel) (by decide +kernel)
set_option maxRecDepth 20000 in
theorem gX6_runs_X6_readThing : GoodIn wsX6_runs (wsV RX6 181 RX6 yX6_readThing wsX6_readThing) := goodIn_app (goodIn_of _ (by decide +kernel)) ggX6_runs_X6_readThing
set_option maxRecDepth 20000 in
theorem ggX6_runs_X6_does : GoodIn wsX6_runs wsX6_does := goodIn_r _ [32, 11, 12, 13, 33, 34, 35, 8, 36, 37, 38, 39, 40, 41, 42, 43, 44, 45, 46, 47, 48, 49, 50, 51, 52, 53, 54, 55, 56, 57, 58, 59, 60, 61, 62, 63, 64, 65, 66, 67, 68, 69, 70, 71, 72, 73, 74, 75, 76, 77, 78, 79, 80, 81, 82, 83, 84, 85, 86, 87, 88, 89, 90, 91, 92, 93, 94, 95, 96, 97, 98, 99, 100, 101, 102, 103, 104, 105, 106, 107, 108, 109, 110, 111, 112, 113, 114, 115, 116, 117, 118, 119, 120, 121, 122, 123, 124, 125, 126, 127, 128, 129, 130, 131, 132, 133, 134, 135, 136, 137, 138, 139, 140, 141, 142, 143, 144, 145] (by decide +kernel) (by decide +kernel)
set_option maxRecDepth 20000 in
theorem gX6_runs_X6_does : GoodIn wsX6_runs (wsV RX6 184 RX6 yX6_does wsX6_does) := goodIn_app (goodIn_of _ (by decide +kernel)) ggX6_runs_X6_does
set_option maxRecDepth 20000 in
theorem ggX6_runs_X6_takes : GoodIn wsX6_runs wsX6_takes := goodIn_r _ [21, 1, 4, 10, 2, 22, 23, 8, 24, 124, 125, 126, 127, 128, 129, 130, 131, 132, 133, 134, 135, 136, 137, 138, 139, 140, 141, 142, 143, 144, 145] (by decide +kernel) (by decide +kernel)
set_option maxRecDepth 20000 in
theorem gX6_runs_X6_takes : GoodIn wsX6_runs (wsV RX6 159 RX6 yX6_takes wsX6_takes) := goodIn_app (goodIn_of _ (by decide +kernel)) ggX6_runs_X6_takes
theorem dX6_runs_0 : decode cX6_runs 0 = .ok (.aload_n 0, 1) := by decide +kernel
theorem dX6_runs_1 : decode cX6_runs 1 = .ok (.iconst 0, 1) := by decide +kernel
theorem dX6_runs_2 : decode cX6_runs 2 = .ok (.putfield 156, 3) := by decide +kernel
theorem dX6_runs_5 : decode cX6_runs 5 = .ok (.aload_n 0, 1) := by decide +kernel
theorem dX6_runs_6 : decode cX6_runs 6 = .ok (.iconst 0, 1) := by decide +kernel
theorem dX6_runs_7 : decode cX6_runs 7 = .ok (.putfield 152, 3) := by decide +kernel
theorem dX6_runs_10 : decode cX6_runs 10 = .ok (.aload_n 0, 1) := by decide +kernel
theorem dX6_runs_11 : decode cX6_runs 11 = .ok (.iconst 0, 1) := by decide +kernel
theorem dX6_runs_12 : decode cX6_runs 12 = .ok (.putfield 178, 3) := by decide +kernel
theorem dX6_runs_15 : decode cX6_runs 15 = .ok (.iconst 0, 1) := by decide +kernel
theorem dX6_runs_16 : decode cX6_runs 16 = .ok (.istore_n 2, 1) := by decide +kernel
theorem dX6_runs_17 : decode cX6_runs 17 = .ok (.iconst 1, 1) := by decide +kernel
theorem dX6_runs_18 : decode cX6_runs 18 = .ok (.istore_n 3, 1) := by decide +kernel
theorem dX6_runs_19 : decode cX6_runs 19 = .ok (.iload_n 3, 1) := by decide +kernel
theorem dX6_runs_20 : decode cX6_runs 20 = .ok (.ifCond .eq 119, 3) := by decide +kernel
theorem dX6_runs_23 : decode cX6_runs 23 = .ok (.aload_n 0, 1) := by decide +kernel
theorem dX6_runs_24 : decode cX6_runs 24 = .ok (.invokevirtual 181, 3) := by decide +kernel
theorem dX6_runs_27 : decode cX6_runs 27 = .ok (.iload_n 1, 1) := by decide +kernel
theorem dX6_runs_28 : decode cX6_runs 28 = .ok (.ifCond .eq 10, 3) := by decide +kernel
theorem dX6_runs_31 : decode cX6_runs 31 = .ok (.aload_n 0, 1) := by decide +kernel
theorem dX6_runs_32 : decode cX6_runs 32 = .ok (.invokevirtual 184, 3) := by decide +kernel
theorem dX6_runs_35 : decode cX6_runs 35 = .ok (.goto 4, 3) := by decide +kernel
theorem dX6_runs_38 : decode cX6_runs 38 = .ok (.iconst 0, 1) := by decide +kernel
theorem dX6_runs_39 : decode cX6_runs 39 = .ok (.istore 4, 2) := by decide +kernel
theorem dX6_runs_41 : decode cX6_runs 41 = .ok (.aload_n 0, 1) := by decide +kernel
theorem dX6_runs_42 : decode cX6_runs 42 = .ok (.iload 4, 2) := by decide +kernel
theorem dX6_runs_44 : decode cX6_runs 44 = .ok (.ifCond .ge 15, 3) := by decide +kernel
theorem dX6_runs_47 : decode cX6_runs 47 = .ok (.iload 4, 2) := by decide +kernel
theorem dX6_runs_49 : decode cX6_runs 49 = .ok (.bipush (-5), 2) := by decide +kernel
theorem dX6_runs_51 : decode cX6_runs 51 = .ok (.if_icmp .eq 8, 3) := by decide +kernel
theorem dX6_runs_54 : decode cX6_runs 54 = .ok (.iload 4, 2) := by decide +kernel
theorem dX6_runs_56 : decode cX6_runs 56 = .ok (.goto 4, 3) := by decide +kernel
theorem dX6_runs_59 : decode cX6_runs 59 = .ok (.iconst 0, 1) := by decide +kernel
theorem dX6_runs_60 : decode cX6_runs 60 = .ok (.putfield 178, 3) := by decide +kernel
theorem dX6_runs_63 : decode cX6_runs 63 = .ok (.iload_n 2, 1) := by decide +kernel
theorem dX6_runs_64 : decode cX6_runs 64 = .ok (.aload_n 0, 1) := by decide +kernel
theorem dX6_runs_65 : decode cX6_runs 65 = .ok (.getfield 178, 3) := by decide +kernel
theorem dX6_runs_68 : decode cX6_runs 68 = .ok (.ifCond .ge 7, 3) := by decide +kernel
theorem dX6_runs_71 : decode cX6_runs 71 = .ok (.iconst 0, 1) := by decide +kernel
theorem dX6_runs_72 : decode cX6_runs 72 = .ok (.goto 4, 3) := by decide +kernel
theorem dX6_runs_75 : decode cX6_runs 75 = .ok (.iconst 1, 1) := by decide +kernel
theorem dX6_runs_76 : decode cX6_runs 76 = .ok (.iadd, 1) := by decide +kernel
theorem dX6_runs_77 : decode cX6_runs 77 = .ok (.istore_n 2, 1) := by decide +kernel
theorem dX6_runs_78 : decode cX6_runs 78 = .ok (.aload_n 0, 1) := by decide +kernel
theorem dX6_runs_79 : decode cX6_runs 79 = .ok (.getfield 178, 3) := by decide +kernel
theorem dX6_runs_82 : decode cX6_runs 82 = .ok (.ifCond .ne 25, 3) := by decide +kernel
theorem dX6_runs_85 : decode cX6_runs 85 = .ok (.aload_n 0, 1) := by decide +kernel
theorem dX6_runs_86 : decode cX6_runs 86 = .ok (.getfield 152, 3) := by decide +kernel
theorem dX6_runs_89 : decode cX6_runs 89 = .ok (.ifCond .ne 18, 3) := by decide +kernel
theorem dX6_runs_92 : decode cX6_runs 92 = .ok (.aload_n 0, 1) := by decide +kernel
theorem dX6_runs_93 : decode cX6_runs 93 = .ok (.getfield 156, 3) := by decide +kernel
theorem dX6_runs_96 : decode cX6_runs 96 = .ok (.aload_n 0, 1) := by decide +kernel
theorem dX6_runs_97 : decode cX6_runs 97 = .ok (.getfield 149, 3) := by decide +kernel
theorem dX6_runs_100 : decode cX6_runs 100 = .ok (.if_icmp .ge 7, 3) := by decide +kernel
theorem dX6_runs_103 : decode cX6_runs 103 = .ok (.iconst 1, 1) := by decide +kernel
theorem dX6_runs_104 : decode cX6_runs 104 = .ok (.goto 4, 3) := by decide +kernel
theorem dX6_runs_107 : decode cX6_runs 107 = .ok (.iconst 0, 1) := by decide +kernel
theorem dX6_runs_108 : decode cX6_runs 108 = .ok (.istore_n 3, 1) := by decide +kernel
theorem dX6_runs_109 : decode cX6_runs 109 = .ok (.iload_n 3, 1) := by decide +kernel
theorem dX6_runs_110 : decode cX6_runs 110 = .ok (.ifCond .eq 26, 3) := by decide +kernel
theorem dX6_runs_113 : decode cX6_runs 113 = .ok (.aload_n 0, 1) := by decide +kernel
theorem dX6_runs_114 : decode cX6_runs 114 = .ok (.bipush 59, 2) := by decide +kernel
theorem dX6_runs_116 : decode cX6_runs 116 = .ok (.bipush 59, 2) := by decide +kernel
theorem dX6_runs_118 : decode cX6_runs 118 = .ok (.invokevirtual 159, 3) := by decide +kernel
theorem dX6_runs_121 : decode cX6_runs 121 = .ok (.istore 5, 2) := by decide +kernel
theorem dX6_runs_123 : decode cX6_runs 123 = .ok (.aload_n 0, 1) := by decide +kernel
theorem dX6_runs_124 : decode cX6_runs 124 = .ok (.getfield 152, 3) := by decide +kernel
theorem dX6_runs_127 : decode cX6_runs 127 = .ok (.ifCond .ne 7, 3) := by decide +kernel
theorem dX6_runs_130 : decode cX6_runs 130 = .ok (.iconst 1, 1) := by decide +kernel
theorem dX6_runs_131 : decode cX6_runs 131 = .ok (.goto 4, 3) := by decide +kernel
theorem dX6_runs_134 : decode cX6_runs 134 = .ok (.iconst 0, 1) := by decide +kernel
theorem dX6_runs_135 : decode cX6_runs 135 = .ok (.istore_n 3, 1) := by decide +kernel
theorem dX6_runs_136 : decode cX6_runs 136 = .ok (.goto (-117), 3) := by decide +kernel
theorem dX6_runs_139 : decode cX6_runs 139 = .ok (.iload_n 2, 1) := by decide +kernel
theorem dX6_runs_140 : decode cX6_runs 140 = .ok (.ireturn, 1) := by decide +kernel
set_option maxRecDepth 20000 in
theorem ggX6_perform_X6_runs : GoodIn wsX6_perform wsX6_runs := goodIn_r _ [10, 2, 1, 3, 11, 12, 13, 14, 9, 15, 16, 17, 18, 19, 20, 21, 22, 23, 24, 25, 26, 27, 28, 29, 30, 31, 32, 33, 34, 35, 36, 37, 38, 39, 40, 41, 42, 43, 44, 45, 46, 47, 48, 49, 50, 51, 52, 53, 54, 55, 56, 57, 58, 59, 60, 61, 62, 63, 64, 65, 66, 67, 68, 69, 70, 71, 72, 73, 74, 75, 76, 77, 78, 79, 80, 81, 82, 83, 84, 85, 86, 87, 88, 89, 90, 91, 92, 93, 94, 95, 96, 97, 98, 99, 100, 101, 102, 103, 104, 105, 106, 107, 108, 109, 110, 111, 112, 113, 114, 115, 116, 117, 118, 119, 120, 121, 122, 123, 124, 125, 126, 127, 128, 129, 147, 148, 149, 150, 151, 152, 153, 154, 155, 156, 157, 158, 159, 160, 161, 162, 163, 164, 165, 166, 167, 168] (by decide +kernel) (by decide +kernel)
set_option maxRecDepth 20000 in
theorem gX6_perform_X6_runs : GoodIn wsX6_perform (wsV RX6 188 RX6 yX6_runs wsX6_runs) := goodIn_app (goodIn_of _ (by decide +kernel)) ggX6_perform_X6_runs
set_option maxRecDepth 20000 in
theorem ggX6_perform_X6_looks : GoodIn wsX6_perform wsX6_looks := goodIn_r _ [133, 134, 43, 135, 59, 147, 148, 149, 150, 151, 152, 153, 154, 155, 156, 157, 158, 159, 160, 161, 162, 163, 164, 165, 166, 167, 168] (by decide +kernel) (by decide +kernel)
set_option maxRecDepth 20000 in
theorem gX6_perform_X6_looks : GoodIn wsX6_perform (wsV RX6 122 RX6 yX6_looks wsX6_looks) := goodIn_app (goodIn_of _ (by decide +kernel)) ggX6_perform_X6_looks
set_option maxRecDepth 20000 in
theorem ggX6_perform_X6_looksBack : GoodIn wsX6_perform wsX6_looksBack := goodIn_r _ [139, 43, 134, 59, 135, 147, 148, 149, 150, 151, 152, 153, 154, 155, 156, 157, 158, 159, 160, 161, 162, 163, 164, 165, 166, 167, 168] (by decide +kernel) (by decide +kernel)
set_option maxRecDepth 20000 in
theorem gX6_perform_X6_looksBack : GoodIn wsX6_perform (wsV RX6 192 RX6 yX6_looksBack wsX6_looksBack) := goodIn_app (goodIn_of _ (by decide +kernel)) ggX6_perform_X6_looksBack
set_option maxRecDepth 20000 in
theorem ggX6_perform_X6_records : GoodIn wsX6_perform wsX6_records := goodIn_r _ [143, 144, 145, 146, 134, 135, 147, 148, 149, 150, 151, 152, 153, 154, 155, 156, 157, 158, 159, 160, 161, 162, 163, 164, 165, 166, 167, 168] (by decide +kernel) (by decide +kernel)
set_option maxRecDepth 20000 in
theorem gX6_perform_X6_records : GoodIn wsX6_perform (wsV RX6 116 RX6 yX6_records wsX6_records) := goodIn_app (goodIn_of _ (by decide +kernel)) ggX6_perform_X6_records
theorem dX6_perform_0 : decode cX6_perform 0 = .ok (.aload_n 0, 1) := by decide +kernel
theorem dX6_perform_1 : decode cX6_perform 1 = .ok (.iconst 0, 1) := by decide +kernel
theorem dX6_perform_2 : decode cX6_perform 2 = .ok (.invokevirtual 188, 3) := by decide +kernel
theorem dX6_perform_5 : decode cX6_perform 5 = .ok (.istore_n 1, 1) := by decide +kernel
theorem dX6_perform_6 : decode cX6_perform 6 = .ok (.aload_n 0, 1) := by decide +kernel
theorem dX6_perform_7 : decode cX6_perform 7 = .ok (.getfield 152, 3) := by decide +kernel
theorem dX6_perform_10 : decode cX6_perform 10 = .ok (.ifCond .eq 11, 3) := by decide +kernel
theorem dX6_perform_13 : decode cX6_perform 13 = .ok (.bipush (-100), 2) := by decide +kernel
theorem dX6_perform_15 : decode cX6_perform 15 = .ok (.aload_n 0, 1) := by decide +kernel
theorem dX6_perform_16 : decode cX6_perform 16 = .ok (.getfield 156, 3) := by decide +kernel
theorem dX6_perform_19 : decode cX6_perform 19 = .ok (.isub, 1) := by decide +kernel
theorem dX6_perform_20 : decode cX6_perform 20 = .ok (.ireturn, 1) := by decide +kernel
theorem dX6_perform_21 : decode cX6_perform 21 = .ok (.aload_n 0, 1) := by decide +kernel
theorem dX6_perform_22 : decode cX6_perform 22 = .ok (.invokevirtual 122, 3) := by decide +kernel
theorem dX6_perform_25 : decode cX6_perform 25 = .ok (.aload_n 0, 1) := by decide +kernel
theorem dX6_perform_26 : decode cX6_perform 26 = .ok (.iconst 1, 1) := by decide +kernel
theorem dX6_perform_27 : decode cX6_perform 27 = .ok (.invokevirtual 188, 3) := by decide +kernel
theorem dX6_perform_30 : decode cX6_perform 30 = .ok (.istore_n 2, 1) := by decide +kernel
theorem dX6_perform_31 : decode cX6_perform 31 = .ok (.aload_n 0, 1) := by decide +kernel
theorem dX6_perform_32 : decode cX6_perform 32 = .ok (.getfield 178, 3) := by decide +kernel
theorem dX6_perform_35 : decode cX6_perform 35 = .ok (.ifCond .ge 23, 3) := by decide +kernel
theorem dX6_perform_38 : decode cX6_perform 38 = .ok (.aload_n 0, 1) := by decide +kernel
theorem dX6_perform_39 : decode cX6_perform 39 = .ok (.iload_n 2, 1) := by decide +kernel
theorem dX6_perform_40 : decode cX6_perform 40 = .ok (.putfield 38, 3) := by decide +kernel
theorem dX6_perform_43 : decode cX6_perform 43 = .ok (.aload_n 0, 1) := by decide +kernel
theorem dX6_perform_44 : decode cX6_perform 44 = .ok (.aload_n 0, 1) := by decide +kernel
theorem dX6_perform_45 : decode cX6_perform 45 = .ok (.getfield 178, 3) := by decide +kernel
theorem dX6_perform_48 : decode cX6_perform 48 = .ok (.putfield 42, 3) := by decide +kernel
theorem dX6_perform_51 : decode cX6_perform 51 = .ok (.aload_n 0, 1) := by decide +kernel
theorem dX6_perform_52 : decode cX6_perform 52 = .ok (.invokevirtual 192, 3) := by decide +kernel
theorem dX6_perform_55 : decode cX6_perform 55 = .ok (.bipush (-4), 2) := by decide +kernel
theorem dX6_perform_57 : decode cX6_perform 57 = .ok (.ireturn, 1) := by decide +kernel
theorem dX6_perform_58 : decode cX6_perform 58 = .ok (.aload_n 0, 1) := by decide +kernel
theorem dX6_perform_59 : decode cX6_perform 59 = .ok (.invokevirtual 116, 3) := by decide +kernel
theorem dX6_perform_62 : decode cX6_perform 62 = .ok (.iload_n 2, 1) := by decide +kernel
theorem dX6_perform_63 : decode cX6_perform 63 = .ok (.ireturn, 1) := by decide +kernel
theorem dX6_stopped_0 : decode cX6_stopped 0 = .ok (.iload_n 1, 1) := by decide +kernel
theorem dX6_stopped_1 : decode cX6_stopped 1 = .ok (.ifCond .ne 10, 3) := by decide +kernel
theorem dX6_stopped_4 : decode cX6_stopped 4 = .ok (.aload_n 0, 1) := by decide +kernel
theorem dX6_stopped_5 : decode cX6_stopped 5 = .ok (.getfield 38, 3) := by decide +kernel
theorem dX6_stopped_8 : decode cX6_stopped 8 = .ok (.goto 17, 3) := by decide +kernel
theorem dX6_stopped_11 : decode cX6_stopped 11 = .ok (.iload_n 1, 1) := by decide +kernel
theorem dX6_stopped_12 : decode cX6_stopped 12 = .ok (.iconst 1, 1) := by decide +kernel
theorem dX6_stopped_13 : decode cX6_stopped 13 = .ok (.if_icmp .ne 10, 3) := by decide +kernel
theorem dX6_stopped_16 : decode cX6_stopped 16 = .ok (.aload_n 0, 1) := by decide +kernel
theorem dX6_stopped_17 : decode cX6_stopped 17 = .ok (.getfield 42, 3) := by decide +kernel
theorem dX6_stopped_20 : decode cX6_stopped 20 = .ok (.goto 5, 3) := by decide +kernel
theorem dX6_stopped_23 : decode cX6_stopped 23 = .ok (.bipush (-2), 2) := by decide +kernel
theorem dX6_stopped_25 : decode cX6_stopped 25 = .ok (.ireturn, 1) := by decide +kernel
end
section
theorem dX6_undo_0 : decode cX6_undo 0 = .ok (.aload_n 0, 1) := by decide +kernel
theorem dX6_undo_1 : decode cX6_undo 1 = .ok (.getfield 56, 3) := by decide +kernel
theorem dX6_undo_4 : decode cX6_undo 4 = .ok (.ifCond .ne 6, 3) := by decide +kernel
theorem dX6_undo_7 : decode cX6_undo 7 = .ok (.bipush (-5), 2) := by decide +kernel
theorem dX6_undo_9 : decode cX6_undo 9 = .ok (.ireturn, 1) := by decide +kernel
theorem dX6_undo_10 : decode cX6_undo 10 = .ok (.aload_n 0, 1) := by decide +kernel
theorem dX6_undo_11 : decode cX6_undo 11 = .ok (.dup, 1) := by decide +kernel
theorem dX6_undo_12 : decode cX6_undo 12 = .ok (.getfield 56, 3) := by decide +kernel
theorem dX6_undo_15 : decode cX6_undo 15 = .ok (.iconst 1, 1) := by decide +kernel
theorem dX6_undo_16 : decode cX6_undo 16 = .ok (.isub, 1) := by decide +kernel
theorem dX6_undo_17 : decode cX6_undo 17 = .ok (.putfield 56, 3) := by decide +kernel
theorem dX6_undo_20 : decode cX6_undo 20 = .ok (.iconst 0, 1) := by decide +kernel
theorem dX6_undo_21 : decode cX6_undo 21 = .ok (.istore_n 1, 1) := by decide +kernel
theorem dX6_undo_22 : decode cX6_undo 22 = .ok (.iload_n 1, 1) := by decide +kernel
theorem dX6_undo_23 : decode cX6_undo 23 = .ok (.bipush 43, 2) := by decide +kernel
theorem dX6_undo_25 : decode cX6_undo 25 = .ok (.if_icmp .ge 29, 3) := by decide +kernel
theorem dX6_undo_28 : decode cX6_undo 28 = .ok (.aload_n 0, 1) := by decide +kernel
theorem dX6_undo_29 : decode cX6_undo 29 = .ok (.getfield 7, 3) := by decide +kernel
theorem dX6_undo_32 : decode cX6_undo 32 = .ok (.iload_n 1, 1) := by decide +kernel
theorem dX6_undo_33 : decode cX6_undo 33 = .ok (.aload_n 0, 1) := by decide +kernel
theorem dX6_undo_34 : decode cX6_undo 34 = .ok (.getfield 29, 3) := by decide +kernel
theorem dX6_undo_37 : decode cX6_undo 37 = .ok (.bipush 43, 2) := by decide +kernel
theorem dX6_undo_39 : decode cX6_undo 39 = .ok (.aload_n 0, 1) := by decide +kernel
theorem dX6_undo_40 : decode cX6_undo 40 = .ok (.getfield 56, 3) := by decide +kernel
theorem dX6_undo_43 : decode cX6_undo 43 = .ok (.imul, 1) := by decide +kernel
theorem dX6_undo_44 : decode cX6_undo 44 = .ok (.iload_n 1, 1) := by decide +kernel
theorem dX6_undo_45 : decode cX6_undo 45 = .ok (.iadd, 1) := by decide +kernel
theorem dX6_undo_46 : decode cX6_undo 46 = .ok (.iaload, 1) := by decide +kernel
theorem dX6_undo_47 : decode cX6_undo 47 = .ok (.iastore, 1) := by decide +kernel
theorem dX6_undo_48 : decode cX6_undo 48 = .ok (.iinc 1 1, 3) := by decide +kernel
theorem dX6_undo_51 : decode cX6_undo 51 = .ok (.goto (-29), 3) := by decide +kernel
theorem dX6_undo_54 : decode cX6_undo 54 = .ok (.iconst 0, 1) := by decide +kernel
theorem dX6_undo_55 : decode cX6_undo 55 = .ok (.istore_n 1, 1) := by decide +kernel
theorem dX6_undo_56 : decode cX6_undo 56 = .ok (.iload_n 1, 1) := by decide +kernel
theorem dX6_undo_57 : decode cX6_undo 57 = .ok (.bipush 12, 2) := by decide +kernel
theorem dX6_undo_59 : decode cX6_undo 59 = .ok (.if_icmp .ge 29, 3) := by decide +kernel
theorem dX6_undo_62 : decode cX6_undo 62 = .ok (.aload_n 0, 1) := by decide +kernel
theorem dX6_undo_63 : decode cX6_undo 63 = .ok (.getfield 13, 3) := by decide +kernel
theorem dX6_undo_66 : decode cX6_undo 66 = .ok (.iload_n 1, 1) := by decide +kernel
theorem dX6_undo_67 : decode cX6_undo 67 = .ok (.aload_n 0, 1) := by decide +kernel
theorem dX6_undo_68 : decode cX6_undo 68 = .ok (.getfield 32, 3) := by decide +kernel
theorem dX6_undo_71 : decode cX6_undo 71 = .ok (.bipush 12, 2) := by decide +kernel
theorem dX6_undo_73 : decode cX6_undo 73 = .ok (.aload_n 0, 1) := by decide +kernel
theorem dX6_undo_74 : decode cX6_undo 74 = .ok (.getfield 56, 3) := by decide +kernel
theorem dX6_undo_77 : decode cX6_undo 77 = .ok (.imul, 1) := by decide +kernel
theorem dX6_undo_78 : decode cX6_undo 78 = .ok (.iload_n 1, 1) := by decide +kernel
theorem dX6_undo_79 : decode cX6_undo 79 = .ok (.iadd, 1) := by decide +kernel
theorem dX6_undo_80 : decode cX6_undo 80 = .ok (.laload, 1) := by decide +kernel
theorem dX6_undo_81 : decode cX6_undo 81 = .ok (.lastore, 1) := by decide +kernel
theorem dX6_undo_82 : decode cX6_undo 82 = .ok (.iinc 1 1, 3) := by decide +kernel
theorem dX6_undo_85 : decode cX6_undo 85 = .ok (.goto (-29), 3) := by decide +kernel
theorem dX6_undo_88 : decode cX6_undo 88 = .ok (.aload_n 0, 1) := by decide +kernel
theorem dX6_undo_89 : decode cX6_undo 89 = .ok (.getfield 56, 3) := by decide +kernel
theorem dX6_undo_92 : decode cX6_undo 92 = .ok (.ireturn, 1) := by decide +kernel
theorem dX6_keep_0 : decode cX6_keep 0 = .ok (.iconst 0, 1) := by decide +kernel
theorem dX6_keep_1 : decode cX6_keep 1 = .ok (.istore_n 1, 1) := by decide +kernel
theorem dX6_keep_2 : decode cX6_keep 2 = .ok (.iload_n 1, 1) := by decide +kernel
theorem dX6_keep_3 : decode cX6_keep 3 = .ok (.bipush 43, 2) := by decide +kernel
theorem dX6_keep_5 : decode cX6_keep 5 = .ok (.if_icmp .ge 21, 3) := by decide +kernel
theorem dX6_keep_8 : decode cX6_keep 8 = .ok (.aload_n 0, 1) := by decide +kernel
theorem dX6_keep_9 : decode cX6_keep 9 = .ok (.getfield 23, 3) := by decide +kernel
theorem dX6_keep_12 : decode cX6_keep 12 = .ok (.iload_n 1, 1) := by decide +kernel
theorem dX6_keep_13 : decode cX6_keep 13 = .ok (.aload_n 0, 1) := by decide +kernel
theorem dX6_keep_14 : decode cX6_keep 14 = .ok (.getfield 7, 3) := by decide +kernel
theorem dX6_keep_17 : decode cX6_keep 17 = .ok (.iload_n 1, 1) := by decide +kernel
theorem dX6_keep_18 : decode cX6_keep 18 = .ok (.iaload, 1) := by decide +kernel
theorem dX6_keep_19 : decode cX6_keep 19 = .ok (.iastore, 1) := by decide +kernel
theorem dX6_keep_20 : decode cX6_keep 20 = .ok (.iinc 1 1, 3) := by decide +kernel
theorem dX6_keep_23 : decode cX6_keep 23 = .ok (.goto (-21), 3) := by decide +kernel
theorem dX6_keep_26 : decode cX6_keep 26 = .ok (.iconst 0, 1) := by decide +kernel
theorem dX6_keep_27 : decode cX6_keep 27 = .ok (.istore_n 1, 1) := by decide +kernel
theorem dX6_keep_28 : decode cX6_keep 28 = .ok (.iload_n 1, 1) := by decide +kernel
theorem dX6_keep_29 : decode cX6_keep 29 = .ok (.bipush 12, 2) := by decide +kernel
theorem dX6_keep_31 : decode cX6_keep 31 = .ok (.if_icmp .ge 21, 3) := by decide +kernel
theorem dX6_keep_34 : decode cX6_keep 34 = .ok (.aload_n 0, 1) := by decide +kernel
theorem dX6_keep_35 : decode cX6_keep 35 = .ok (.getfield 26, 3) := by decide +kernel
theorem dX6_keep_38 : decode cX6_keep 38 = .ok (.iload_n 1, 1) := by decide +kernel
theorem dX6_keep_39 : decode cX6_keep 39 = .ok (.aload_n 0, 1) := by decide +kernel
theorem dX6_keep_40 : decode cX6_keep 40 = .ok (.getfield 13, 3) := by decide +kernel
theorem dX6_keep_43 : decode cX6_keep 43 = .ok (.iload_n 1, 1) := by decide +kernel
theorem dX6_keep_44 : decode cX6_keep 44 = .ok (.laload, 1) := by decide +kernel
theorem dX6_keep_45 : decode cX6_keep 45 = .ok (.lastore, 1) := by decide +kernel
theorem dX6_keep_46 : decode cX6_keep 46 = .ok (.iinc 1 1, 3) := by decide +kernel
theorem dX6_keep_49 : decode cX6_keep 49 = .ok (.goto (-21), 3) := by decide +kernel
theorem dX6_keep_52 : decode cX6_keep 52 = .ok (.aload_n 0, 1) := by decide +kernel
theorem dX6_keep_53 : decode cX6_keep 53 = .ok (.iconst 1, 1) := by decide +kernel
theorem dX6_keep_54 : decode cX6_keep 54 = .ok (.putfield 195, 3) := by decide +kernel
theorem dX6_keep_57 : decode cX6_keep 57 = .ok (.aload_n 0, 1) := by decide +kernel
theorem dX6_keep_58 : decode cX6_keep 58 = .ok (.getfield 7, 3) := by decide +kernel
theorem dX6_keep_61 : decode cX6_keep 61 = .ok (.iconst 0, 1) := by decide +kernel
theorem dX6_keep_62 : decode cX6_keep 62 = .ok (.iaload, 1) := by decide +kernel
theorem dX6_keep_63 : decode cX6_keep 63 = .ok (.ireturn, 1) := by decide +kernel
set_option maxRecDepth 20000 in
theorem ggX6_restore_X6_looks : GoodIn wsX6_restore wsX6_looks := goodIn_r _ [10, 11, 2, 12, 4, 20, 21, 22, 23, 24, 25, 26, 27, 28, 29, 30, 31, 32, 33, 34, 35, 36, 37, 38, 39, 40, 41] (by decide +kernel) (by decide +kernel)
set_option maxRecDepth 20000 in
theorem gX6_restore_X6_looks : GoodIn wsX6_restore (wsV RX6 122 RX6 yX6_looks wsX6_looks) := goodIn_app (goodIn_of _ (by decide +kernel)) ggX6_restore_X6_looks
set_option maxRecDepth 20000 in
theorem ggX6_restore_X6_records : GoodIn wsX6_restore wsX6_records := goodIn_r _ [16, 17, 18, 19, 11, 12, 20, 21, 22, 23, 24, 25, 26, 27, 28, 29, 30, 31, 32, 33, 34, 35, 36, 37, 38, 39, 40, 41] (by decide +kernel) (by decide +kernel)
set_option maxRecDepth 20000 in
theorem gX6_restore_X6_records : GoodIn wsX6_restore (wsV RX6 116 RX6 yX6_records wsX6_records) := goodIn_app (goodIn_of _ (by decide +kernel)) ggX6_restore_X6_records
theorem dX6_restore_0 : decode cX6_restore 0 = .ok (.aload_n 0, 1) := by decide +kernel
theorem dX6_restore_1 : decode cX6_restore 1 = .ok (.getfield 195, 3) := by decide +kernel
theorem dX6_restore_4 : decode cX6_restore 4 = .ok (.ifCond .ne 6, 3) := by decide +kernel
theorem dX6_restore_7 : decode cX6_restore 7 = .ok (.bipush (-5), 2) := by decide +kernel
theorem dX6_restore_9 : decode cX6_restore 9 = .ok (.ireturn, 1) := by decide +kernel
theorem dX6_restore_10 : decode cX6_restore 10 = .ok (.aload_n 0, 1) := by decide +kernel
theorem dX6_restore_11 : decode cX6_restore 11 = .ok (.invokevirtual 122, 3) := by decide +kernel
theorem dX6_restore_14 : decode cX6_restore 14 = .ok (.aload_n 0, 1) := by decide +kernel
theorem dX6_restore_15 : decode cX6_restore 15 = .ok (.invokevirtual 116, 3) := by decide +kernel
theorem dX6_restore_18 : decode cX6_restore 18 = .ok (.iconst 0, 1) := by decide +kernel
theorem dX6_restore_19 : decode cX6_restore 19 = .ok (.istore_n 1, 1) := by decide +kernel
theorem dX6_restore_20 : decode cX6_restore 20 = .ok (.iload_n 1, 1) := by decide +kernel
theorem dX6_restore_21 : decode cX6_restore 21 = .ok (.bipush 43, 2) := by decide +kernel
theorem dX6_restore_23 : decode cX6_restore 23 = .ok (.if_icmp .ge 21, 3) := by decide +kernel
theorem dX6_restore_26 : decode cX6_restore 26 = .ok (.aload_n 0, 1) := by decide +kernel
theorem dX6_restore_27 : decode cX6_restore 27 = .ok (.getfield 7, 3) := by decide +kernel
theorem dX6_restore_30 : decode cX6_restore 30 = .ok (.iload_n 1, 1) := by decide +kernel
theorem dX6_restore_31 : decode cX6_restore 31 = .ok (.aload_n 0, 1) := by decide +kernel
theorem dX6_restore_32 : decode cX6_restore 32 = .ok (.getfield 23, 3) := by decide +kernel
theorem dX6_restore_35 : decode cX6_restore 35 = .ok (.iload_n 1, 1) := by decide +kernel
theorem dX6_restore_36 : decode cX6_restore 36 = .ok (.iaload, 1) := by decide +kernel
theorem dX6_restore_37 : decode cX6_restore 37 = .ok (.iastore, 1) := by decide +kernel
theorem dX6_restore_38 : decode cX6_restore 38 = .ok (.iinc 1 1, 3) := by decide +kernel
theorem dX6_restore_41 : decode cX6_restore 41 = .ok (.goto (-21), 3) := by decide +kernel
theorem dX6_restore_44 : decode cX6_restore 44 = .ok (.iconst 0, 1) := by decide +kernel
theorem dX6_restore_45 : decode cX6_restore 45 = .ok (.istore_n 1, 1) := by decide +kernel
theorem dX6_restore_46 : decode cX6_restore 46 = .ok (.iload_n 1, 1) := by decide +kernel
theorem dX6_restore_47 : decode cX6_restore 47 = .ok (.bipush 12, 2) := by decide +kernel
theorem dX6_restore_49 : decode cX6_restore 49 = .ok (.if_icmp .ge 21, 3) := by decide +kernel
theorem dX6_restore_52 : decode cX6_restore 52 = .ok (.aload_n 0, 1) := by decide +kernel
theorem dX6_restore_53 : decode cX6_restore 53 = .ok (.getfield 13, 3) := by decide +kernel
theorem dX6_restore_56 : decode cX6_restore 56 = .ok (.iload_n 1, 1) := by decide +kernel
theorem dX6_restore_57 : decode cX6_restore 57 = .ok (.aload_n 0, 1) := by decide +kernel
theorem dX6_restore_58 : decode cX6_restore 58 = .ok (.getfield 26, 3) := by decide +kernel
theorem dX6_restore_61 : decode cX6_restore 61 = .ok (.iload_n 1, 1) := by decide +kernel
theorem dX6_restore_62 : decode cX6_restore 62 = .ok (.laload, 1) := by decide +kernel
theorem dX6_restore_63 : decode cX6_restore 63 = .ok (.lastore, 1) := by decide +kernel
theorem dX6_restore_64 : decode cX6_restore 64 = .ok (.iinc 1 1, 3) := by decide +kernel
theorem dX6_restore_67 : decode cX6_restore 67 = .ok (.goto (-21), 3) := by decide +kernel
theorem dX6_restore_70 : decode cX6_restore 70 = .ok (.aload_n 0, 1) := by decide +kernel
theorem dX6_restore_71 : decode cX6_restore 71 = .ok (.getfield 7, 3) := by decide +kernel
theorem dX6_restore_74 : decode cX6_restore 74 = .ok (.iconst 0, 1) := by decide +kernel
theorem dX6_restore_75 : decode cX6_restore 75 = .ok (.iaload, 1) := by decide +kernel
theorem dX6_restore_76 : decode cX6_restore 76 = .ok (.ireturn, 1) := by decide +kernel
set_option maxRecDepth 20000 in
theorem ggX6_pullNow_X6_of : GoodIn wsX6_pullNow wsX6_of := goodIn_r _ [5, 6, 7, 8, 4, 9, 30, 31, 32, 33, 34, 35, 36, 37, 38, 39, 40, 41, 42, 43, 44, 45, 46, 47, 48, 49, 50, 51] (by decide +kernel) (by decide +kernel)
set_option maxRecDepth 20000 in
theorem gX6_pullNow_X6_of : GoodIn wsX6_pullNow (wsV RX6 53 RX6 yX6_of wsX6_of) := goodIn_app (goodIn_of _ (by decide +kernel)) ggX6_pullNow_X6_of
set_option maxRecDepth 20000 in
theorem ggX6_pullNow_X6_pullAt : GoodIn wsX6_pullNow wsX6_pullAt := goodIn_r _ [13, 14, 15, 16, 4, 17, 1, 2, 3, 5, 6, 7, 8, 9, 18, 19, 20, 21, 22, 23, 24, 25, 26, 27, 28, 29, 30, 31, 32, 33, 34, 35, 36, 37, 38, 39, 40, 41, 42, 43, 44, 45, 46, 47, 48, 49, 50, 51] (by decide +kernel) (by decide +kernel)
set_option maxRecDepth 20000 in
theorem gX6_pullNow_X6_pullAt : GoodIn wsX6_pullNow (wsV RX6 77 RX6 yX6_pullAt wsX6_pullAt) := goodIn_app (goodIn_of _ (by decide +kernel)) ggX6_pullNow_X6_pullAt
theorem dX6_pullNow_0 : decode cX6_pullNow 0 = .ok (.aload_n 0, 1) := by decide +kernel
theorem dX6_pullNow_1 : decode cX6_pullNow 1 = .ok (.iload_n 1, 1) := by decide +kernel
theorem dX6_pullNow_2 : decode cX6_pullNow 2 = .ok (.aload_n 0, 1) := by decide +kernel
theorem dX6_pullNow_3 : decode cX6_pullNow 3 = .ok (.iload_n 1, 1) := by decide +kernel
theorem dX6_pullNow_4 : decode cX6_pullNow 4 = .ok (.bipush 6, 2) := by decide +kernel
theorem dX6_pullNow_6 : decode cX6_pullNow 6 = .ok (.invokevirtual 53, 3) := by decide +kernel
theorem dX6_pullNow_9 : decode cX6_pullNow 9 = .ok (.aload_n 0, 1) := by decide +kernel
theorem dX6_pullNow_10 : decode cX6_pullNow 10 = .ok (.iload_n 1, 1) := by decide +kernel
theorem dX6_pullNow_11 : decode cX6_pullNow 11 = .ok (.bipush 7, 2) := by decide +kernel
theorem dX6_pullNow_13 : decode cX6_pullNow 13 = .ok (.invokevirtual 53, 3) := by decide +kernel
theorem dX6_pullNow_16 : decode cX6_pullNow 16 = .ok (.invokevirtual 77, 3) := by decide +kernel
theorem dX6_pullNow_19 : decode cX6_pullNow 19 = .ok (.ireturn, 1) := by decide +kernel
set_option maxRecDepth 20000 in
theorem ggX6_pair_X6_isPair : GoodIn wsX6_pair wsX6_isPair := goodIn_r _ [4, 5, 6, 3, 7] (by decide +kernel) (by decide +kernel)
set_option maxRecDepth 20000 in
theorem gX6_pair_X6_isPair : GoodIn wsX6_pair (va_wsS RX6 119 yX6_isPair wsX6_isPair) := goodIn_app (goodIn_of _ (by decide +kernel)) ggX6_pair_X6_isPair
set_option maxRecDepth 20000 in
theorem ggX6_pair_X6_capacityNow : GoodIn wsX6_pair wsX6_capacityNow := goodIn_r _ [11, 12, 13, 14, 3, 15, 16, 17, 18, 19, 20, 21, 22, 23, 51, 52, 53, 54, 55, 56, 57, 58, 59, 60, 61, 62, 63, 64, 65, 66, 67, 68, 69, 70, 71, 72] (by decide +kernel) (by decide +kernel)
set_option maxRecDepth 20000 in
theorem gX6_pair_X6_capacityNow : GoodIn wsX6_pair (wsV RX6 66 RX6 yX6_capacityNow wsX6_capacityNow) := goodIn_app (goodIn_of _ (by decide +kernel)) ggX6_pair_X6_capacityNow
set_option maxRecDepth 20000 in
theorem ggX6_pair_X6_of : GoodIn wsX6_pair wsX6_of := goodIn_r _ [15, 16, 17, 18, 3, 19, 51, 52, 53, 54, 55, 56, 57, 58, 59, 60, 61, 62, 63, 64, 65, 66, 67, 68, 69, 70, 71, 72] (by decide +kernel) (by decide +kernel)
set_option maxRecDepth 20000 in
theorem gX6_pair_X6_of : GoodIn wsX6_pair (wsV RX6 53 RX6 yX6_of wsX6_of) := goodIn_app (goodIn_of _ (by decide +kernel)) ggX6_pair_X6_of
set_option maxRecDepth 20000 in
theorem ggX6_pair_X6_pullNow : GoodIn wsX6_pair wsX6_pullNow := goodIn_r _ [27, 12, 13, 14, 3, 15, 16, 17, 18, 19, 28, 29, 30, 31, 32, 33, 34, 35, 36, 37, 38, 39, 40, 41, 42, 43, 20, 21, 22, 23, 51, 52, 53, 54, 55, 56, 57, 58, 59, 60, 61, 62, 63, 64, 65, 66, 67, 68, 69, 70, 71, 72] (by decide +kernel) (by decide +kernel)
set_option maxRecDepth 20000 in
theorem gX6_pair_X6_pullNow : GoodIn wsX6_pair (wsV RX6 198 RX6 yX6_pullNow wsX6_pullNow) := goodIn_app (goodIn_of _ (by decide +kernel)) ggX6_pair_X6_pullNow
set_option maxRecDepth 20000 in
theorem ggX6_pair_X6_spring : GoodIn wsX6_pair wsX6_spring := goodIn_r _ [47, 12, 13, 14, 3, 15, 16, 17, 18, 19, 51, 52, 53, 54, 55, 56, 57, 58, 59, 60, 61, 62, 63, 64, 65, 66, 67, 68, 69, 70, 71, 72] (by decide +kernel) (by decide +kernel)
set_option maxRecDepth 20000 in
theorem gX6_pair_X6_spring : GoodIn wsX6_pair (wsV RX6 80 RX6 yX6_spring wsX6_spring) := goodIn_app (goodIn_of _ (by decide +kernel)) ggX6_pair_X6_spring
set_option maxRecDepth 20000 in
theorem ggX6_pair_X6_size : GoodIn wsX6_pair wsX6_size := goodIn_r _ [50] (by decide +kernel) (by decide +kernel)
set_option maxRecDepth 20000 in
theorem gX6_pair_X6_size : GoodIn wsX6_pair (va_wsS RX6 83 yX6_size wsX6_size) := goodIn_app (goodIn_of _ (by decide +kernel)) ggX6_pair_X6_size
set_option maxRecDepth 20000 in
theorem ggX6_pair_X6_in : GoodIn wsX6_pair wsX6_in := goodIn_r _ [7] (by decide +kernel) (by decide +kernel)
set_option maxRecDepth 20000 in
theorem gX6_pair_X6_in : GoodIn wsX6_pair (va_wsS RX6 49 yX6_in wsX6_in) := goodIn_app (goodIn_of _ (by decide +kernel)) ggX6_pair_X6_in
theorem dX6_pair_0 : decode cX6_pair 0 = .ok (.iload_n 1, 1) := by decide +kernel
theorem dX6_pair_1 : decode cX6_pair 1 = .ok (.invokestatic 119, 3) := by decide +kernel
theorem dX6_pair_4 : decode cX6_pair 4 = .ok (.ifCond .ne 5, 3) := by decide +kernel
theorem dX6_pair_7 : decode cX6_pair 7 = .ok (.iconst (-1), 1) := by decide +kernel
theorem dX6_pair_8 : decode cX6_pair 8 = .ok (.ireturn, 1) := by decide +kernel
theorem dX6_pair_9 : decode cX6_pair 9 = .ok (.iload_n 2, 1) := by decide +kernel
theorem dX6_pair_10 : decode cX6_pair 10 = .ok (.tableswitch 75 7 12 #[38, 44, 44, 44, 53, 59], 38) := by decide +kernel
theorem dX6_pair_48 : decode cX6_pair 48 = .ok (.aload_n 0, 1) := by decide +kernel
theorem dX6_pair_49 : decode cX6_pair 49 = .ok (.iload_n 1, 1) := by decide +kernel
theorem dX6_pair_50 : decode cX6_pair 50 = .ok (.invokevirtual 66, 3) := by decide +kernel
theorem dX6_pair_53 : decode cX6_pair 53 = .ok (.ireturn, 1) := by decide +kernel
theorem dX6_pair_54 : decode cX6_pair 54 = .ok (.aload_n 0, 1) := by decide +kernel
theorem dX6_pair_55 : decode cX6_pair 55 = .ok (.iload_n 1, 1) := by decide +kernel
theorem dX6_pair_56 : decode cX6_pair 56 = .ok (.iload_n 2, 1) := by decide +kernel
theorem dX6_pair_57 : decode cX6_pair 57 = .ok (.iconst 1, 1) := by decide +kernel
theorem dX6_pair_58 : decode cX6_pair 58 = .ok (.isub, 1) := by decide +kernel
theorem dX6_pair_59 : decode cX6_pair 59 = .ok (.invokevirtual 53, 3) := by decide +kernel
theorem dX6_pair_62 : decode cX6_pair 62 = .ok (.ireturn, 1) := by decide +kernel
theorem dX6_pair_63 : decode cX6_pair 63 = .ok (.aload_n 0, 1) := by decide +kernel
theorem dX6_pair_64 : decode cX6_pair 64 = .ok (.iload_n 1, 1) := by decide +kernel
theorem dX6_pair_65 : decode cX6_pair 65 = .ok (.invokevirtual 198, 3) := by decide +kernel
theorem dX6_pair_68 : decode cX6_pair 68 = .ok (.ireturn, 1) := by decide +kernel
theorem dX6_pair_69 : decode cX6_pair 69 = .ok (.aload_n 0, 1) := by decide +kernel
theorem dX6_pair_70 : decode cX6_pair 70 = .ok (.iload_n 1, 1) := by decide +kernel
theorem dX6_pair_71 : decode cX6_pair 71 = .ok (.aload_n 0, 1) := by decide +kernel
theorem dX6_pair_72 : decode cX6_pair 72 = .ok (.iload_n 1, 1) := by decide +kernel
theorem dX6_pair_73 : decode cX6_pair 73 = .ok (.bipush 6, 2) := by decide +kernel
theorem dX6_pair_75 : decode cX6_pair 75 = .ok (.invokevirtual 53, 3) := by decide +kernel
theorem dX6_pair_78 : decode cX6_pair 78 = .ok (.invokevirtual 80, 3) := by decide +kernel
theorem dX6_pair_81 : decode cX6_pair 81 = .ok (.invokestatic 83, 3) := by decide +kernel
theorem dX6_pair_84 : decode cX6_pair 84 = .ok (.ireturn, 1) := by decide +kernel
theorem dX6_pair_85 : decode cX6_pair 85 = .ok (.iload_n 2, 1) := by decide +kernel
theorem dX6_pair_86 : decode cX6_pair 86 = .ok (.iconst 0, 1) := by decide +kernel
theorem dX6_pair_87 : decode cX6_pair 87 = .ok (.bipush 6, 2) := by decide +kernel
theorem dX6_pair_89 : decode cX6_pair 89 = .ok (.invokestatic 49, 3) := by decide +kernel
theorem dX6_pair_92 : decode cX6_pair 92 = .ok (.ifCond .eq 12, 3) := by decide +kernel
theorem dX6_pair_95 : decode cX6_pair 95 = .ok (.aload_n 0, 1) := by decide +kernel
theorem dX6_pair_96 : decode cX6_pair 96 = .ok (.iload_n 1, 1) := by decide +kernel
theorem dX6_pair_97 : decode cX6_pair 97 = .ok (.iload_n 2, 1) := by decide +kernel
theorem dX6_pair_98 : decode cX6_pair 98 = .ok (.invokevirtual 53, 3) := by decide +kernel
theorem dX6_pair_101 : decode cX6_pair 101 = .ok (.goto 5, 3) := by decide +kernel
theorem dX6_pair_104 : decode cX6_pair 104 = .ok (.bipush (-2), 2) := by decide +kernel
theorem dX6_pair_106 : decode cX6_pair 106 = .ok (.ireturn, 1) := by decide +kernel
set_option maxRecDepth 20000 in
theorem ggX6_book_X6_isPair : GoodIn wsX6_book wsX6_isPair := goodIn_r _ [7, 8, 9, 6, 10] (by decide +kernel) (by decide +kernel)
set_option maxRecDepth 20000 in
theorem gX6_book_X6_isPair : GoodIn wsX6_book (va_wsS RX6 119 yX6_isPair wsX6_isPair) := goodIn_app (goodIn_of _ (by decide +kernel)) ggX6_book_X6_isPair
set_option maxRecDepth 20000 in
theorem ggX6_book_X6_stored : GoodIn wsX6_book wsX6_stored := goodIn_r _ [14, 15, 16, 17, 6, 18, 19, 20, 21, 22, 23, 24, 25, 26, 27, 28, 29, 30, 31, 32, 33, 34, 35, 36, 37, 38, 39, 40, 41, 42, 43, 44, 45, 46, 47, 48, 49, 50, 51, 52, 53, 54, 55, 56] (by decide +kernel) (by decide +kernel)
set_option maxRecDepth 20000 in
theorem gX6_book_X6_stored : GoodIn wsX6_book (wsV RX6 90 RX6 yX6_stored wsX6_stored) := goodIn_app (goodIn_of _ (by decide +kernel)) ggX6_book_X6_stored
theorem dX6_book_0 : decode cX6_book 0 = .ok (.iload_n 1, 1) := by decide +kernel
theorem dX6_book_1 : decode cX6_book 1 = .ok (.invokestatic 119, 3) := by decide +kernel
theorem dX6_book_4 : decode cX6_book 4 = .ok (.ifCond .ne 7, 3) := by decide +kernel
theorem dX6_book_7 : decode cX6_book 7 = .ok (.ldc2_w 201, 3) := by decide +kernel
theorem dX6_book_10 : decode cX6_book 10 = .ok (.lreturn, 1) := by decide +kernel
theorem dX6_book_11 : decode cX6_book 11 = .ok (.iload_n 2, 1) := by decide +kernel
theorem dX6_book_12 : decode cX6_book 12 = .ok (.tableswitch 94 0 4 #[36, 42, 42, 42, 55], 36) := by decide +kernel
theorem dX6_book_48 : decode cX6_book 48 = .ok (.aload_n 0, 1) := by decide +kernel
theorem dX6_book_49 : decode cX6_book 49 = .ok (.iload_n 1, 1) := by decide +kernel
theorem dX6_book_50 : decode cX6_book 50 = .ok (.invokevirtual 90, 3) := by decide +kernel
theorem dX6_book_53 : decode cX6_book 53 = .ok (.lreturn, 1) := by decide +kernel
theorem dX6_book_54 : decode cX6_book 54 = .ok (.aload_n 0, 1) := by decide +kernel
theorem dX6_book_55 : decode cX6_book 55 = .ok (.getfield 13, 3) := by decide +kernel
theorem dX6_book_58 : decode cX6_book 58 = .ok (.iconst 3, 1) := by decide +kernel
theorem dX6_book_59 : decode cX6_book 59 = .ok (.iload_n 1, 1) := by decide +kernel
theorem dX6_book_60 : decode cX6_book 60 = .ok (.imul, 1) := by decide +kernel
theorem dX6_book_61 : decode cX6_book 61 = .ok (.iload_n 2, 1) := by decide +kernel
theorem dX6_book_62 : decode cX6_book 62 = .ok (.iadd, 1) := by decide +kernel
theorem dX6_book_63 : decode cX6_book 63 = .ok (.iconst 1, 1) := by decide +kernel
theorem dX6_book_64 : decode cX6_book 64 = .ok (.isub, 1) := by decide +kernel
theorem dX6_book_65 : decode cX6_book 65 = .ok (.laload, 1) := by decide +kernel
theorem dX6_book_66 : decode cX6_book 66 = .ok (.lreturn, 1) := by decide +kernel
theorem dX6_book_67 : decode cX6_book 67 = .ok (.aload_n 0, 1) := by decide +kernel
theorem dX6_book_68 : decode cX6_book 68 = .ok (.getfield 13, 3) := by decide +kernel
theorem dX6_book_71 : decode cX6_book 71 = .ok (.iconst 3, 1) := by decide +kernel
theorem dX6_book_72 : decode cX6_book 72 = .ok (.iload_n 1, 1) := by decide +kernel
theorem dX6_book_73 : decode cX6_book 73 = .ok (.imul, 1) := by decide +kernel
theorem dX6_book_74 : decode cX6_book 74 = .ok (.iconst 0, 1) := by decide +kernel
theorem dX6_book_75 : decode cX6_book 75 = .ok (.iadd, 1) := by decide +kernel
theorem dX6_book_76 : decode cX6_book 76 = .ok (.laload, 1) := by decide +kernel
theorem dX6_book_77 : decode cX6_book 77 = .ok (.aload_n 0, 1) := by decide +kernel
theorem dX6_book_78 : decode cX6_book 78 = .ok (.iload_n 1, 1) := by decide +kernel
theorem dX6_book_79 : decode cX6_book 79 = .ok (.invokevirtual 90, 3) := by decide +kernel
theorem dX6_book_82 : decode cX6_book 82 = .ok (.lsub, 1) := by decide +kernel
theorem dX6_book_83 : decode cX6_book 83 = .ok (.aload_n 0, 1) := by decide +kernel
theorem dX6_book_84 : decode cX6_book 84 = .ok (.getfield 13, 3) := by decide +kernel
theorem dX6_book_87 : decode cX6_book 87 = .ok (.iconst 3, 1) := by decide +kernel
theorem dX6_book_88 : decode cX6_book 88 = .ok (.iload_n 1, 1) := by decide +kernel
theorem dX6_book_89 : decode cX6_book 89 = .ok (.imul, 1) := by decide +kernel
theorem dX6_book_90 : decode cX6_book 90 = .ok (.iconst 1, 1) := by decide +kernel
theorem dX6_book_91 : decode cX6_book 91 = .ok (.iadd, 1) := by decide +kernel
theorem dX6_book_92 : decode cX6_book 92 = .ok (.laload, 1) := by decide +kernel
theorem dX6_book_93 : decode cX6_book 93 = .ok (.lsub, 1) := by decide +kernel
theorem dX6_book_94 : decode cX6_book 94 = .ok (.aload_n 0, 1) := by decide +kernel
theorem dX6_book_95 : decode cX6_book 95 = .ok (.getfield 13, 3) := by decide +kernel
theorem dX6_book_98 : decode cX6_book 98 = .ok (.iconst 3, 1) := by decide +kernel
theorem dX6_book_99 : decode cX6_book 99 = .ok (.iload_n 1, 1) := by decide +kernel
theorem dX6_book_100 : decode cX6_book 100 = .ok (.imul, 1) := by decide +kernel
theorem dX6_book_101 : decode cX6_book 101 = .ok (.iconst 2, 1) := by decide +kernel
theorem dX6_book_102 : decode cX6_book 102 = .ok (.iadd, 1) := by decide +kernel
theorem dX6_book_103 : decode cX6_book 103 = .ok (.laload, 1) := by decide +kernel
theorem dX6_book_104 : decode cX6_book 104 = .ok (.lsub, 1) := by decide +kernel
theorem dX6_book_105 : decode cX6_book 105 = .ok (.lreturn, 1) := by decide +kernel
theorem dX6_book_106 : decode cX6_book 106 = .ok (.ldc2_w 203, 3) := by decide +kernel
theorem dX6_book_109 : decode cX6_book 109 = .ok (.lreturn, 1) := by decide +kernel
set_option maxRecDepth 20000 in
theorem ggX6_why_X6_net : GoodIn wsX6_why wsX6_net := goodIn_r _ [5, 6, 7, 8, 4, 9, 10, 11, 12, 13, 14, 15, 16, 17, 18, 19, 20, 21, 22, 23, 24, 25, 26, 27, 28, 29, 30, 31, 32, 33, 34, 35, 36, 37, 45, 46, 47, 48, 49, 50, 51, 52, 53, 54, 55, 56, 57, 58, 59, 60, 61, 62, 63, 64, 65, 66] (by decide +kernel) (by decide +kernel)
set_option maxRecDepth 20000 in
theorem gX6_why_X6_net : GoodIn wsX6_why (wsV RX6 97 RX6 yX6_net wsX6_net) := goodIn_app (goodIn_of _ (by decide +kernel)) ggX6_why_X6_net
set_option maxRecDepth 20000 in
theorem ggX6_why_X6_of : GoodIn wsX6_why wsX6_of := goodIn_r _ [9, 10, 11, 12, 4, 13, 45, 46, 47, 48, 49, 50, 51, 52, 53, 54, 55, 56, 57, 58, 59, 60, 61, 62, 63, 64, 65, 66] (by decide +kernel) (by decide +kernel)
set_option maxRecDepth 20000 in
theorem gX6_why_X6_of : GoodIn wsX6_why (wsV RX6 53 RX6 yX6_of wsX6_of) := goodIn_app (goodIn_of _ (by decide +kernel)) ggX6_why_X6_of
set_option maxRecDepth 20000 in
theorem ggX6_why_X6_move : GoodIn wsX6_why wsX6_move := goodIn_r _ [41, 42, 43, 4, 44, 6, 7, 8, 9, 10, 11, 12, 13, 45, 46, 47, 48, 49, 50, 51, 52, 53, 54, 55, 56, 57, 58, 59, 60, 61, 62, 63, 64, 65, 66] (by decide +kernel) (by decide +kernel)
set_option maxRecDepth 20000 in
theorem gX6_why_X6_move : GoodIn wsX6_why (wsV RX6 100 RX6 yX6_move wsX6_move) := goodIn_app (goodIn_of _ (by decide +kernel)) ggX6_why_X6_move
set_option maxRecDepth 20000 in
theorem ggX6_why_X6_size : GoodIn wsX6_why wsX6_size := goodIn_r _ [44] (by decide +kernel) (by decide +kernel)
set_option maxRecDepth 20000 in
theorem gX6_why_X6_size : GoodIn wsX6_why (va_wsS RX6 83 yX6_size wsX6_size) := goodIn_app (goodIn_of _ (by decide +kernel)) ggX6_why_X6_size
theorem dX6_why_0 : decode cX6_why 0 = .ok (.aload_n 0, 1) := by decide +kernel
theorem dX6_why_1 : decode cX6_why 1 = .ok (.iload_n 1, 1) := by decide +kernel
theorem dX6_why_2 : decode cX6_why 2 = .ok (.invokevirtual 97, 3) := by decide +kernel
theorem dX6_why_5 : decode cX6_why 5 = .ok (.istore_n 2, 1) := by decide +kernel
theorem dX6_why_6 : decode cX6_why 6 = .ok (.aload_n 0, 1) := by decide +kernel
theorem dX6_why_7 : decode cX6_why 7 = .ok (.iload_n 1, 1) := by decide +kernel
theorem dX6_why_8 : decode cX6_why 8 = .ok (.aload_n 0, 1) := by decide +kernel
theorem dX6_why_9 : decode cX6_why 9 = .ok (.iload_n 1, 1) := by decide +kernel
theorem dX6_why_10 : decode cX6_why 10 = .ok (.bipush 6, 2) := by decide +kernel
theorem dX6_why_12 : decode cX6_why 12 = .ok (.invokevirtual 53, 3) := by decide +kernel
theorem dX6_why_15 : decode cX6_why 15 = .ok (.iload_n 2, 1) := by decide +kernel
theorem dX6_why_16 : decode cX6_why 16 = .ok (.invokevirtual 100, 3) := by decide +kernel
theorem dX6_why_19 : decode cX6_why 19 = .ok (.istore_n 3, 1) := by decide +kernel
theorem dX6_why_20 : decode cX6_why 20 = .ok (.iload_n 3, 1) := by decide +kernel
theorem dX6_why_21 : decode cX6_why 21 = .ok (.ifCond .le 7, 3) := by decide +kernel
theorem dX6_why_24 : decode cX6_why 24 = .ok (.iconst 0, 1) := by decide +kernel
theorem dX6_why_25 : decode cX6_why 25 = .ok (.goto 37, 3) := by decide +kernel
theorem dX6_why_28 : decode cX6_why 28 = .ok (.iload_n 3, 1) := by decide +kernel
theorem dX6_why_29 : decode cX6_why 29 = .ok (.ifCond .ge 7, 3) := by decide +kernel
theorem dX6_why_32 : decode cX6_why 32 = .ok (.iconst 1, 1) := by decide +kernel
theorem dX6_why_33 : decode cX6_why 33 = .ok (.goto 29, 3) := by decide +kernel
theorem dX6_why_36 : decode cX6_why 36 = .ok (.iload_n 2, 1) := by decide +kernel
theorem dX6_why_37 : decode cX6_why 37 = .ok (.ifCond .ne 7, 3) := by decide +kernel
theorem dX6_why_40 : decode cX6_why 40 = .ok (.iconst 2, 1) := by decide +kernel
theorem dX6_why_41 : decode cX6_why 41 = .ok (.goto 21, 3) := by decide +kernel
theorem dX6_why_44 : decode cX6_why 44 = .ok (.iload_n 2, 1) := by decide +kernel
theorem dX6_why_45 : decode cX6_why 45 = .ok (.invokestatic 83, 3) := by decide +kernel
theorem dX6_why_48 : decode cX6_why 48 = .ok (.aload_n 0, 1) := by decide +kernel
theorem dX6_why_49 : decode cX6_why 49 = .ok (.iload_n 1, 1) := by decide +kernel
theorem dX6_why_50 : decode cX6_why 50 = .ok (.iconst 4, 1) := by decide +kernel
theorem dX6_why_51 : decode cX6_why 51 = .ok (.invokevirtual 53, 3) := by decide +kernel
theorem dX6_why_54 : decode cX6_why 54 = .ok (.if_icmp .gt 7, 3) := by decide +kernel
theorem dX6_why_57 : decode cX6_why 57 = .ok (.iconst 3, 1) := by decide +kernel
theorem dX6_why_58 : decode cX6_why 58 = .ok (.goto 4, 3) := by decide +kernel
theorem dX6_why_61 : decode cX6_why 61 = .ok (.iconst 4, 1) := by decide +kernel
theorem dX6_why_62 : decode cX6_why 62 = .ok (.ireturn, 1) := by decide +kernel
set_option maxRecDepth 20000 in
theorem ggX6_reason_X6_isPair : GoodIn wsX6_reason wsX6_isPair := goodIn_r _ [4, 5, 6, 3, 7] (by decide +kernel) (by decide +kernel)
set_option maxRecDepth 20000 in
theorem gX6_reason_X6_isPair : GoodIn wsX6_reason (va_wsS RX6 119 yX6_isPair wsX6_isPair) := goodIn_app (goodIn_of _ (by decide +kernel)) ggX6_reason_X6_isPair
set_option maxRecDepth 20000 in
theorem ggX6_reason_X6_why : GoodIn wsX6_reason wsX6_why := goodIn_r _ [11, 12, 13, 14, 3, 15, 16, 17, 18, 19, 20, 21, 22, 23, 24, 25, 26, 27, 28, 29, 30, 31, 32, 33, 34, 35, 36, 37, 38, 39, 40, 41, 42, 43, 44, 45, 46, 47, 48, 49, 50, 51, 52, 53, 54, 55, 56, 57, 58, 59, 60, 61, 62, 63, 64, 65, 66, 67, 68, 69, 70, 71, 72, 73, 74, 75, 76] (by decide +kernel) (by decide +kernel)
set_option maxRecDepth 20000 in
theorem gX6_reason_X6_why : GoodIn wsX6_reason (wsV RX6 205 RX6 yX6_why wsX6_why) := goodIn_app (goodIn_of _ (by decide +kernel)) ggX6_reason_X6_why
theorem dX6_reason_0 : decode cX6_reason 0 = .ok (.iload_n 1, 1) := by decide +kernel
theorem dX6_reason_1 : decode cX6_reason 1 = .ok (.invokestatic 119, 3) := by decide +kernel
theorem dX6_reason_4 : decode cX6_reason 4 = .ok (.ifCond .eq 11, 3) := by decide +kernel
theorem dX6_reason_7 : decode cX6_reason 7 = .ok (.aload_n 0, 1) := by decide +kernel
theorem dX6_reason_8 : decode cX6_reason 8 = .ok (.iload_n 1, 1) := by decide +kernel
theorem dX6_reason_9 : decode cX6_reason 9 = .ok (.invokevirtual 205, 3) := by decide +kernel
theorem dX6_reason_12 : decode cX6_reason 12 = .ok (.goto 4, 3) := by decide +kernel
theorem dX6_reason_15 : decode cX6_reason 15 = .ok (.iconst (-1), 1) := by decide +kernel
theorem dX6_reason_16 : decode cX6_reason 16 = .ok (.ireturn, 1) := by decide +kernel
set_option maxRecDepth 20000 in
theorem ggX6_force_X6_isPair : GoodIn wsX6_force wsX6_isPair := goodIn_r _ [4, 5, 6, 3, 7] (by decide +kernel) (by decide +kernel)
set_option maxRecDepth 20000 in
theorem gX6_force_X6_isPair : GoodIn wsX6_force (va_wsS RX6 119 yX6_isPair wsX6_isPair) := goodIn_app (goodIn_of _ (by decide +kernel)) ggX6_force_X6_isPair
set_option maxRecDepth 20000 in
theorem ggX6_force_X6_in : GoodIn wsX6_force wsX6_in := goodIn_r _ [7] (by decide +kernel) (by decide +kernel)
set_option maxRecDepth 20000 in
theorem gX6_force_X6_in : GoodIn wsX6_force (va_wsS RX6 49 yX6_in wsX6_in) := goodIn_app (goodIn_of _ (by decide +kernel)) ggX6_force_X6_in
set_option maxRecDepth 20000 in
theorem ggX6_force_X6_of : GoodIn wsX6_force wsX6_of := goodIn_r _ [11, 12, 13, 14, 3, 15, 43, 44, 45, 46, 47, 48, 49, 50, 51, 52, 53, 54, 55, 56, 57, 58, 59, 60, 61, 62, 63, 64] (by decide +kernel) (by decide +kernel)
set_option maxRecDepth 20000 in
theorem gX6_force_X6_of : GoodIn wsX6_force (wsV RX6 53 RX6 yX6_of wsX6_of) := goodIn_app (goodIn_of _ (by decide +kernel)) ggX6_force_X6_of
set_option maxRecDepth 20000 in
theorem ggX6_force_X6_pullAt : GoodIn wsX6_force wsX6_pullAt := goodIn_r _ [19, 20, 21, 22, 3, 23, 8, 9, 10, 11, 12, 13, 14, 15, 24, 25, 26, 27, 28, 29, 30, 31, 32, 33, 34, 35, 43, 44, 45, 46, 47, 48, 49, 50, 51, 52, 53, 54, 55, 56, 57, 58, 59, 60, 61, 62, 63, 64] (by decide +kernel) (by decide +kernel)
set_option maxRecDepth 20000 in
theorem gX6_force_X6_pullAt : GoodIn wsX6_force (wsV RX6 77 RX6 yX6_pullAt wsX6_pullAt) := goodIn_app (goodIn_of _ (by decide +kernel)) ggX6_force_X6_pullAt
set_option maxRecDepth 20000 in
theorem ggX6_force_X6_spring : GoodIn wsX6_force wsX6_spring := goodIn_r _ [39, 8, 9, 10, 3, 11, 12, 13, 14, 15, 43, 44, 45, 46, 47, 48, 49, 50, 51, 52, 53, 54, 55, 56, 57, 58, 59, 60, 61, 62, 63, 64] (by decide +kernel) (by decide +kernel)
set_option maxRecDepth 20000 in
theorem gX6_force_X6_spring : GoodIn wsX6_force (wsV RX6 80 RX6 yX6_spring wsX6_spring) := goodIn_app (goodIn_of _ (by decide +kernel)) ggX6_force_X6_spring
set_option maxRecDepth 20000 in
theorem ggX6_force_X6_size : GoodIn wsX6_force wsX6_size := goodIn_r _ [42] (by decide +kernel) (by decide +kernel)
set_option maxRecDepth 20000 in
theorem gX6_force_X6_size : GoodIn wsX6_force (va_wsS RX6 83 yX6_size wsX6_size) := goodIn_app (goodIn_of _ (by decide +kernel)) ggX6_force_X6_size
theorem dX6_force_0 : decode cX6_force 0 = .ok (.iload_n 1, 1) := by decide +kernel
theorem dX6_force_1 : decode cX6_force 1 = .ok (.invokestatic 119, 3) := by decide +kernel
theorem dX6_force_4 : decode cX6_force 4 = .ok (.ifCond .ne 5, 3) := by decide +kernel
theorem dX6_force_7 : decode cX6_force 7 = .ok (.iconst (-1), 1) := by decide +kernel
theorem dX6_force_8 : decode cX6_force 8 = .ok (.ireturn, 1) := by decide +kernel
theorem dX6_force_9 : decode cX6_force 9 = .ok (.iload_n 2, 1) := by decide +kernel
theorem dX6_force_10 : decode cX6_force 10 = .ok (.iconst 0, 1) := by decide +kernel
theorem dX6_force_11 : decode cX6_force 11 = .ok (.bipush 40, 2) := by decide +kernel
theorem dX6_force_13 : decode cX6_force 13 = .ok (.invokestatic 49, 3) := by decide +kernel
theorem dX6_force_16 : decode cX6_force 16 = .ok (.ifCond .eq 29, 3) := by decide +kernel
theorem dX6_force_19 : decode cX6_force 19 = .ok (.aload_n 0, 1) := by decide +kernel
theorem dX6_force_20 : decode cX6_force 20 = .ok (.iload_n 1, 1) := by decide +kernel
theorem dX6_force_21 : decode cX6_force 21 = .ok (.iload_n 2, 1) := by decide +kernel
theorem dX6_force_22 : decode cX6_force 22 = .ok (.aload_n 0, 1) := by decide +kernel
theorem dX6_force_23 : decode cX6_force 23 = .ok (.iload_n 1, 1) := by decide +kernel
theorem dX6_force_24 : decode cX6_force 24 = .ok (.bipush 7, 2) := by decide +kernel
theorem dX6_force_26 : decode cX6_force 26 = .ok (.invokevirtual 53, 3) := by decide +kernel
theorem dX6_force_29 : decode cX6_force 29 = .ok (.invokevirtual 77, 3) := by decide +kernel
theorem dX6_force_32 : decode cX6_force 32 = .ok (.aload_n 0, 1) := by decide +kernel
theorem dX6_force_33 : decode cX6_force 33 = .ok (.iload_n 1, 1) := by decide +kernel
theorem dX6_force_34 : decode cX6_force 34 = .ok (.iload_n 2, 1) := by decide +kernel
theorem dX6_force_35 : decode cX6_force 35 = .ok (.invokevirtual 80, 3) := by decide +kernel
theorem dX6_force_38 : decode cX6_force 38 = .ok (.isub, 1) := by decide +kernel
theorem dX6_force_39 : decode cX6_force 39 = .ok (.invokestatic 83, 3) := by decide +kernel
theorem dX6_force_42 : decode cX6_force 42 = .ok (.goto 5, 3) := by decide +kernel
theorem dX6_force_45 : decode cX6_force 45 = .ok (.bipush (-2), 2) := by decide +kernel
theorem dX6_force_47 : decode cX6_force 47 = .ok (.ireturn, 1) := by decide +kernel
set_option maxRecDepth 20000 in
theorem ggX6_goes_X6_isOn : GoodIn wsX6_goes wsX6_isOn := goodIn_r _ [7, 8, 9, 10, 6, 11, 12, 13, 14, 15, 48, 49, 50, 51, 52, 53, 54, 55, 56, 57, 58, 59, 60, 61, 62, 63, 64, 65, 66, 67, 68, 69] (by decide +kernel) (by decide +kernel)
set_option maxRecDepth 20000 in
theorem gX6_goes_X6_isOn : GoodIn wsX6_goes (wsV RX6 62 RX6 yX6_isOn wsX6_isOn) := goodIn_app (goodIn_of _ (by decide +kernel)) ggX6_goes_X6_isOn
set_option maxRecDepth 20000 in
theorem ggX6_goes_X6_leak : GoodIn wsX6_goes wsX6_leak := goodIn_r _ [19, 20, 8, 9, 10, 6, 11, 12, 13, 14, 15, 48, 49, 50, 51, 52, 53, 54, 55, 56, 57, 58, 59, 60, 61, 62, 63, 64, 65, 66, 67, 68, 69] (by decide +kernel) (by decide +kernel)
set_option maxRecDepth 20000 in
theorem gX6_goes_X6_leak : GoodIn wsX6_goes (wsV RX6 94 RX6 yX6_leak wsX6_leak) := goodIn_app (goodIn_of _ (by decide +kernel)) ggX6_goes_X6_leak
set_option maxRecDepth 20000 in
theorem ggX6_goes_X6_pullAt : GoodIn wsX6_goes wsX6_pullAt := goodIn_r _ [24, 3, 4, 5, 6, 7, 8, 9, 10, 11, 12, 13, 14, 15, 25, 26, 27, 28, 29, 30, 31, 32, 33, 34, 35, 36, 48, 49, 50, 51, 52, 53, 54, 55, 56, 57, 58, 59, 60, 61, 62, 63, 64, 65, 66, 67, 68, 69] (by decide +kernel) (by decide +kernel)
set_option maxRecDepth 20000 in
theorem gX6_goes_X6_pullAt : GoodIn wsX6_goes (wsV RX6 77 RX6 yX6_pullAt wsX6_pullAt) := goodIn_app (goodIn_of _ (by decide +kernel)) ggX6_goes_X6_pullAt
set_option maxRecDepth 20000 in
theorem ggX6_goes_X6_spring : GoodIn wsX6_goes wsX6_spring := goodIn_r _ [40, 8, 9, 10, 6, 11, 12, 13, 14, 15, 48, 49, 50, 51, 52, 53, 54, 55, 56, 57, 58, 59, 60, 61, 62, 63, 64, 65, 66, 67, 68, 69] (by decide +kernel) (by decide +kernel)
set_option maxRecDepth 20000 in
theorem gX6_goes_X6_spring : GoodIn wsX6_goes (wsV RX6 80 RX6 yX6_spring wsX6_spring) := goodIn_app (goodIn_of _ (by decide +kernel)) ggX6_goes_X6_spring
set_option maxRecDepth 20000 in
theorem ggX6_goes_X6_move : GoodIn wsX6_goes wsX6_move := goodIn_r _ [44, 45, 46, 6, 47, 8, 9, 10, 11, 12, 13, 14, 15, 48, 49, 50, 51, 52, 53, 54, 55, 56, 57, 58, 59, 60, 61, 62, 63, 64, 65, 66, 67, 68, 69] (by decide +kernel) (by decide +kernel)
set_option maxRecDepth 20000 in
theorem gX6_goes_X6_move : GoodIn wsX6_goes (wsV RX6 100 RX6 yX6_move wsX6_move) := goodIn_app (goodIn_of _ (by decide +kernel)) ggX6_goes_X6_move
theorem dX6_goes_0 : decode cX6_goes 0 = .ok (.aload_n 0, 1) := by decide +kernel
theorem dX6_goes_1 : decode cX6_goes 1 = .ok (.dup, 1) := by decide +kernel
theorem dX6_goes_2 : decode cX6_goes 2 = .ok (.getfield 208, 3) := by decide +kernel
theorem dX6_goes_5 : decode cX6_goes 5 = .ok (.aload_n 0, 1) := by decide +kernel
theorem dX6_goes_6 : decode cX6_goes 6 = .ok (.iload_n 1, 1) := by decide +kernel
theorem dX6_goes_7 : decode cX6_goes 7 = .ok (.invokevirtual 62, 3) := by decide +kernel
theorem dX6_goes_10 : decode cX6_goes 10 = .ok (.ifCond .eq 7, 3) := by decide +kernel
theorem dX6_goes_13 : decode cX6_goes 13 = .ok (.iconst 0, 1) := by decide +kernel
theorem dX6_goes_14 : decode cX6_goes 14 = .ok (.goto 12, 3) := by decide +kernel
theorem dX6_goes_17 : decode cX6_goes 17 = .ok (.aload_n 0, 1) := by decide +kernel
theorem dX6_goes_18 : decode cX6_goes 18 = .ok (.iload_n 1, 1) := by decide +kernel
theorem dX6_goes_19 : decode cX6_goes 19 = .ok (.aload_n 0, 1) := by decide +kernel
theorem dX6_goes_20 : decode cX6_goes 20 = .ok (.getfield 208, 3) := by decide +kernel
theorem dX6_goes_23 : decode cX6_goes 23 = .ok (.invokevirtual 94, 3) := by decide +kernel
theorem dX6_goes_26 : decode cX6_goes 26 = .ok (.isub, 1) := by decide +kernel
theorem dX6_goes_27 : decode cX6_goes 27 = .ok (.putfield 208, 3) := by decide +kernel
theorem dX6_goes_30 : decode cX6_goes 30 = .ok (.aload_n 0, 1) := by decide +kernel
theorem dX6_goes_31 : decode cX6_goes 31 = .ok (.iload_n 1, 1) := by decide +kernel
theorem dX6_goes_32 : decode cX6_goes 32 = .ok (.aload_n 0, 1) := by decide +kernel
theorem dX6_goes_33 : decode cX6_goes 33 = .ok (.getfield 211, 3) := by decide +kernel
theorem dX6_goes_36 : decode cX6_goes 36 = .ok (.aload_n 0, 1) := by decide +kernel
theorem dX6_goes_37 : decode cX6_goes 37 = .ok (.iload_n 1, 1) := by decide +kernel
theorem dX6_goes_38 : decode cX6_goes 38 = .ok (.aload_n 0, 1) := by decide +kernel
theorem dX6_goes_39 : decode cX6_goes 39 = .ok (.getfield 211, 3) := by decide +kernel
theorem dX6_goes_42 : decode cX6_goes 42 = .ok (.aload_n 0, 1) := by decide +kernel
theorem dX6_goes_43 : decode cX6_goes 43 = .ok (.getfield 208, 3) := by decide +kernel
theorem dX6_goes_46 : decode cX6_goes 46 = .ok (.invokevirtual 77, 3) := by decide +kernel
theorem dX6_goes_49 : decode cX6_goes 49 = .ok (.aload_n 0, 1) := by decide +kernel
theorem dX6_goes_50 : decode cX6_goes 50 = .ok (.iload_n 1, 1) := by decide +kernel
theorem dX6_goes_51 : decode cX6_goes 51 = .ok (.aload_n 0, 1) := by decide +kernel
theorem dX6_goes_52 : decode cX6_goes 52 = .ok (.getfield 211, 3) := by decide +kernel
theorem dX6_goes_55 : decode cX6_goes 55 = .ok (.invokevirtual 80, 3) := by decide +kernel
theorem dX6_goes_58 : decode cX6_goes 58 = .ok (.isub, 1) := by decide +kernel
theorem dX6_goes_59 : decode cX6_goes 59 = .ok (.invokevirtual 100, 3) := by decide +kernel
theorem dX6_goes_62 : decode cX6_goes 62 = .ok (.istore_n 2, 1) := by decide +kernel
theorem dX6_goes_63 : decode cX6_goes 63 = .ok (.aload_n 0, 1) := by decide +kernel
theorem dX6_goes_64 : decode cX6_goes 64 = .ok (.dup, 1) := by decide +kernel
theorem dX6_goes_65 : decode cX6_goes 65 = .ok (.getfield 211, 3) := by decide +kernel
theorem dX6_goes_68 : decode cX6_goes 68 = .ok (.iload_n 2, 1) := by decide +kernel
theorem dX6_goes_69 : decode cX6_goes 69 = .ok (.iadd, 1) := by decide +kernel
theorem dX6_goes_70 : decode cX6_goes 70 = .ok (.putfield 211, 3) := by decide +kernel
theorem dX6_goes_73 : decode cX6_goes 73 = .ok (.iload_n 2, 1) := by decide +kernel
theorem dX6_goes_74 : decode cX6_goes 74 = .ok (.ireturn, 1) := by decide +kernel
set_option maxRecDepth 20000 in
theorem ggX6_sets_X6_of : GoodIn wsX6_sets wsX6_of := goodIn_r _ [7, 8, 9, 10, 6, 11, 12, 13, 14, 15, 16, 17, 18, 19, 20, 21, 22, 23, 24, 25, 26, 27, 28, 29, 30, 31, 32, 33] (by decide +kernel) (by decide +kernel)
set_option maxRecDepth 20000 in
theorem gX6_sets_X6_of : GoodIn wsX6_sets (wsV RX6 53 RX6 yX6_of wsX6_of) := goodIn_app (goodIn_of _ (by decide +kernel)) ggX6_sets_X6_of
theorem dX6_sets_0 : decode cX6_sets 0 = .ok (.aload_n 0, 1) := by decide +kernel
theorem dX6_sets_1 : decode cX6_sets 1 = .ok (.aload_n 0, 1) := by decide +kernel
theorem dX6_sets_2 : decode cX6_sets 2 = .ok (.iload_n 1, 1) := by decide +kernel
theorem dX6_sets_3 : decode cX6_sets 3 = .ok (.bipush 6, 2) := by decide +kernel
theorem dX6_sets_5 : decode cX6_sets 5 = .ok (.invokevirtual 53, 3) := by decide +kernel
theorem dX6_sets_8 : decode cX6_sets 8 = .ok (.putfield 211, 3) := by decide +kernel
theorem dX6_sets_11 : decode cX6_sets 11 = .ok (.aload_n 0, 1) := by decide +kernel
theorem dX6_sets_12 : decode cX6_sets 12 = .ok (.aload_n 0, 1) := by decide +kernel
theorem dX6_sets_13 : decode cX6_sets 13 = .ok (.iload_n 1, 1) := by decide +kernel
theorem dX6_sets_14 : decode cX6_sets 14 = .ok (.bipush 7, 2) := by decide +kernel
theorem dX6_sets_16 : decode cX6_sets 16 = .ok (.invokevirtual 53, 3) := by decide +kernel
theorem dX6_sets_19 : decode cX6_sets 19 = .ok (.putfield 208, 3) := by decide +kernel
theorem dX6_sets_22 : decode cX6_sets 22 = .ok (.return_, 1) := by decide +kernel
set_option maxRecDepth 20000 in
theorem ggX6_restsIn_X6_isPair : GoodIn wsX6_restsIn wsX6_isPair := goodIn_r _ [4, 5, 6, 3, 7] (by decide +kernel) (by decide +kernel)
set_option maxRecDepth 20000 in
theorem gX6_restsIn_X6_isPair : GoodIn wsX6_restsIn (va_wsS RX6 119 yX6_isPair wsX6_isPair) := goodIn_app (goodIn_of _ (by decide +kernel)) ggX6_restsIn_X6_isPair
set_option maxRecDepth 20000 in
theorem ggX6_restsIn_X6_sets : GoodIn wsX6_restsIn wsX6_sets := goodIn_r _ [11, 12, 13, 14, 15, 16, 3, 17, 18, 19, 20, 21, 62, 63, 64, 65, 66, 67, 68, 69, 70, 71, 72, 73, 74, 75, 76, 77, 78, 79, 80, 81, 82, 83] (by decide +kernel) (by decide +kernel)
set_option maxRecDepth 20000 in
theorem gX6_restsIn_X6_sets : GoodIn wsX6_restsIn (wsV RX6 214 RX6 yX6_sets wsX6_sets) := goodIn_app (goodIn_of _ (by decide +kernel)) ggX6_restsIn_X6_sets
set_option maxRecDepth 20000 in
theorem ggX6_restsIn_X6_goes : GoodIn wsX6_restsIn wsX6_goes := goodIn_r _ [25, 13, 12, 26, 27, 28, 3, 29, 14, 15, 16, 17, 18, 19, 20, 21, 30, 31, 32, 33, 34, 35, 36, 37, 38, 39, 40, 41, 42, 43, 44, 45, 46, 47, 48, 49, 50, 51, 52, 53, 54, 55, 56, 57, 58, 59, 60, 61, 62, 63, 64, 65, 66, 67, 68, 69, 70, 71, 72, 73, 74, 75, 76, 77, 78, 79, 80, 81, 82, 83] (by decide +kernel) (by decide +kernel)
set_option maxRecDepth 20000 in
theorem gX6_restsIn_X6_goes : GoodIn wsX6_restsIn (wsV RX6 217 RX6 yX6_goes wsX6_goes) := goodIn_app (goodIn_of _ (by decide +kernel)) ggX6_restsIn_X6_goes
theorem dX6_restsIn_0 : decode cX6_restsIn 0 = .ok (.iload_n 1, 1) := by decide +kernel
theorem dX6_restsIn_1 : decode cX6_restsIn 1 = .ok (.invokestatic 119, 3) := by decide +kernel
theorem dX6_restsIn_4 : decode cX6_restsIn 4 = .ok (.ifCond .ne 5, 3) := by decide +kernel
theorem dX6_restsIn_7 : decode cX6_restsIn 7 = .ok (.iconst (-1), 1) := by decide +kernel
theorem dX6_restsIn_8 : decode cX6_restsIn 8 = .ok (.ireturn, 1) := by decide +kernel
theorem dX6_restsIn_9 : decode cX6_restsIn 9 = .ok (.aload_n 0, 1) := by decide +kernel
theorem dX6_restsIn_10 : decode cX6_restsIn 10 = .ok (.iload_n 1, 1) := by decide +kernel
theorem dX6_restsIn_11 : decode cX6_restsIn 11 = .ok (.invokevirtual 214, 3) := by decide +kernel
theorem dX6_restsIn_14 : decode cX6_restsIn 14 = .ok (.iconst 0, 1) := by decide +kernel
theorem dX6_restsIn_15 : decode cX6_restsIn 15 = .ok (.istore_n 2, 1) := by decide +kernel
theorem dX6_restsIn_16 : decode cX6_restsIn 16 = .ok (.iload_n 2, 1) := by decide +kernel
theorem dX6_restsIn_17 : decode cX6_restsIn 17 = .ok (.sipush 400, 3) := by decide +kernel
theorem dX6_restsIn_20 : decode cX6_restsIn 20 = .ok (.if_icmp .gt 19, 3) := by decide +kernel
theorem dX6_restsIn_23 : decode cX6_restsIn 23 = .ok (.aload_n 0, 1) := by decide +kernel
theorem dX6_restsIn_24 : decode cX6_restsIn 24 = .ok (.iload_n 1, 1) := by decide +kernel
theorem dX6_restsIn_25 : decode cX6_restsIn 25 = .ok (.invokevirtual 217, 3) := by decide +kernel
theorem dX6_restsIn_28 : decode cX6_restsIn 28 = .ok (.ifCond .ne 5, 3) := by decide +kernel
theorem dX6_restsIn_31 : decode cX6_restsIn 31 = .ok (.iload_n 2, 1) := by decide +kernel
theorem dX6_restsIn_32 : decode cX6_restsIn 32 = .ok (.ireturn, 1) := by decide +kernel
theorem dX6_restsIn_33 : decode cX6_restsIn 33 = .ok (.iinc 2 1, 3) := by decide +kernel
theorem dX6_restsIn_36 : decode cX6_restsIn 36 = .ok (.goto (-20), 3) := by decide +kernel
theorem dX6_restsIn_39 : decode cX6_restsIn 39 = .ok (.bipush (-5), 2) := by decide +kernel
theorem dX6_restsIn_41 : decode cX6_restsIn 41 = .ok (.ireturn, 1) := by decide +kernel
set_option maxRecDepth 20000 in
theorem ggX6_depthIn_X6_isPair : GoodIn wsX6_depthIn wsX6_isPair := goodIn_r _ [5, 6, 7, 4, 8] (by decide +kernel) (by decide +kernel)
set_option maxRecDepth 20000 in
theorem gX6_depthIn_X6_isPair : GoodIn wsX6_depthIn (va_wsS RX6 119 yX6_isPair wsX6_isPair) := goodIn_app (goodIn_of _ (by decide +kernel)) ggX6_depthIn_X6_isPair
set_option maxRecDepth 20000 in
theorem ggX6_depthIn_X6_in : GoodIn wsX6_depthIn wsX6_in := goodIn_r _ [8] (by decide +kernel) (by decide +kernel)
set_option maxRecDepth 20000 in
theorem gX6_depthIn_X6_in : GoodIn wsX6_depthIn (va_wsS RX6 49 yX6_in wsX6_in) := goodIn_app (goodIn_of _ (by decide +kernel)) ggX6_depthIn_X6_in
set_option maxRecDepth 20000 in
theorem ggX6_depthIn_X6_sets : GoodIn wsX6_depthIn wsX6_sets := goodIn_r _ [12, 1, 13, 14, 15, 16, 4, 17, 18, 19, 20, 21, 62, 63, 64, 65, 66, 67, 68, 69, 70, 71, 72, 73, 74, 75, 76, 77, 78, 79, 80, 81, 82, 83] (by decide +kernel) (by decide +kernel)
set_option maxRecDepth 20000 in
theorem gX6_depthIn_X6_sets : GoodIn wsX6_depthIn (wsV RX6 214 RX6 yX6_sets wsX6_sets) := goodIn_app (goodIn_of _ (by decide +kernel)) ggX6_depthIn_X6_sets
set_option maxRecDepth 20000 in
theorem ggX6_depthIn_X6_goes : GoodIn wsX6_depthIn wsX6_goes := goodIn_r _ [25, 13, 1, 26, 27, 28, 4, 29, 14, 15, 16, 17, 18, 19, 20, 21, 30, 31, 32, 33, 34, 35, 36, 37, 38, 39, 40, 41, 42, 43, 44, 45, 46, 47, 48, 49, 50, 51, 52, 53, 54, 55, 56, 57, 58, 59, 60, 61, 62, 63, 64, 65, 66, 67, 68, 69, 70, 71, 72, 73, 74, 75, 76, 77, 78, 79, 80, 81, 82, 83] (by decide +kernel) (by decide +kernel)
set_option maxRecDepth 20000 in
theorem gX6_depthIn_X6_goes : GoodIn wsX6_depthIn (wsV RX6 217 RX6 yX6_goes wsX6_goes) := goodIn_app (goodIn_of _ (by decide +kernel)) ggX6_depthIn_X6_goes
theorem dX6_depthIn_0 : decode cX6_depthIn 0 = .ok (.iload_n 1, 1) := by decide +kernel
theorem dX6_depthIn_1 : decode cX6_depthIn 1 = .ok (.invokestatic 119, 3) := by decide +kernel
theorem dX6_depthIn_4 : decode cX6_depthIn 4 = .ok (.ifCond .ne 5, 3) := by decide +kernel
theorem dX6_depthIn_7 : decode cX6_depthIn 7 = .ok (.iconst (-1), 1) := by decide +kernel
theorem dX6_depthIn_8 : decode cX6_depthIn 8 = .ok (.ireturn, 1) := by decide +kernel
theorem dX6_depthIn_9 : decode cX6_depthIn 9 = .ok (.iload_n 2, 1) := by decide +kernel
theorem dX6_depthIn_10 : decode cX6_depthIn 10 = .ok (.iconst 1, 1) := by decide +kernel
theorem dX6_depthIn_11 : decode cX6_depthIn 11 = .ok (.sipush 400, 3) := by decide +kernel
theorem dX6_depthIn_14 : decode cX6_depthIn 14 = .ok (.invokestatic 49, 3) := by decide +kernel
theorem dX6_depthIn_17 : decode cX6_depthIn 17 = .ok (.ifCond .ne 6, 3) := by decide +kernel
theorem dX6_depthIn_20 : decode cX6_depthIn 20 = .ok (.bipush (-2), 2) := by decide +kernel
theorem dX6_depthIn_22 : decode cX6_depthIn 22 = .ok (.ireturn, 1) := by decide +kernel
theorem dX6_depthIn_23 : decode cX6_depthIn 23 = .ok (.aload_n 0, 1) := by decide +kernel
theorem dX6_depthIn_24 : decode cX6_depthIn 24 = .ok (.iload_n 1, 1) := by decide +kernel
theorem dX6_depthIn_25 : decode cX6_depthIn 25 = .ok (.invokevirtual 214, 3) := by decide +kernel
theorem dX6_depthIn_28 : decode cX6_depthIn 28 = .ok (.iconst 0, 1) := by decide +kernel
theorem dX6_depthIn_29 : decode cX6_depthIn 29 = .ok (.istore_n 3, 1) := by decide +kernel
theorem dX6_depthIn_30 : decode cX6_depthIn 30 = .ok (.iload_n 3, 1) := by decide +kernel
theorem dX6_depthIn_31 : decode cX6_depthIn 31 = .ok (.iload_n 2, 1) := by decide +kernel
theorem dX6_depthIn_32 : decode cX6_depthIn 32 = .ok (.if_icmp .ge 16, 3) := by decide +kernel
theorem dX6_depthIn_35 : decode cX6_depthIn 35 = .ok (.aload_n 0, 1) := by decide +kernel
theorem dX6_depthIn_36 : decode cX6_depthIn 36 = .ok (.iload_n 1, 1) := by decide +kernel
theorem dX6_depthIn_37 : decode cX6_depthIn 37 = .ok (.invokevirtual 217, 3) := by decide +kernel
theorem dX6_depthIn_40 : decode cX6_depthIn 40 = .ok (.istore 4, 2) := by decide +kernel
theorem dX6_depthIn_42 : decode cX6_depthIn 42 = .ok (.iinc 3 1, 3) := by decide +kernel
theorem dX6_depthIn_45 : decode cX6_depthIn 45 = .ok (.goto (-15), 3) := by decide +kernel
theorem dX6_depthIn_48 : decode cX6_depthIn 48 = .ok (.aload_n 0, 1) := by decide +kernel
theorem dX6_depthIn_49 : decode cX6_depthIn 49 = .ok (.getfield 211, 3) := by decide +kernel
theorem dX6_depthIn_52 : decode cX6_depthIn 52 = .ok (.ireturn, 1) := by decide +kernel
set_option maxRecDepth 20000 in
theorem ggX6_leastVoltage_X6_isPair : GoodIn wsX6_leastVoltage wsX6_isPair := goodIn_r _ [4, 5, 6, 3, 7] (by decide +kernel) (by decide +kernel)
set_option maxRecDepth 20000 in
theorem gX6_leastVoltage_X6_isPair : GoodIn wsX6_leastVoltage (va_wsS RX6 119 yX6_isPair wsX6_isPair) := goodIn_app (goodIn_of _ (by decide +kernel)) ggX6_leastVoltage_X6_isPair
set_option maxRecDepth 20000 in
theorem ggX6_leastVoltage_X6_of : GoodIn wsX6_leastVoltage wsX6_of := goodIn_r _ [11, 12, 13, 14, 3, 15, 31, 32, 33, 34, 35, 36, 37, 38, 39, 40, 41, 42, 43, 44, 45, 46, 47, 48, 49, 50, 51, 52] (by decide +kernel) (by decide +kernel)
set_option maxRecDepth 20000 in
theorem gX6_leastVoltage_X6_of : GoodIn wsX6_leastVoltage (wsV RX6 53 RX6 yX6_of wsX6_of) := goodIn_app (goodIn_of _ (by decide +kernel)) ggX6_leastVoltage_X6_of
set_option maxRecDepth 20000 in
theorem ggX6_leastVoltage_X6_pullBy : GoodIn wsX6_leastVoltage wsX6_pullBy := goodIn_r _ [19, 8, 9, 10, 3, 11, 12, 13, 14, 15, 31, 32, 33, 34, 35, 36, 37, 38, 39, 40, 41, 42, 43, 44, 45, 46, 47, 48, 49, 50, 51, 52] (by decide +kernel) (by decide +kernel)
set_option maxRecDepth 20000 in
theorem gX6_leastVoltage_X6_pullBy : GoodIn wsX6_leastVoltage (wsV RX6 70 RX6 yX6_pullBy wsX6_pullBy) := goodIn_app (goodIn_of _ (by decide +kernel)) ggX6_leastVoltage_X6_pullBy
set_option maxRecDepth 20000 in
theorem ggX6_leastVoltage_X6_spring : GoodIn wsX6_leastVoltage wsX6_spring := goodIn_r _ [23, 8, 9, 10, 3, 11, 12, 13, 14, 15, 31, 32, 33, 34, 35, 36, 37, 38, 39, 40, 41, 42, 43, 44, 45, 46, 47, 48, 49, 50, 51, 52] (by decide +kernel) (by decide +kernel)
set_option maxRecDepth 20000 in
theorem gX6_leastVoltage_X6_spring : GoodIn wsX6_leastVoltage (wsV RX6 80 RX6 yX6_spring wsX6_spring) := goodIn_app (goodIn_of _ (by decide +kernel)) ggX6_leastVoltage_X6_spring
set_option maxRecDepth 20000 in
theorem ggX6_leastVoltage_X6_move : GoodIn wsX6_leastVoltage wsX6_move := goodIn_r _ [27, 28, 29, 3, 30, 8, 9, 10, 11, 12, 13, 14, 15, 31, 32, 33, 34, 35, 36, 37, 38, 39, 40, 41, 42, 43, 44, 45, 46, 47, 48, 49, 50, 51, 52] (by decide +kernel) (by decide +kernel)
set_option maxRecDepth 20000 in
theorem gX6_leastVoltage_X6_move : GoodIn wsX6_leastVoltage (wsV RX6 100 RX6 yX6_move wsX6_move) := goodIn_app (goodIn_of _ (by decide +kernel)) ggX6_leastVoltage_X6_move
theorem dX6_leastVoltage_0 : decode cX6_leastVoltage 0 = .ok (.iload_n 1, 1) := by decide +kernel
theorem dX6_leastVoltage_1 : decode cX6_leastVoltage 1 = .ok (.invokestatic 119, 3) := by decide +kernel
theorem dX6_leastVoltage_4 : decode cX6_leastVoltage 4 = .ok (.ifCond .ne 5, 3) := by decide +kernel
theorem dX6_leastVoltage_7 : decode cX6_leastVoltage 7 = .ok (.iconst (-1), 1) := by decide +kernel
theorem dX6_leastVoltage_8 : decode cX6_leastVoltage 8 = .ok (.ireturn, 1) := by decide +kernel
theorem dX6_leastVoltage_9 : decode cX6_leastVoltage 9 = .ok (.aload_n 0, 1) := by decide +kernel
theorem dX6_leastVoltage_10 : decode cX6_leastVoltage 10 = .ok (.iload_n 1, 1) := by decide +kernel
theorem dX6_leastVoltage_11 : decode cX6_leastVoltage 11 = .ok (.bipush 6, 2) := by decide +kernel
theorem dX6_leastVoltage_13 : decode cX6_leastVoltage 13 = .ok (.invokevirtual 53, 3) := by decide +kernel
theorem dX6_leastVoltage_16 : decode cX6_leastVoltage 16 = .ok (.istore_n 2, 1) := by decide +kernel
theorem dX6_leastVoltage_17 : decode cX6_leastVoltage 17 = .ok (.iconst 0, 1) := by decide +kernel
theorem dX6_leastVoltage_18 : decode cX6_leastVoltage 18 = .ok (.istore_n 3, 1) := by decide +kernel
theorem dX6_leastVoltage_19 : decode cX6_leastVoltage 19 = .ok (.iload_n 3, 1) := by decide +kernel
theorem dX6_leastVoltage_20 : decode cX6_leastVoltage 20 = .ok (.bipush 30, 2) := by decide +kernel
theorem dX6_leastVoltage_22 : decode cX6_leastVoltage 22 = .ok (.if_icmp .gt 34, 3) := by decide +kernel
theorem dX6_leastVoltage_25 : decode cX6_leastVoltage 25 = .ok (.aload_n 0, 1) := by decide +kernel
theorem dX6_leastVoltage_26 : decode cX6_leastVoltage 26 = .ok (.iload_n 1, 1) := by decide +kernel
theorem dX6_leastVoltage_27 : decode cX6_leastVoltage 27 = .ok (.iload_n 2, 1) := by decide +kernel
theorem dX6_leastVoltage_28 : decode cX6_leastVoltage 28 = .ok (.aload_n 0, 1) := by decide +kernel
theorem dX6_leastVoltage_29 : decode cX6_leastVoltage 29 = .ok (.iload_n 1, 1) := by decide +kernel
theorem dX6_leastVoltage_30 : decode cX6_leastVoltage 30 = .ok (.iload_n 3, 1) := by decide +kernel
theorem dX6_leastVoltage_31 : decode cX6_leastVoltage 31 = .ok (.invokevirtual 70, 3) := by decide +kernel
theorem dX6_leastVoltage_34 : decode cX6_leastVoltage 34 = .ok (.aload_n 0, 1) := by decide +kernel
theorem dX6_leastVoltage_35 : decode cX6_leastVoltage 35 = .ok (.iload_n 1, 1) := by decide +kernel
theorem dX6_leastVoltage_36 : decode cX6_leastVoltage 36 = .ok (.iload_n 2, 1) := by decide +kernel
theorem dX6_leastVoltage_37 : decode cX6_leastVoltage 37 = .ok (.invokevirtual 80, 3) := by decide +kernel
theorem dX6_leastVoltage_40 : decode cX6_leastVoltage 40 = .ok (.isub, 1) := by decide +kernel
theorem dX6_leastVoltage_41 : decode cX6_leastVoltage 41 = .ok (.invokevirtual 100, 3) := by decide +kernel
theorem dX6_leastVoltage_44 : decode cX6_leastVoltage 44 = .ok (.iconst 1, 1) := by decide +kernel
theorem dX6_leastVoltage_45 : decode cX6_leastVoltage 45 = .ok (.if_icmp .ne 5, 3) := by decide +kernel
theorem dX6_leastVoltage_48 : decode cX6_leastVoltage 48 = .ok (.iload_n 3, 1) := by decide +kernel
theorem dX6_leastVoltage_49 : decode cX6_leastVoltage 49 = .ok (.ireturn, 1) := by decide +kernel
theorem dX6_leastVoltage_50 : decode cX6_leastVoltage 50 = .ok (.iinc 3 1, 3) := by decide +kernel
theorem dX6_leastVoltage_53 : decode cX6_leastVoltage 53 = .ok (.goto (-34), 3) := by decide +kernel
theorem dX6_leastVoltage_56 : decode cX6_leastVoltage 56 = .ok (.bipush (-5), 2) := by decide +kernel
theorem dX6_leastVoltage_58 : decode cX6_leastVoltage 58 = .ok (.ireturn, 1) := by decide +kernel
set_option maxRecDepth 20000 in
theorem ggX6_isDrawn_X6_of : GoodIn wsX6_isDrawn wsX6_of := goodIn_r _ [5, 6, 7, 8, 4, 9, 25, 26, 27, 28, 29, 30, 31, 32, 33, 34, 35, 36, 37, 38, 39, 40, 41, 42, 43, 44, 45, 46] (by decide +kernel) (by decide +kernel)
set_option maxRecDepth 20000 in
theorem gX6_isDrawn_X6_of : GoodIn wsX6_isDrawn (wsV RX6 53 RX6 yX6_of wsX6_of) := goodIn_app (goodIn_of _ (by decide +kernel)) ggX6_isDrawn_X6_of
set_option maxRecDepth 20000 in
theorem ggX6_isDrawn_X6_pullBy : GoodIn wsX6_isDrawn wsX6_pullBy := goodIn_r _ [13, 1, 2, 3, 4, 5, 6, 7, 8, 9, 25, 26, 27, 28, 29, 30, 31, 32, 33, 34, 35, 36, 37, 38, 39, 40, 41, 42, 43, 44, 45, 46] (by decide +kernel) (by decide +kernel)
set_option maxRecDepth 20000 in
theorem gX6_isDrawn_X6_pullBy : GoodIn wsX6_isDrawn (wsV RX6 70 RX6 yX6_pullBy wsX6_pullBy) := goodIn_app (goodIn_of _ (by decide +kernel)) ggX6_isDrawn_X6_pullBy
set_option maxRecDepth 20000 in
theorem ggX6_isDrawn_X6_spring : GoodIn wsX6_isDrawn wsX6_spring := goodIn_r _ [17, 1, 2, 3, 4, 5, 6, 7, 8, 9, 25, 26, 27, 28, 29, 30, 31, 32, 33, 34, 35, 36, 37, 38, 39, 40, 41, 42, 43, 44, 45, 46] (by decide +kernel) (by decide +kernel)
set_option maxRecDepth 20000 in
theorem gX6_isDrawn_X6_spring : GoodIn wsX6_isDrawn (wsV RX6 80 RX6 yX6_spring wsX6_spring) := goodIn_app (goodIn_of _ (by decide +kernel)) ggX6_isDrawn_X6_spring
set_option maxRecDepth 20000 in
theorem ggX6_isDrawn_X6_move : GoodIn wsX6_isDrawn wsX6_move := goodIn_r _ [21, 22, 23, 4, 24, 1, 2, 3, 5, 6, 7, 8, 9, 25, 26, 27, 28, 29, 30, 31, 32, 33, 34, 35, 36, 37, 38, 39, 40, 41, 42, 43, 44, 45, 46] (by decide +kernel) (by decide +kernel)
set_option maxRecDepth 20000 in
theorem gX6_isDrawn_X6_move : GoodIn wsX6_isDrawn (wsV RX6 100 RX6 yX6_move wsX6_move) := goodIn_app (goodIn_of _ (by decide +kernel)) ggX6_isDrawn_X6_move
theorem dX6_isDrawn_0 : decode cX6_isDrawn 0 = .ok (.aload_n 0, 1) := by decide +kernel
theorem dX6_isDrawn_1 : decode cX6_isDrawn 1 = .ok (.iload_n 1, 1) := by decide +kernel
theorem dX6_isDrawn_2 : decode cX6_isDrawn 2 = .ok (.bipush 6, 2) := by decide +kernel
theorem dX6_isDrawn_4 : decode cX6_isDrawn 4 = .ok (.invokevirtual 53, 3) := by decide +kernel
theorem dX6_isDrawn_7 : decode cX6_isDrawn 7 = .ok (.istore_n 3, 1) := by decide +kernel
theorem dX6_isDrawn_8 : decode cX6_isDrawn 8 = .ok (.iload_n 3, 1) := by decide +kernel
theorem dX6_isDrawn_9 : decode cX6_isDrawn 9 = .ok (.bipush 40, 2) := by decide +kernel
theorem dX6_isDrawn_11 : decode cX6_isDrawn 11 = .ok (.if_icmp .ge 32, 3) := by decide +kernel
theorem dX6_isDrawn_14 : decode cX6_isDrawn 14 = .ok (.aload_n 0, 1) := by decide +kernel
theorem dX6_isDrawn_15 : decode cX6_isDrawn 15 = .ok (.iload_n 1, 1) := by decide +kernel
theorem dX6_isDrawn_16 : decode cX6_isDrawn 16 = .ok (.iload_n 3, 1) := by decide +kernel
theorem dX6_isDrawn_17 : decode cX6_isDrawn 17 = .ok (.aload_n 0, 1) := by decide +kernel
theorem dX6_isDrawn_18 : decode cX6_isDrawn 18 = .ok (.iload_n 1, 1) := by decide +kernel
theorem dX6_isDrawn_19 : decode cX6_isDrawn 19 = .ok (.iload_n 2, 1) := by decide +kernel
theorem dX6_isDrawn_20 : decode cX6_isDrawn 20 = .ok (.invokevirtual 70, 3) := by decide +kernel
theorem dX6_isDrawn_23 : decode cX6_isDrawn 23 = .ok (.aload_n 0, 1) := by decide +kernel
theorem dX6_isDrawn_24 : decode cX6_isDrawn 24 = .ok (.iload_n 1, 1) := by decide +kernel
theorem dX6_isDrawn_25 : decode cX6_isDrawn 25 = .ok (.iload_n 3, 1) := by decide +kernel
theorem dX6_isDrawn_26 : decode cX6_isDrawn 26 = .ok (.invokevirtual 80, 3) := by decide +kernel
theorem dX6_isDrawn_29 : decode cX6_isDrawn 29 = .ok (.isub, 1) := by decide +kernel
theorem dX6_isDrawn_30 : decode cX6_isDrawn 30 = .ok (.invokevirtual 100, 3) := by decide +kernel
theorem dX6_isDrawn_33 : decode cX6_isDrawn 33 = .ok (.iconst 1, 1) := by decide +kernel
theorem dX6_isDrawn_34 : decode cX6_isDrawn 34 = .ok (.if_icmp .ne 9, 3) := by decide +kernel
theorem dX6_isDrawn_37 : decode cX6_isDrawn 37 = .ok (.iinc 3 1, 3) := by decide +kernel
theorem dX6_isDrawn_40 : decode cX6_isDrawn 40 = .ok (.goto (-32), 3) := by decide +kernel
theorem dX6_isDrawn_43 : decode cX6_isDrawn 43 = .ok (.iload_n 3, 1) := by decide +kernel
theorem dX6_isDrawn_44 : decode cX6_isDrawn 44 = .ok (.bipush 40, 2) := by decide +kernel
theorem dX6_isDrawn_46 : decode cX6_isDrawn 46 = .ok (.if_icmp .ne 7, 3) := by decide +kernel
theorem dX6_isDrawn_49 : decode cX6_isDrawn 49 = .ok (.iconst 1, 1) := by decide +kernel
theorem dX6_isDrawn_50 : decode cX6_isDrawn 50 = .ok (.goto 4, 3) := by decide +kernel
theorem dX6_isDrawn_53 : decode cX6_isDrawn 53 = .ok (.iconst 0, 1) := by decide +kernel
theorem dX6_isDrawn_54 : decode cX6_isDrawn 54 = .ok (.ireturn, 1) := by decide +kernel
set_option maxRecDepth 20000 in
theorem ggX6_drawingVoltage_X6_isPair : GoodIn wsX6_drawingVoltage wsX6_isPair := goodIn_r _ [4, 5, 6, 3, 7] (by decide +kernel) (by decide +kernel)
set_option maxRecDepth 20000 in
theorem gX6_drawingVoltage_X6_isPair : GoodIn wsX6_drawingVoltage (va_wsS RX6 119 yX6_isPair wsX6_isPair) := goodIn_app (goodIn_of _ (by decide +kernel)) ggX6_drawingVoltage_X6_isPair
set_option maxRecDepth 20000 in
theorem ggX6_drawingVoltage_X6_isDrawn : GoodIn wsX6_drawingVoltage wsX6_isDrawn := goodIn_r _ [11, 12, 13, 14, 3, 15, 16, 17, 18, 19, 20, 21, 22, 23, 24, 25, 26, 27, 28, 29, 30, 31, 32, 33, 34, 35, 36, 37, 38, 39, 40, 41, 42, 43, 44, 45, 46, 47, 48, 49, 50, 51, 52, 53, 54, 55, 56] (by decide +kernel) (by decide +kernel)
set_option maxRecDepth 20000 in
theorem gX6_drawingVoltage_X6_isDrawn : GoodIn wsX6_drawingVoltage (wsV RX6 220 RX6 yX6_isDrawn wsX6_isDrawn) := goodIn_app (goodIn_of _ (by decide +kernel)) ggX6_drawingVoltage_X6_isDrawn
theorem dX6_drawingVoltage_0 : decode cX6_drawingVoltage 0 = .ok (.iload_n 1, 1) := by decide +kernel
theorem dX6_drawingVoltage_1 : decode cX6_drawingVoltage 1 = .ok (.invokestatic 119, 3) := by decide +kernel
theorem dX6_drawingVoltage_4 : decode cX6_drawingVoltage 4 = .ok (.ifCond .ne 5, 3) := by decide +kernel
theorem dX6_drawingVoltage_7 : decode cX6_drawingVoltage 7 = .ok (.iconst (-1), 1) := by decide +kernel
theorem dX6_drawingVoltage_8 : decode cX6_drawingVoltage 8 = .ok (.ireturn, 1) := by decide +kernel
theorem dX6_drawingVoltage_9 : decode cX6_drawingVoltage 9 = .ok (.iconst 0, 1) := by decide +kernel
theorem dX6_drawingVoltage_10 : decode cX6_drawingVoltage 10 = .ok (.istore_n 2, 1) := by decide +kernel
theorem dX6_drawingVoltage_11 : decode cX6_drawingVoltage 11 = .ok (.iload_n 2, 1) := by decide +kernel
theorem dX6_drawingVoltage_12 : decode cX6_drawingVoltage 12 = .ok (.bipush 30, 2) := by decide +kernel
theorem dX6_drawingVoltage_14 : decode cX6_drawingVoltage 14 = .ok (.if_icmp .gt 20, 3) := by decide +kernel
theorem dX6_drawingVoltage_17 : decode cX6_drawingVoltage 17 = .ok (.aload_n 0, 1) := by decide +kernel
theorem dX6_drawingVoltage_18 : decode cX6_drawingVoltage 18 = .ok (.iload_n 1, 1) := by decide +kernel
theorem dX6_drawingVoltage_19 : decode cX6_drawingVoltage 19 = .ok (.iload_n 2, 1) := by decide +kernel
theorem dX6_drawingVoltage_20 : decode cX6_drawingVoltage 20 = .ok (.invokevirtual 220, 3) := by decide +kernel
theorem dX6_drawingVoltage_23 : decode cX6_drawingVoltage 23 = .ok (.ifCond .eq 5, 3) := by decide +kernel
theorem dX6_drawingVoltage_26 : decode cX6_drawingVoltage 26 = .ok (.iload_n 2, 1) := by decide +kernel
theorem dX6_drawingVoltage_27 : decode cX6_drawingVoltage 27 = .ok (.ireturn, 1) := by decide +kernel
theorem dX6_drawingVoltage_28 : decode cX6_drawingVoltage 28 = .ok (.iinc 2 1, 3) := by decide +kernel
theorem dX6_drawingVoltage_31 : decode cX6_drawingVoltage 31 = .ok (.goto (-20), 3) := by decide +kernel
theorem dX6_drawingVoltage_34 : decode cX6_drawingVoltage 34 = .ok (.bipush (-5), 2) := by decide +kernel
theorem dX6_drawingVoltage_36 : decode cX6_drawingVoltage 36 = .ok (.ireturn, 1) := by decide +kernel
set_option maxRecDepth 20000 in
theorem ggX6_strongest_X6_pullNow : GoodIn wsX6_strongest wsX6_pullNow := goodIn_r _ [5, 6, 7, 8, 4, 9, 10, 11, 12, 13, 14, 15, 16, 17, 18, 19, 20, 21, 22, 23, 24, 25, 26, 27, 28, 29, 30, 31, 32, 33, 34, 35, 36, 37, 38, 39, 40, 41, 42, 43, 44, 45, 46, 47, 48, 49, 50, 51, 52, 53, 54, 55] (by decide +kernel) (by decide +kernel)
set_option maxRecDepth 20000 in
theorem gX6_strongest_X6_pullNow : GoodIn wsX6_strongest (wsV RX6 198 RX6 yX6_pullNow wsX6_pullNow) := goodIn_app (goodIn_of _ (by decide +kernel)) ggX6_strongest_X6_pullNow
theorem dX6_strongest_0 : decode cX6_strongest 0 = .ok (.bipush (-5), 2) := by decide +kernel
theorem dX6_strongest_2 : decode cX6_strongest 2 = .ok (.istore_n 1, 1) := by decide +kernel
theorem dX6_strongest_3 : decode cX6_strongest 3 = .ok (.iconst 3, 1) := by decide +kernel
theorem dX6_strongest_4 : decode cX6_strongest 4 = .ok (.istore_n 2, 1) := by decide +kernel
theorem dX6_strongest_5 : decode cX6_strongest 5 = .ok (.iload_n 2, 1) := by decide +kernel
theorem dX6_strongest_6 : decode cX6_strongest 6 = .ok (.ifCond .lt 42, 3) := by decide +kernel
theorem dX6_strongest_9 : decode cX6_strongest 9 = .ok (.aload_n 0, 1) := by decide +kernel
theorem dX6_strongest_10 : decode cX6_strongest 10 = .ok (.iload_n 2, 1) := by decide +kernel
theorem dX6_strongest_11 : decode cX6_strongest 11 = .ok (.invokevirtual 198, 3) := by decide +kernel
theorem dX6_strongest_14 : decode cX6_strongest 14 = .ok (.ifCond .le 26, 3) := by decide +kernel
theorem dX6_strongest_17 : decode cX6_strongest 17 = .ok (.iload_n 1, 1) := by decide +kernel
theorem dX6_strongest_18 : decode cX6_strongest 18 = .ok (.bipush (-5), 2) := by decide +kernel
theorem dX6_strongest_20 : decode cX6_strongest 20 = .ok (.if_icmp .eq 16, 3) := by decide +kernel
theorem dX6_strongest_23 : decode cX6_strongest 23 = .ok (.aload_n 0, 1) := by decide +kernel
theorem dX6_strongest_24 : decode cX6_strongest 24 = .ok (.iload_n 2, 1) := by decide +kernel
theorem dX6_strongest_25 : decode cX6_strongest 25 = .ok (.invokevirtual 198, 3) := by decide +kernel
theorem dX6_strongest_28 : decode cX6_strongest 28 = .ok (.aload_n 0, 1) := by decide +kernel
theorem dX6_strongest_29 : decode cX6_strongest 29 = .ok (.iload_n 1, 1) := by decide +kernel
theorem dX6_strongest_30 : decode cX6_strongest 30 = .ok (.invokevirtual 198, 3) := by decide +kernel
theorem dX6_strongest_33 : decode cX6_strongest 33 = .ok (.if_icmp .lt 7, 3) := by decide +kernel
theorem dX6_strongest_36 : decode cX6_strongest 36 = .ok (.iload_n 2, 1) := by decide +kernel
theorem dX6_strongest_37 : decode cX6_strongest 37 = .ok (.goto 4, 3) := by decide +kernel
theorem dX6_strongest_40 : decode cX6_strongest 40 = .ok (.iload_n 1, 1) := by decide +kernel
theorem dX6_strongest_41 : decode cX6_strongest 41 = .ok (.istore_n 1, 1) := by decide +kernel
theorem dX6_strongest_42 : decode cX6_strongest 42 = .ok (.iinc 2 (-1), 3) := by decide +kernel
theorem dX6_strongest_45 : decode cX6_strongest 45 = .ok (.goto (-40), 3) := by decide +kernel
theorem dX6_strongest_48 : decode cX6_strongest 48 = .ok (.iload_n 1, 1) := by decide +kernel
theorem dX6_strongest_49 : decode cX6_strongest 49 = .ok (.ireturn, 1) := by decide +kernel
set_option maxRecDepth 20000 in
theorem ggX6_count_X6_of : GoodIn wsX6_count wsX6_of := goodIn_r _ [8, 1, 9, 10, 7, 11, 55, 56, 57, 58, 59, 60, 61, 62, 63, 64, 65, 66, 67, 68, 69, 70, 71, 72, 73, 74, 75, 76] (by decide +kernel) (by decide +kernel)
set_option maxRecDepth 20000 in
theorem gX6_count_X6_of : GoodIn wsX6_count (wsV RX6 53 RX6 yX6_of wsX6_of) := goodIn_app (goodIn_of _ (by decide +kernel)) ggX6_count_X6_of
set_option maxRecDepth 20000 in
theorem ggX6_count_X6_why : GoodIn wsX6_count wsX6_why := goodIn_r _ [15, 16, 17, 18, 7, 19, 4, 5, 6, 8, 1, 9, 10, 11, 20, 21, 22, 23, 24, 25, 26, 27, 28, 29, 30, 31, 32, 33, 34, 35, 36, 37, 38, 39, 40, 41, 42, 43, 44, 45, 46, 47, 48, 49, 50, 55, 56, 57, 58, 59, 60, 61, 62, 63, 64, 65, 66, 67, 68, 69, 70, 71, 72, 73, 74, 75, 76] (by decide +kernel) (by decide +kernel)
set_option maxRecDepth 20000 in
theorem gX6_count_X6_why : GoodIn wsX6_count (wsV RX6 205 RX6 yX6_why wsX6_why) := goodIn_app (goodIn_of _ (by decide +kernel)) ggX6_count_X6_why
set_option maxRecDepth 20000 in
theorem ggX6_count_X6_capacityNow : GoodIn wsX6_count wsX6_capacityNow := goodIn_r _ [54, 4, 5, 6, 7, 8, 1, 9, 10, 11, 36, 37, 38, 39, 55, 56, 57, 58, 59, 60, 61, 62, 63, 64, 65, 66, 67, 68, 69, 70, 71, 72, 73, 74, 75, 76] (by decide +kernel) (by decide +kernel)
set_option maxRecDepth 20000 in
theorem gX6_count_X6_capacityNow : GoodIn wsX6_count (wsV RX6 66 RX6 yX6_capacityNow wsX6_capacityNow) := goodIn_app (goodIn_of _ (by decide +kernel)) ggX6_count_X6_capacityNow
theorem dX6_count_0 : decode cX6_count 0 = .ok (.iconst 0, 1) := by decide +kernel
theorem dX6_count_1 : decode cX6_count 1 = .ok (.istore_n 2, 1) := by decide +kernel
theorem dX6_count_2 : decode cX6_count 2 = .ok (.iconst 0, 1) := by decide +kernel
theorem dX6_count_3 : decode cX6_count 3 = .ok (.istore_n 3, 1) := by decide +kernel
theorem dX6_count_4 : decode cX6_count 4 = .ok (.iload_n 3, 1) := by decide +kernel
theorem dX6_count_5 : decode cX6_count 5 = .ok (.iconst 4, 1) := by decide +kernel
theorem dX6_count_6 : decode cX6_count 6 = .ok (.if_icmp .ge 109, 3) := by decide +kernel
theorem dX6_count_9 : decode cX6_count 9 = .ok (.iload_n 2, 1) := by decide +kernel
theorem dX6_count_10 : decode cX6_count 10 = .ok (.iload_n 1, 1) := by decide +kernel
theorem dX6_count_11 : decode cX6_count 11 = .ok (.iconst 1, 1) := by decide +kernel
theorem dX6_count_12 : decode cX6_count 12 = .ok (.if_icmp .ne 13, 3) := by decide +kernel
theorem dX6_count_15 : decode cX6_count 15 = .ok (.aload_n 0, 1) := by decide +kernel
theorem dX6_count_16 : decode cX6_count 16 = .ok (.iload_n 3, 1) := by decide +kernel
theorem dX6_count_17 : decode cX6_count 17 = .ok (.bipush 9, 2) := by decide +kernel
theorem dX6_count_19 : decode cX6_count 19 = .ok (.invokevirtual 53, 3) := by decide +kernel
theorem dX6_count_22 : decode cX6_count 22 = .ok (.goto 85, 3) := by decide +kernel
theorem dX6_count_25 : decode cX6_count 25 = .ok (.iload_n 1, 1) := by decide +kernel
theorem dX6_count_26 : decode cX6_count 26 = .ok (.iconst 2, 1) := by decide +kernel
theorem dX6_count_27 : decode cX6_count 27 = .ok (.if_icmp .ne 20, 3) := by decide +kernel
theorem dX6_count_30 : decode cX6_count 30 = .ok (.aload_n 0, 1) := by decide +kernel
theorem dX6_count_31 : decode cX6_count 31 = .ok (.iload_n 3, 1) := by decide +kernel
theorem dX6_count_32 : decode cX6_count 32 = .ok (.invokevirtual 205, 3) := by decide +kernel
theorem dX6_count_35 : decode cX6_count 35 = .ok (.iconst 2, 1) := by decide +kernel
theorem dX6_count_36 : decode cX6_count 36 = .ok (.if_icmp .ge 7, 3) := by decide +kernel
theorem dX6_count_39 : decode cX6_count 39 = .ok (.iconst 1, 1) := by decide +kernel
theorem dX6_count_40 : decode cX6_count 40 = .ok (.goto 67, 3) := by decide +kernel
theorem dX6_count_43 : decode cX6_count 43 = .ok (.iconst 0, 1) := by decide +kernel
theorem dX6_count_44 : decode cX6_count 44 = .ok (.goto 63, 3) := by decide +kernel
theorem dX6_count_47 : decode cX6_count 47 = .ok (.iload_n 1, 1) := by decide +kernel
theorem dX6_count_48 : decode cX6_count 48 = .ok (.iconst 3, 1) := by decide +kernel
theorem dX6_count_49 : decode cX6_count 49 = .ok (.if_icmp .ne 13, 3) := by decide +kernel
theorem dX6_count_52 : decode cX6_count 52 = .ok (.aload_n 0, 1) := by decide +kernel
theorem dX6_count_53 : decode cX6_count 53 = .ok (.iload_n 3, 1) := by decide +kernel
theorem dX6_count_54 : decode cX6_count 54 = .ok (.bipush 7, 2) := by decide +kernel
theorem dX6_count_56 : decode cX6_count 56 = .ok (.invokevirtual 53, 3) := by decide +kernel
theorem dX6_count_59 : decode cX6_count 59 = .ok (.goto 48, 3) := by decide +kernel
theorem dX6_count_62 : decode cX6_count 62 = .ok (.iload_n 1, 1) := by decide +kernel
theorem dX6_count_63 : decode cX6_count 63 = .ok (.iconst 4, 1) := by decide +kernel
theorem dX6_count_64 : decode cX6_count 64 = .ok (.if_icmp .ne 11, 3) := by decide +kernel
theorem dX6_count_67 : decode cX6_count 67 = .ok (.aload_n 0, 1) := by decide +kernel
theorem dX6_count_68 : decode cX6_count 68 = .ok (.iload_n 3, 1) := by decide +kernel
theorem dX6_count_69 : decode cX6_count 69 = .ok (.invokevirtual 66, 3) := by decide +kernel
theorem dX6_count_72 : decode cX6_count 72 = .ok (.goto 35, 3) := by decide +kernel
theorem dX6_count_75 : decode cX6_count 75 = .ok (.iload_n 1, 1) := by decide +kernel
theorem dX6_count_76 : decode cX6_count 76 = .ok (.iconst 5, 1) := by decide +kernel
theorem dX6_count_77 : decode cX6_count 77 = .ok (.if_icmp .ne 13, 3) := by decide +kernel
theorem dX6_count_80 : decode cX6_count 80 = .ok (.aload_n 0, 1) := by decide +kernel
theorem dX6_count_81 : decode cX6_count 81 = .ok (.iload_n 3, 1) := by decide +kernel
theorem dX6_count_82 : decode cX6_count 82 = .ok (.bipush 6, 2) := by decide +kernel
theorem dX6_count_84 : decode cX6_count 84 = .ok (.invokevirtual 53, 3) := by decide +kernel
theorem dX6_count_87 : decode cX6_count 87 = .ok (.goto 20, 3) := by decide +kernel
theorem dX6_count_90 : decode cX6_count 90 = .ok (.aload_n 0, 1) := by decide +kernel
theorem dX6_count_91 : decode cX6_count 91 = .ok (.iload_n 3, 1) := by decide +kernel
theorem dX6_count_92 : decode cX6_count 92 = .ok (.bipush 6, 2) := by decide +kernel
theorem dX6_count_94 : decode cX6_count 94 = .ok (.invokevirtual 53, 3) := by decide +kernel
theorem dX6_count_97 : decode cX6_count 97 = .ok (.bipush 40, 2) := by decide +kernel
theorem dX6_count_99 : decode cX6_count 99 = .ok (.if_icmp .ne 7, 3) := by decide +kernel
theorem dX6_count_102 : decode cX6_count 102 = .ok (.iconst 1, 1) := by decide +kernel
theorem dX6_count_103 : decode cX6_count 103 = .ok (.goto 4, 3) := by decide +kernel
theorem dX6_count_106 : decode cX6_count 106 = .ok (.iconst 0, 1) := by decide +kernel
theorem dX6_count_107 : decode cX6_count 107 = .ok (.iadd, 1) := by decide +kernel
theorem dX6_count_108 : decode cX6_count 108 = .ok (.istore_n 2, 1) := by decide +kernel
theorem dX6_count_109 : decode cX6_count 109 = .ok (.iinc 3 1, 3) := by decide +kernel
theorem dX6_count_112 : decode cX6_count 112 = .ok (.goto (-108), 3) := by decide +kernel
theorem dX6_count_115 : decode cX6_count 115 = .ok (.iload_n 1, 1) := by decide +kernel
theorem dX6_count_116 : decode cX6_count 116 = .ok (.tableswitch 93 0 10 #[60, 67, 67, 67, 67, 67, 67, 69, 76, 83, 88], 60) := by decide +kernel
theorem dX6_count_176 : decode cX6_count 176 = .ok (.aload_n 0, 1) := by decide +kernel
theorem dX6_count_177 : decode cX6_count 177 = .ok (.getfield 7, 3) := by decide +kernel
theorem dX6_count_180 : decode cX6_count 180 = .ok (.iconst 0, 1) := by decide +kernel
theorem dX6_count_181 : decode cX6_count 181 = .ok (.iaload, 1) := by decide +kernel
theorem dX6_count_182 : decode cX6_count 182 = .ok (.ireturn, 1) := by decide +kernel
theorem dX6_count_183 : decode cX6_count 183 = .ok (.iload_n 2, 1) := by decide +kernel
theorem dX6_count_184 : decode cX6_count 184 = .ok (.ireturn, 1) := by decide +kernel
theorem dX6_count_185 : decode cX6_count 185 = .ok (.aload_n 0, 1) := by decide +kernel
theorem dX6_count_186 : decode cX6_count 186 = .ok (.getfield 7, 3) := by decide +kernel
theorem dX6_count_189 : decode cX6_count 189 = .ok (.iconst 1, 1) := by decide +kernel
theorem dX6_count_190 : decode cX6_count 190 = .ok (.iaload, 1) := by decide +kernel
theorem dX6_count_191 : decode cX6_count 191 = .ok (.ireturn, 1) := by decide +kernel
theorem dX6_count_192 : decode cX6_count 192 = .ok (.aload_n 0, 1) := by decide +kernel
theorem dX6_count_193 : decode cX6_count 193 = .ok (.getfield 7, 3) := by decide +kernel
theorem dX6_count_196 : decode cX6_count 196 = .ok (.iconst 2, 1) := by decide +kernel
theorem dX6_count_197 : decode cX6_count 197 = .ok (.iaload, 1) := by decide +kernel
theorem dX6_count_198 : decode cX6_count 198 = .ok (.ireturn, 1) := by decide +kernel
theorem dX6_count_199 : decode cX6_count 199 = .ok (.aload_n 0, 1) := by decide +kernel
theorem dX6_count_200 : decode cX6_count 200 = .ok (.getfield 56, 3) := by decide +kernel
theorem dX6_count_203 : decode cX6_count 203 = .ok (.ireturn, 1) := by decide +kernel
theorem dX6_count_204 : decode cX6_count 204 = .ok (.aload_n 0, 1) := by decide +kernel
theorem dX6_count_205 : decode cX6_count 205 = .ok (.getfield 149, 3) := by decide +kernel
theorem dX6_count_208 : decode cX6_count 208 = .ok (.ireturn, 1) := by decide +kernel
theorem dX6_count_209 : decode cX6_count 209 = .ok (.bipush (-2), 2) := by decide +kernel
theorem dX6_count_211 : decode cX6_count 211 = .ok (.ireturn, 1) := by decide +kernel
theorem dJ9_floorDiv_f86c9_0 : decode cJ9_floorDiv_f86c9 0 = .ok (.lload_n 0, 1) := by decide +kernel
theorem dJ9_floorDiv_f86c9_1 : decode cJ9_floorDiv_f86c9 1 = .ok (.lload_n 2, 1) := by decide +kernel
theorem dJ9_floorDiv_f86c9_2 : decode cJ9_floorDiv_f86c9 2 = .ok (.ldiv, 1) := by decide +kernel
theorem dJ9_floorDiv_f86c9_3 : decode cJ9_floorDiv_f86c9 3 = .ok (.lstore 4, 2) := by decide +kernel
theorem dJ9_floorDiv_f86c9_5 : decode cJ9_floorDiv_f86c9 5 = .ok (.lload_n 0, 1) := by decide +kernel
theorem dJ9_floorDiv_f86c9_6 : decode cJ9_floorDiv_f86c9 6 = .ok (.lload_n 2, 1) := by decide +kernel
theorem dJ9_floorDiv_f86c9_7 : decode cJ9_floorDiv_f86c9 7 = .ok (.lxor, 1) := by decide +kernel
theorem dJ9_floorDiv_f86c9_8 : decode cJ9_floorDiv_f86c9 8 = .ok (.lconst 0, 1) := by decide +kernel
theorem dJ9_floorDiv_f86c9_9 : decode cJ9_floorDiv_f86c9 9 = .ok (.lcmp, 1) := by decide +kernel
theorem dJ9_floorDiv_f86c9_10 : decode cJ9_floorDiv_f86c9 10 = .ok (.ifCond .ge 17, 3) := by decide +kernel
theorem dJ9_floorDiv_f86c9_13 : decode cJ9_floorDiv_f86c9 13 = .ok (.lload 4, 2) := by decide +kernel
theorem dJ9_floorDiv_f86c9_15 : decode cJ9_floorDiv_f86c9 15 = .ok (.lload_n 2, 1) := by decide +kernel
theorem dJ9_floorDiv_f86c9_16 : decode cJ9_floorDiv_f86c9 16 = .ok (.lmul, 1) := by decide +kernel
theorem dJ9_floorDiv_f86c9_17 : decode cJ9_floorDiv_f86c9 17 = .ok (.lload_n 0, 1) := by decide +kernel
theorem dJ9_floorDiv_f86c9_18 : decode cJ9_floorDiv_f86c9 18 = .ok (.lcmp, 1) := by decide +kernel
theorem dJ9_floorDiv_f86c9_19 : decode cJ9_floorDiv_f86c9 19 = .ok (.ifCond .eq 8, 3) := by decide +kernel
theorem dJ9_floorDiv_f86c9_22 : decode cJ9_floorDiv_f86c9 22 = .ok (.lload 4, 2) := by decide +kernel
theorem dJ9_floorDiv_f86c9_24 : decode cJ9_floorDiv_f86c9 24 = .ok (.lconst 1, 1) := by decide +kernel
theorem dJ9_floorDiv_f86c9_25 : decode cJ9_floorDiv_f86c9 25 = .ok (.lsub, 1) := by decide +kernel
theorem dJ9_floorDiv_f86c9_26 : decode cJ9_floorDiv_f86c9 26 = .ok (.lreturn, 1) := by decide +kernel
theorem dJ9_floorDiv_f86c9_27 : decode cJ9_floorDiv_f86c9 27 = .ok (.lload 4, 2) := by decide +kernel
theorem dJ9_floorDiv_f86c9_29 : decode cJ9_floorDiv_f86c9 29 = .ok (.lreturn, 1) := by decide +kernel
theorem dJ9_abs_0f7a4_0 : decode cJ9_abs_0f7a4 0 = .ok (.iload_n 0, 1) := by decide +kernel
theorem dJ9_abs_0f7a4_1 : decode cJ9_abs_0f7a4 1 = .ok (.ifCond .ge 8, 3) := by decide +kernel
theorem dJ9_abs_0f7a4_4 : decode cJ9_abs_0f7a4 4 = .ok (.iload_n 0, 1) := by decide +kernel
theorem dJ9_abs_0f7a4_5 : decode cJ9_abs_0f7a4 5 = .ok (.ineg, 1) := by decide +kernel
theorem dJ9_abs_0f7a4_6 : decode cJ9_abs_0f7a4 6 = .ok (.goto 4, 3) := by decide +kernel
theorem dJ9_abs_0f7a4_9 : decode cJ9_abs_0f7a4 9 = .ok (.iload_n 0, 1) := by decide +kernel
theorem dJ9_abs_0f7a4_10 : decode cJ9_abs_0f7a4 10 = .ok (.ireturn, 1) := by decide +kernel
end
section
/-! worlds as lists of blocks; readers and movers: two forms of contract; calls of them -/
def fl (bs : List va_W) : va_W := bs.flatten
theorem fl_cons (b : va_W) (bs : List va_W) : fl (b :: bs) = b ++ fl bs := rfl
theorem fl_two (b c : va_W) (bs : List va_W) : fl (b :: c :: bs) = (b ++ c) ++ fl bs := by
  show b ++ (c ++ fl bs) = _
  exact (List.append_assoc b c (fl bs)).symm
theorem fl_app (as bs : List va_W) : fl (as ++ bs) = fl as ++ fl bs := by
  show (as ++ bs).flatten = _
  exact List.flatten_append
theorem wP_mem {D : va_G} {cl : List vw_C} {ws : va_W} {H : Heap} : va_P D cl ws H ↔ ∀ q ∈ ws, va_at D cl q H := by
  refine ⟨fun h q hq => ?_, fun h k q hk => h q (List.mem_of_getElem? hk)⟩
  obtain ⟨k, hk⟩ := List.getElem?_of_mem hq
  exact h k q hk
theorem wP_of {D : va_G} {cl : List vw_C} {ws ws' : va_W} {H : Heap} (h : va_P D cl ws H) (hs : ∀ q ∈ ws', q ∈ ws) : va_P D cl ws' H :=
  wP_mem.mpr fun q hq => wP_mem.mp h q (hs q hq)
theorem wD_iff {A : Nat → Prop} {ws : va_W} : va_D A ws ↔ (ws.map Prod.fst).Nodup ∧ ∀ q ∈ ws, A q.1 := by
  have h2 : (∀ (k : Nat) (q : Nat × va_E), ws[k]? = some q → A q.1) ↔ ∀ q ∈ ws, A q.1 :=
    ⟨fun h q hq => by obtain ⟨k, hk⟩ := List.getElem?_of_mem hq; exact h k q hk, fun h k q hk => h q (List.mem_of_getElem? hk)⟩
  have h1 : (∀ (i j : Nat) (p q : Nat × va_E), ws[i]? = some p → ws[j]? = some q → p.1 = q.1 → i = j) ↔ (ws.map Prod.fst).Nodup := by
    induction ws with
    | nil => exact ⟨fun _ => List.nodup_nil, fun _ i j p q h => by simp at h⟩
    | cons w ws ih =>
      rw [List.map_cons, List.nodup_cons, ← ih ⟨fun h q hq => by obtain ⟨k, hk⟩ := List.getElem?_of_mem hq; exact h k q hk, fun h k q hk => h q (List.mem_of_getElem? hk)⟩]
      refine ⟨fun h => ⟨fun hm => ?_, fun i j p q hi hj e => ?_⟩, fun ⟨hn, h⟩ i j p q hi hj e => ?_⟩
      · obtain ⟨x, hx, hxe⟩ := List.mem_map.mp hm
        obtain ⟨k, hk⟩ := List.getElem?_of_mem hx
        have := h 0 (k + 1) w x rfl (by simpa using hk) hxe.symm
        omega
      · have := h (i + 1) (j + 1) p q (by simpa using hi) (by simpa using hj) e
        omega
      · cases i with
        | zero =>
          cases j with
          | zero => rfl
          | succ j =>
            simp at hi hj
            subst hi
            exact absurd (List.mem_map.mpr ⟨q, List.mem_of_getElem? hj, e.symm⟩) hn
        | succ i =>
          cases j with
          | zero =>
            simp at hi hj
            subst hj
            exact absurd (List.mem_map.mpr ⟨p, List.mem_of_getElem? hi, e⟩) hn
          | succ j =>
            simp at hi hj
            rw [h i j p q hi hj e]
  unfold va_D
  rw [h1, h2]
theorem wP_perm {D : va_G} {cl : List vw_C} {ws ws' : va_W} {H : Heap} (hp : ws.Perm ws') (h : va_P D cl ws H) : va_P D cl ws' H :=
  wP_of h fun q hq => hp.mem_iff.mpr hq
theorem wD_perm {A : Nat → Prop} {ws ws' : va_W} (hp : ws.Perm ws') (h : va_D A ws) : va_D A ws' := by
  rw [wD_iff] at h ⊢
  exact ⟨(hp.map Prod.fst).nodup_iff.mp h.1, fun q hq => h.2 q (hp.mem_iff.mpr hq)⟩
theorem wD_addr {A : Nat → Prop} {ws ws' : va_W} (e : ws.map Prod.fst = ws'.map Prod.fst) (h : va_D A ws) : va_D A ws' := by
  rw [wD_iff] at h ⊢
  refine ⟨by rw [← e]; exact h.1, fun q hq => ?_⟩
  have hm : q.1 ∈ ws.map Prod.fst := by rw [e]; exact List.mem_map.mpr ⟨q, hq, rfl⟩
  obtain ⟨x, hx, hxe⟩ := List.mem_map.mp hm
  rw [← hxe]
  exact h.2 x hx
theorem wA_addr {ws ws' : va_W} {sz : Nat} (e : ws.map Prod.fst = ws'.map Prod.fst) : va_A ws sz = va_A ws' sz := by
  have key : ∀ {ws ws' : va_W}, ws.map Prod.fst = ws'.map Prod.fst → ∀ q, va_A ws sz q → va_A ws' sz q := by
    intro ws ws' e q h
    rcases h with ⟨k, x, h⟩ | h
    · have hm : q ∈ ws'.map Prod.fst := by rw [← e]; exact List.mem_map.mpr ⟨(q, x), List.mem_of_getElem? h, rfl⟩
      obtain ⟨y, hy, hye⟩ := List.mem_map.mp hm
      obtain ⟨j, hj⟩ := List.getElem?_of_mem hy
      exact Or.inl ⟨j, y.2, by rw [hj, ← hye]⟩
    · exact Or.inr h
  exact funext fun q => propext ⟨key e q, key e.symm q⟩
theorem wD_left {A : Nat → Prop} {w1 w2 : va_W} (h : va_D A (w1 ++ w2)) : va_D A w1 := by
  rw [wD_iff] at h ⊢
  rw [List.map_append, List.nodup_append] at h
  exact ⟨h.1.1, fun q hq => h.2 q (List.mem_append_left _ hq)⟩
theorem wD_right {A : Nat → Prop} {w1 w2 : va_W} (h : va_D A (w1 ++ w2)) : va_D A w2 := by
  rw [wD_iff] at h ⊢
  rw [List.map_append, List.nodup_append] at h
  exact ⟨h.1.2.1, fun q hq => h.2 q (List.mem_append_right _ hq)⟩
theorem wP_left {D : va_G} {cl : List vw_C} {w1 w2 : va_W} {H : Heap} (h : va_P D cl (w1 ++ w2) H) : va_P D cl w1 H := wP_of h fun _ hq => List.mem_append_left _ hq
theorem wP_right {D : va_G} {cl : List vw_C} {w1 w2 : va_W} {H : Heap} (h : va_P D cl (w1 ++ w2) H) : va_P D cl w2 H := wP_of h fun _ hq => List.mem_append_right _ hq
theorem wA_mem {ws : va_W} {sz q : Nat} : va_A ws sz q ↔ q ∈ ws.map Prod.fst ∨ sz ≤ q := by
  refine or_congr ⟨fun ⟨k, e, h⟩ => List.mem_map.mpr ⟨(q, e), List.mem_of_getElem? h, rfl⟩, fun h => ?_⟩ Iff.rfl
  obtain ⟨y, hy, hye⟩ := List.mem_map.mp h
  obtain ⟨j, hj⟩ := List.getElem?_of_mem hy
  exact ⟨j, y.2, by rw [hj, ← hye]⟩
theorem fr_free {A0 : Nat → Prop} {wc wr : va_W} {H0 H : Heap} {locs : List Loc} (hD : va_D A0 (wc ++ wr)) (hS : va_S A0 H0 H locs) (hA : ∀ q, H0.size ≤ q → A0 q) : ∀ q, va_A wc H.size q → A0 q := by
  intro q h
  rcases wA_mem.mp h with h | h
  · obtain ⟨x, hx, hxe⟩ := List.mem_map.mp h
    rw [← hxe]
    exact (wD_iff.mp hD).2 x (List.mem_append_left _ hx)
  · exact hA q (Nat.le_trans hS.1 h)
theorem fr_join {A0 : Nat → Prop} {D : va_G} {cl : List vw_C} {wc wr w1 : va_W} {H H1 : Heap} (hP : va_P D cl (wc ++ wr) H) (hD : va_D A0 (wc ++ wr))
    (hk : ∀ q : Nat, q < H.size → ¬ va_A wc H.size q → H1[q]? = H[q]?) (hF : ∀ q, va_A wc H.size q → A0 q) (hP1 : va_P D cl w1 H1) (hD1 : va_D (va_A wc H.size) w1) : va_P D cl (w1 ++ wr) H1 ∧ va_D A0 (w1 ++ wr) := by
  have hN := (wD_iff.mp hD).1
  rw [List.map_append, List.nodup_append] at hN
  have apart : ∀ q ∈ wr, q.1 < H.size ∧ ¬ va_A wc H.size q.1 := by
    intro q hq
    have hl := (wP_mem.mp hP q (List.mem_append_right _ hq)).lt
    refine ⟨hl, fun h => ?_⟩
    rcases wA_mem.mp h with h | h
    · exact hN.2.2 q.1 h q.1 (List.mem_map.mpr ⟨q, hq, rfl⟩) rfl
    · omega
  have hPr : va_P D cl wr H1 := wP_mem.mpr fun q hq => (wP_mem.mp hP q (List.mem_append_right _ hq)).kept (hk q.1 (apart q hq).1 (apart q hq).2)
  refine ⟨va_P.app hP1 hPr, va_D.app (hD1.weaken (fun _ q _ h => hF q.1 h)) (wD_right hD) (fun i j x y hx hy hxy => ?_)⟩
  exact (apart y (List.mem_of_getElem? hy)).2 (by rw [← hxy]; exact hD1.2 i x hx)
theorem range_get {α : Type} : ∀ l : List α, (List.range l.length).filterMap (fun i => l[i]?) = l
  | [] => rfl
  | x :: l => by
    rw [List.length_cons, List.range_succ_eq_map, List.filterMap_cons, List.filterMap_map]
    exact congrArg (fun z => x :: z) (range_get l)
/-- blocks in another order, by places -/
theorem fl_perm (bs : List va_W) (is : List Nat) {bs' : List va_W} (h : is.isPerm (List.range bs.length) = true) (e : is.filterMap (fun i => bs[i]?) = bs') : (fl bs).Perm (fl bs') := by
  have h1 : is.Perm (List.range bs.length) := List.isPerm_iff.mp h
  have h2 : (is.filterMap (fun i => bs[i]?)).Perm ((List.range bs.length).filterMap (fun i => bs[i]?)) := h1.filterMap _
  rw [range_get, e] at h2
  have key : ∀ {l l' : List va_W}, l.Perm l' → (fl l).Perm (fl l') := by
    intro l l' hp
    induction hp with
    | nil => exact List.Perm.refl _
    | cons x _ ih => exact List.Perm.append_left x ih
    | swap x y l =>
      rw [fl_two, fl_two]
      exact List.Perm.append_right _ List.perm_append_comm
    | trans _ _ i1 i2 => exact i1.trans i2
  exact (key h2).symm
theorem bP {D : va_G} {cl : List vw_C} {bs bs' : List va_W} {H : Heap} (h : va_P D cl (fl bs) H) (is : List Nat) (hi : is.isPerm (List.range bs.length) = true) (e : is.filterMap (fun i => bs[i]?) = bs') : va_P D cl (fl bs') H := wP_perm (fl_perm bs is hi e) h
theorem bD {A : Nat → Prop} {bs bs' : List va_W} (h : va_D A (fl bs)) (is : List Nat) (hi : is.isPerm (List.range bs.length) = true) (e : is.filterMap (fun i => bs[i]?) = bs') : va_D A (fl bs') := wD_perm (fl_perm bs is hi e) h
/-- arrays that agree within their length are one cell -/
theorem cell_i {cA : ClassId} {n : Nat} {f g : Nat → Int32} (h : ∀ j, j < n → f j = g j) : vp_cell cA (n, .inl f) = vp_cell cA (n, .inl g) := by
  rw [vp_cell_i, vp_cell_i]
  unfold arrV
  congr 2
  funext j
  exact congrArg Value.int (h j.val j.isLt)
theorem cell_l {cA : ClassId} {n : Nat} {f g : Nat → Int64} (h : ∀ j, j < n → f j = g j) : vp_cell cA (n, .inr (.inl f)) = vp_cell cA (n, .inr (.inl g)) := by
  rw [vp_cell_l, vp_cell_l]
  unfold arrV
  congr 2
  funext j
  exact congrArg Value.long (h j.val j.isLt)
theorem cell_q {cA : ClassId} {n : Nat} {f g : Nat → Option Nat} (h : ∀ j, j < n → f j = g j) : vp_cell cA (n, .inr (.inr (.inr (.inr f)))) = vp_cell cA (n, .inr (.inr (.inr (.inr g)))) := by
  rw [vp_cell_q, vp_cell_q]
  unfold arrV
  congr 2
  funext j
  exact congrArg va_rf (h j.val j.isLt)
theorem at_i {D : va_G} {cl : List vw_C} {a n : Nat} {cA : ClassId} {f g : Nat → Int32} {H : Heap} (h : ∀ j, j < n → f j = g j) (k : va_at D cl (a, .inl (cA, n, .inl f)) H) : va_at D cl (a, .inl (cA, n, .inl g)) H := by
  show H[a]? = some _
  rw [← cell_i h]
  exact k
theorem at_l {D : va_G} {cl : List vw_C} {a n : Nat} {cA : ClassId} {f g : Nat → Int64} {H : Heap} (h : ∀ j, j < n → f j = g j) (k : va_at D cl (a, .inl (cA, n, .inr (.inl f))) H) : va_at D cl (a, .inl (cA, n, .inr (.inl g))) H := by
  show H[a]? = some _
  rw [← cell_l h]
  exact k
/-- one place of a world, said otherwise -/
theorem wP_re {D : va_G} {cl : List vw_C} {ws : va_W} {H : Heap} (h : va_P D cl ws H) (k : Nat) {a : Nat} {x y : va_E} (hk : ws[k]? = some (a, x)) (he : va_at D cl (a, x) H → va_at D cl (a, y) H) : va_P D cl (ws.set k (a, y)) H := by
  have hl := (List.getElem?_eq_some_iff.mp hk).1
  intro j q hj
  by_cases hjk : j = k
  · subst hjk
    rw [List.getElem?_set_self hl] at hj
    cases hj
    exact he (h j _ hk)
  · rw [List.getElem?_set_ne (Ne.symm hjk)] at hj
    exact h j q hj
/-! the kinds of arrays; what nest mates and reference arrays need -/
def tyL (T : Nat → ClassId) : List (ClassId × FieldType) := [(T 0, .int), (T 1, .long), (T 2, .char), (T 3, .object RX1), (T 4, .object RX2)]
def nsM : List Cond := [.methodLinkNest RX2 17 yX1_init RX5, .methodLinkNest RX5 31 yX1_init RX5, .methodLinkNest RX5 38 yX4_init RX5, .methodLinkNest RX4 11 yX3_init RX5, .methodLinkNest RX2 32 yX5_isPair RX5, .methodLinkNest RX2 60 yX5_isDepth RX5, .methodLinkNest RX4 74 yX5_isPair RX5]
def XN (U : State) : Prop := (∀ w ∈ nsM, va_Nw w U) ∧ va_AO RX1 U ∧ va_AO RX2 U
theorem XN_warm {s U : State} (hW : s.WarmedH U.vm) (h : XN s) : XN U := by
  refine ⟨fun w hw => ?_, h.2.1.moved hW.alike, h.2.2.moved hW.alike⟩
  have k := h.1 w hw
  simp only [nsM, List.mem_cons, List.not_mem_nil, or_false] at hw
  rcases hw with rfl | rfl | rfl | rfl | rfl | rfl | rfl <;> exact va_Nw.warmM hW k
theorem XN_same {u U : State} (e : u.vm = U.vm) (h : XN u) : XN U := by
  refine ⟨fun w hw => ?_, h.2.1.moved (by rw [e]; exact Vm.Alike.refl _), h.2.2.moved (by rw [e]; exact Vm.Alike.refl _)⟩
  have k := h.1 w hw
  simp only [nsM, List.mem_cons, List.not_mem_nil, or_false] at hw
  rcases hw with rfl | rfl | rfl | rfl | rfl | rfl | rfl <;> exact va_Nw.same rfl e k
def xN : (Nat → Prop) → State → Prop := fun _ U => XN U
def xBl (X : (Nat → Prop) → State → Prop) : Prop := ∀ (A : Nat → Prop) (U : State) (g : JFrame) (mk : MethodId) (a : Array Value), X A U → X A (U.calling g mk a)
theorem xN_bl : xBl xN := fun _ U g mk a h => XN_same (u := U) (U := U.calling g mk a) rfl h
end
section
/-! two forms of contract: a reader leaves the heap, a mover has a world -/
def rdP (T : Nat → ClassId) (X : (Nat → Prop) → State → Prop) (D : va_G) (as : List Value) (wc : va_W) : Array Value → State → Prop := fun v U => v = as.toArray ∧ va_P D vwCl wc U.heap ∧ va_K D vwCl (tyL T) U ∧ X (fun _ => False) U
def muP (T : Nat → ClassId) (X : (Nat → Prop) → State → Prop) (D : va_G) (as : List Value) (wc : va_W) (sz : Nat) : Array Value → State → Prop := fun v U => v = as.toArray ∧ U.heap.size = sz ∧ va_P D vwCl wc U.heap ∧ va_K D vwCl (tyL T) U ∧ va_D (fun _ => True) wc ∧ X (va_A wc sz) U
theorem rdP_bl {T : Nat → ClassId} {X : (Nat → Prop) → State → Prop} {D : va_G} {as : List Value} {wc : va_W} (hX : xBl X) : FrameBlind (rdP T X D as wc) := fun a U g mk q => by
  obtain ⟨q0, qP, qK, qX⟩ := q
  exact ⟨q0, qP, va_K.moved (u := U) (U := U.calling g mk a) (Vm.Alike.refl U.vm) qK, hX _ U g mk a qX⟩
theorem muP_bl {T : Nat → ClassId} {X : (Nat → Prop) → State → Prop} {D : va_G} {as : List Value} {wc : va_W} {sz : Nat} (hX : xBl X) : FrameBlind (muP T X D as wc sz) := fun a U g mk q => by
  obtain ⟨q0, q1, qP, qK, qD, qX⟩ := q
  exact ⟨q0, q1, qP, va_K.moved (u := U) (U := U.calling g mk a) (Vm.Alike.refl U.vm) qK, qD, hX _ U g mk a qX⟩
abbrev RdI (l : Launch) (y : MethodName) (ws : List Cond) (rm : Room) (T : Nat → ClassId) (X : (Nat → Prop) → State → Prop) (D : va_G) (as : List Value) (wc : va_W) (post : Int32 → Prop) : Prop := Met l y ws rm (rdP T X D as wc) (vp_Si post) 0 0 (fun _ => False)
abbrev RdL (l : Launch) (y : MethodName) (ws : List Cond) (rm : Room) (T : Nat → ClassId) (X : (Nat → Prop) → State → Prop) (D : va_G) (as : List Value) (wc : va_W) (post : Int64 → Prop) : Prop := Met l y ws rm (rdP T X D as wc) (vp_Sl post) 0 0 (fun _ => False)
def muW (D : va_G) (A : Nat → Prop) {S : Type} (W' : S → va_W) : S → State → Prop := fun u t => va_P D vwCl (W' u) t.heap ∧ va_D A (W' u)
abbrev MuI (l : Launch) (y : MethodName) (ws : List Cond) (rm : Room) (T : Nat → ClassId) (X : (Nat → Prop) → State → Prop) (D : va_G) (as : List Value) (wc : va_W) {S : Type} (post : Int32 → S → Prop) (W' : S → va_W) (mc ms : Nat) : Prop := ∀ sz : Nat, Met l y ws rm (muP T X D as wc sz) (va_Qi post (muW D (va_A wc sz) W') (va_A wc sz)) mc ms (va_A wc sz)
abbrev MuV (l : Launch) (y : MethodName) (ws : List Cond) (rm : Room) (T : Nat → ClassId) (X : (Nat → Prop) → State → Prop) (D : va_G) (as : List Value) (wc : va_W) {S : Type} (post : S → Prop) (W' : S → va_W) (mc ms : Nat) : Prop := ∀ sz : Nat, Met l y ws rm (muP T X D as wc sz) (va_Qv post (muW D (va_A wc sz) W') (va_A wc sz)) mc ms (va_A wc sz)
/-! a method's body, from its entry: what a proof of it is given -/
section BODY
variable {l : Launch} {y : MethodName} {ws ws' : List Cond} {rm : Room} {T : Nat → ClassId} {X : (Nat → Prop) → State → Prop} {D : va_G} {as : List Value} {wc : va_W} {cc : ByteArray} {maxL : Nat}
theorem met_ri {post : Int32 → Prop} (hy : plainName y.cls = true) (hw : ws = Cond.code y cc maxL (some .int) :: ws') (hn : (lg_sl as).length ≤ maxL)
    (body : ∀ (p : Program) (e : Env) (s : State) (m : MethodId) (args : Array Value) (below : List Frame) (meth : Method) (c : Code) (H : Heap) (ls : Array Slot) (Q : State → Prop), p.tables.exec = Jvm.exec → c.code = cc → (∀ w ∈ ws, w.before args s = true) → s.vm.findClass y.cls = some m.cls → c.maxLocals = maxL → X (fun _ => False) s → s.heap = H → va_P D vwCl wc H → va_K D vwCl (tyL T) s → lv_has ls maxL (lv_args 0 as) →
      (∀ (r : Int32) (ls' : Array Slot) (pc : Nat), decode cc pc = .ok (.ireturn, 1) → post r → W p l e rm s m args below meth c H [] 0 0 Q (F0 m pc ls' [.int r])) → W p l e rm s m args below meth c H [] 0 0 Q (F0 m 0 ls [])) : RdI l y ws rm T X D as wc post := by
  refine Met.ofW (cc := cc) (maxL := maxL) (ret := some .int) hy hw ?_
  intro p e s m args below meth c s₁ B hml hv
  obtain ⟨rfl, hP, hK, hX⟩ := hv
  have hlocks := B.notSynchronized
  have hl := lv_entry as (n := maxL) hn
  rw [lg_entry_eq]
  refine body p e s m _ below meth c s.heap _ _ B.exec B.bytes (atoms_spec B.pre) (findClass_of_methodNamed B.named) hml hX rfl hP hK hl ?_
  intro r ls' pc hd hpost
  exact W.iret B.exec B.bytes B.returns (fun t ht hW => ⟨r, rfl, hpost, ht⟩) (fun _ h => absurd h List.not_mem_nil) hd
theorem met_rl {post : Int64 → Prop} (hy : plainName y.cls = true) (hw : ws = Cond.code y cc maxL (some .long) :: ws') (hn : (lg_sl as).length ≤ maxL)
    (body : ∀ (p : Program) (e : Env) (s : State) (m : MethodId) (args : Array Value) (below : List Frame) (meth : Method) (c : Code) (H : Heap) (ls : Array Slot) (Q : State → Prop), p.tables.exec = Jvm.exec → c.code = cc → (∀ w ∈ ws, w.before args s = true) → s.vm.findClass y.cls = some m.cls → c.maxLocals = maxL → X (fun _ => False) s → s.heap = H → va_P D vwCl wc H → va_K D vwCl (tyL T) s → lv_has ls maxL (lv_args 0 as) →
      (∀ (r : Int64) (ls' : Array Slot) (pc : Nat), decode cc pc = .ok (.lreturn, 1) → post r → W p l e rm s m args below meth c H [] 0 0 Q (F0 m pc ls' [.long r])) → W p l e rm s m args below meth c H [] 0 0 Q (F0 m 0 ls [])) : RdL l y ws rm T X D as wc post := by
  refine Met.ofW (cc := cc) (maxL := maxL) (ret := some .long) hy hw ?_
  intro p e s m args below meth c s₁ B hml hv
  obtain ⟨rfl, hP, hK, hX⟩ := hv
  have hlocks := B.notSynchronized
  have hl := lv_entry as (n := maxL) hn
  rw [lg_entry_eq]
  refine body p e s m _ below meth c s.heap _ _ B.exec B.bytes (atoms_spec B.pre) (findClass_of_methodNamed B.named) hml hX rfl hP hK hl ?_
  intro r ls' pc hd hpost
  exact W.lret B.exec B.bytes B.returns (fun t ht hW => ⟨r, rfl, hpost, ht⟩) (fun _ h => absurd h List.not_mem_nil) hd
theorem nar_z {r : Int32} (h : r = 0 ∨ r = 1) : narrow .boolean (.int r) = .int r := by rcases h with rfl | rfl <;> rfl
theorem met_rz {post : Int32 → Prop} (hy : plainName y.cls = true) (hw : ws = Cond.code y cc maxL (some .boolean) :: ws') (hn : (lg_sl as).length ≤ maxL) (hz : ∀ r, post r → r = 0 ∨ r = 1)
    (body : ∀ (p : Program) (e : Env) (s : State) (m : MethodId) (args : Array Value) (below : List Frame) (meth : Method) (c : Code) (H : Heap) (ls : Array Slot) (Q : State → Prop), p.tables.exec = Jvm.exec → c.code = cc → (∀ w ∈ ws, w.before args s = true) → s.vm.findClass y.cls = some m.cls → c.maxLocals = maxL → X (fun _ => False) s → s.heap = H → va_P D vwCl wc H → va_K D vwCl (tyL T) s → lv_has ls maxL (lv_args 0 as) →
      (∀ (r : Int32) (ls' : Array Slot) (pc : Nat), decode cc pc = .ok (.ireturn, 1) → post r → W p l e rm s m args below meth c H [] 0 0 Q (F0 m pc ls' [.int r])) → W p l e rm s m args below meth c H [] 0 0 Q (F0 m 0 ls [])) : RdI l y ws rm T X D as wc post := by
  refine Met.ofW (cc := cc) (maxL := maxL) (ret := some .boolean) hy hw ?_
  intro p e s m args below meth c s₁ B hml hv
  obtain ⟨rfl, hP, hK, hX⟩ := hv
  have hlocks := B.notSynchronized
  have hl := lv_entry as (n := maxL) hn
  rw [lg_entry_eq]
  refine body p e s m _ below meth c s.heap _ _ B.exec B.bytes (atoms_spec B.pre) (findClass_of_methodNamed B.named) hml hX rfl hP hK hl ?_
  intro r ls' pc hd hpost
  exact W.zret B.exec B.bytes B.returns (nar_z (hz r hpost)) (fun t ht hW => ⟨r, rfl, hpost, ht⟩) (fun _ h => absurd h List.not_mem_nil) hd
/-- a char -/
theorem met_rc {post : Int32 → Prop} (hy : plainName y.cls = true) (hw : ws = Cond.code y cc maxL (some .char) :: ws') (hn : (lg_sl as).length ≤ maxL) (hz : ∀ r, post r → narrow .char (.int r) = .int r)
    (body : ∀ (p : Program) (e : Env) (s : State) (m : MethodId) (args : Array Value) (below : List Frame) (meth : Method) (c : Code) (H : Heap) (ls : Array Slot) (Q : State → Prop), p.tables.exec = Jvm.exec → c.code = cc → (∀ w ∈ ws, w.before args s = true) → s.vm.findClass y.cls = some m.cls → c.maxLocals = maxL → X (fun _ => False) s → s.heap = H → va_P D vwCl wc H → va_K D vwCl (tyL T) s → lv_has ls maxL (lv_args 0 as) →
      (∀ (r : Int32) (ls' : Array Slot) (pc : Nat), decode cc pc = .ok (.ireturn, 1) → post r → W p l e rm s m args below meth c H [] 0 0 Q (F0 m pc ls' [.int r])) → W p l e rm s m args below meth c H [] 0 0 Q (F0 m 0 ls [])) : RdI l y ws rm T X D as wc post := by
  refine Met.ofW (cc := cc) (maxL := maxL) (ret := some .char) hy hw ?_
  intro p e s m args below meth c s₁ B hml hv
  obtain ⟨rfl, hP, hK, hX⟩ := hv
  have hlocks := B.notSynchronized
  have hl := lv_entry as (n := maxL) hn
  rw [lg_entry_eq]
  refine body p e s m _ below meth c s.heap _ _ B.exec B.bytes (atoms_spec B.pre) (findClass_of_methodNamed B.named) hml hX rfl hP hK hl ?_
  intro r ls' pc hd hpost
  exact W.zret B.exec B.bytes B.returns (hz r hpost) (fun t ht hW => ⟨r, rfl, hpost, ht⟩) (fun _ h => absurd h List.not_mem_nil) hd
variable {S : Type} {W' : S → va_W} {mc ms : Nat}
theorem met_mi {post : Int32 → S → Prop} (hy : plainName y.cls = true) (hw : ws = Cond.code y cc maxL (some .int) :: ws') (hn : (lg_sl as).length ≤ maxL)
    (body : ∀ (p : Program) (e : Env) (s : State) (m : MethodId) (args : Array Value) (below : List Frame) (meth : Method) (c : Code) (ls : Array Slot) (A : Nat → Prop) (Q : State → Prop), p.tables.exec = Jvm.exec → c.code = cc → (∀ w ∈ ws, w.before args s = true) → s.vm.findClass y.cls = some m.cls → c.maxLocals = maxL → X A s → va_P D vwCl wc s.heap → va_D A wc → va_K D vwCl (tyL T) s → va_S A s.heap s.heap [] → (∀ q, s.heap.size ≤ q → A q) → lv_has ls maxL (lv_args 0 as) →
      (∀ (H : Heap) (locs : List Loc) (r : Int32) (u : S) (ls' : Array Slot) (pc : Nat), decode cc pc = .ok (.ireturn, 1) → va_S A s.heap H locs → va_P D vwCl (W' u) H → va_D A (W' u) → post r u → W p l e rm s m args below meth c H locs mc ms Q (F0 m pc ls' [.int r])) → W p l e rm s m args below meth c s.heap [] 0 0 Q (F0 m 0 ls [])) : MuI l y ws rm T X D as wc post W' mc ms := by
  intro sz
  refine Met.ofW (cc := cc) (maxL := maxL) (ret := some .int) hy hw ?_
  intro p e s m args below meth c s₁ B hml hv
  obtain ⟨rfl, hsz, hP, hK, hD0, hX⟩ := hv
  subst hsz
  have hlocks := B.notSynchronized
  have hl := lv_entry as (n := maxL) hn
  rw [lg_entry_eq]
  refine body p e s m _ below meth c _ (va_A wc s.heap.size) _ B.exec B.bytes (atoms_spec B.pre) (findClass_of_methodNamed B.named) hml hX hP hD0.self hK va_S.rf (fun q h => Or.inr h) hl ?_
  intro H locs r u ls' pc hd hS hP' hD' hpost
  exact W.iret B.exec B.bytes B.returns (fun t ht hW => ⟨⟨r, u, rfl, hpost, by rw [ht]; exact hP', hD'⟩, hS.F ht⟩) hS.2.2 hd
theorem met_mz {post : Int32 → S → Prop} (hy : plainName y.cls = true) (hw : ws = Cond.code y cc maxL (some .boolean) :: ws') (hn : (lg_sl as).length ≤ maxL) (hz : ∀ r u, post r u → r = 0 ∨ r = 1)
    (body : ∀ (p : Program) (e : Env) (s : State) (m : MethodId) (args : Array Value) (below : List Frame) (meth : Method) (c : Code) (ls : Array Slot) (A : Nat → Prop) (Q : State → Prop), p.tables.exec = Jvm.exec → c.code = cc → (∀ w ∈ ws, w.before args s = true) → s.vm.findClass y.cls = some m.cls → c.maxLocals = maxL → X A s → va_P D vwCl wc s.heap → va_D A wc → va_K D vwCl (tyL T) s → va_S A s.heap s.heap [] → (∀ q, s.heap.size ≤ q → A q) → lv_has ls maxL (lv_args 0 as) →
      (∀ (H : Heap) (locs : List Loc) (r : Int32) (u : S) (ls' : Array Slot) (pc : Nat), decode cc pc = .ok (.ireturn, 1) → va_S A s.heap H locs → va_P D vwCl (W' u) H → va_D A (W' u) → post r u → W p l e rm s m args below meth c H locs mc ms Q (F0 m pc ls' [.int r])) → W p l e rm s m args below meth c s.heap [] 0 0 Q (F0 m 0 ls [])) : MuI l y ws rm T X D as wc post W' mc ms := by
  intro sz
  refine Met.ofW (cc := cc) (maxL := maxL) (ret := some .boolean) hy hw ?_
  intro p e s m args below meth c s₁ B hml hv
  obtain ⟨rfl, hsz, hP, hK, hD0, hX⟩ := hv
  subst hsz
  have hlocks := B.notSynchronized
  have hl := lv_entry as (n := maxL) hn
  rw [lg_entry_eq]
  refine body p e s m _ below meth c _ (va_A wc s.heap.size) _ B.exec B.bytes (atoms_spec B.pre) (findClass_of_methodNamed B.named) hml hX hP hD0.self hK va_S.rf (fun q h => Or.inr h) hl ?_
  intro H locs r u ls' pc hd hS hP' hD' hpost
  exact W.zret B.exec B.bytes B.returns (nar_z (hz r u hpost)) (fun t ht hW => ⟨⟨r, u, rfl, hpost, by rw [ht]; exact hP', hD'⟩, hS.F ht⟩) hS.2.2 hd
theorem met_mv {post : S → Prop} (hy : plainName y.cls = true) (hw : ws = Cond.code y cc maxL none :: ws') (hn : (lg_sl as).length ≤ maxL)
    (body : ∀ (p : Program) (e : Env) (s : State) (m : MethodId) (args : Array Value) (below : List Frame) (meth : Method) (c : Code) (ls : Array Slot) (A : Nat → Prop) (Q : State → Prop), p.tables.exec = Jvm.exec → c.code = cc → (∀ w ∈ ws, w.before args s = true) → s.vm.findClass y.cls = some m.cls → c.maxLocals = maxL → X A s → va_P D vwCl wc s.heap → va_D A wc → va_K D vwCl (tyL T) s → va_S A s.heap s.heap [] → (∀ q, s.heap.size ≤ q → A q) → lv_has ls maxL (lv_args 0 as) → meth.name = y.name →
      (∀ (H : Heap) (locs : List Loc) (u : S) (ls' : Array Slot) (pc : Nat), decode cc pc = .ok (.return_, 1) → va_S A s.heap H locs → va_P D vwCl (W' u) H → va_D A (W' u) → post u → W p l e rm s m args below meth c H locs mc ms Q (F0 m pc ls' [])) → W p l e rm s m args below meth c s.heap [] 0 0 Q (F0 m 0 ls [])) : MuV l y ws rm T X D as wc post W' mc ms := by
  intro sz
  refine Met.ofW (cc := cc) (maxL := maxL) (ret := none) hy hw ?_
  intro p e s m args below meth c s₁ B hml hv
  obtain ⟨rfl, hsz, hP, hK, hD0, hX⟩ := hv
  subst hsz
  have hlocks := B.notSynchronized
  have hl := lv_entry as (n := maxL) hn
  rw [lg_entry_eq]
  refine body p e s m _ below meth c _ (va_A wc s.heap.size) _ B.exec B.bytes (atoms_spec B.pre) (findClass_of_methodNamed B.named) hml hX hP hD0.self hK va_S.rf (fun q h => Or.inr h) hl (name_of_methodNamed B.named B.method).1 ?_
  intro H locs u ls' pc hd hS hP' hD' hpost
  exact W.vret B.exec B.bytes B.returns (fun t ht hW => ⟨⟨u, rfl, hpost, by rw [ht]; exact hP', hD'⟩, hS.F ht⟩) hS.2.2 hd
end BODY
/-! calls -/
section CALL
variable {p : Program} {l : Launch} {e : Env} {R : Room} {s : State} {m : MethodId} {args : Array Value} {below : List Frame} {meth : Method} {c : Code} {H : Heap} {locs : List Loc} {cells slots : Nat} {Q : State → Prop}
variable {y : MethodName} {bytes cc : ByteArray} {maxL nL mc ms n index pc : Nat} {ret : Option FieldType} {ws Ts : List Cond} {rm : Room} {own C host : String} {b : Addr} {As rest st : List Value} {ls : Array Slot}
variable {T : Nat → ClassId} {X : (Nat → Prop) → State → Prop} {D : va_G} {wc wr : va_W} {ci : Nat} {cq : vw_C} {fs : List Value}
theorem run_of {g : JFrame} {Qa : State → Outcome → State → Prop} {free : Addr → Prop} (h : va_Run p l e R s m args below meth c H locs cells slots mc ms g rest Qa free) : CallRun p l e R s m args below meth c H locs cells slots mc ms g rest Qa free := by
  intro T hT X
  obtain ⟨v, st₀, t, T', L, h0, X', hL, e1, -, hq, st⟩ := h T hT X
  exact ⟨v, st₀, t, T', L, h0, X', hL, e1, hq, st⟩
theorem callRi {post : Int32 → Prop} (S : CallFix p m c cc nL s args Ts own) (hM : RdI l y ws rm T X D (.ref b :: As) wc post) (cw : CallW R s args own C index y bytes maxL ret ws rm 0 0 n) (hP : va_P D vwCl wc H) (hK : va_K D vwCl (tyL T) s) (hXb : xBl X) (hX : ∀ U : State, U.heap = H → s.WarmedH U.vm → X (fun _ => False) U) (hc : vwCl[ci]? = some cq) (he : wc[0]? = some (b, .inr (ci, fs))) (hC : cq.1 = C) (hl : ls.size = nL) (hn : As.length = n) (hst : st = As.reverse ++ .ref b :: rest) (hroom : (rest.map fun v => v.category).sum ≤ 8) (hdg : decode cc pc = .ok (.invokevirtual index, 3)) (hf : cells ≤ R.cells ∧ slots ≤ R.slots)
    (kk : ∀ r : Int32, post r → W p l e R s m args below meth c H locs cells slots Q (F0 m (pc + 3) ls (.int r :: rest))) : W p l e R s m args below meth c H locs cells slots Q (F0 m pc ls st) := by
  subst hC
  exact vp_callSi (W.runV S hM cw ⟨rdP_bl hXb, va_recv hK hP hc he, fun U hU hW => ⟨rfl, by rw [hU]; exact hP, va_K.moved hW.alike hK, hX U hU hW⟩⟩ rfl hn hl hst (lv_room hroom) hdg hf) kk
theorem callRl {post : Int64 → Prop} (S : CallFix p m c cc nL s args Ts own) (hM : RdL l y ws rm T X D (.ref b :: As) wc post) (cw : CallW R s args own C index y bytes maxL ret ws rm 0 0 n) (hP : va_P D vwCl wc H) (hK : va_K D vwCl (tyL T) s) (hXb : xBl X) (hX : ∀ U : State, U.heap = H → s.WarmedH U.vm → X (fun _ => False) U) (hc : vwCl[ci]? = some cq) (he : wc[0]? = some (b, .inr (ci, fs))) (hC : cq.1 = C) (hl : ls.size = nL) (hn : As.length = n) (hst : st = As.reverse ++ .ref b :: rest) (hroom : (rest.map fun v => v.category).sum ≤ 8) (hdg : decode cc pc = .ok (.invokevirtual index, 3)) (hf : cells ≤ R.cells ∧ slots ≤ R.slots)
    (kk : ∀ r : Int64, post r → W p l e R s m args below meth c H locs cells slots Q (F0 m (pc + 3) ls (.long r :: rest))) : W p l e R s m args below meth c H locs cells slots Q (F0 m pc ls st) := by
  subst hC
  exact vp_callSl (W.runV S hM cw ⟨rdP_bl hXb, va_recv hK hP hc he, fun U hU hW => ⟨rfl, by rw [hU]; exact hP, va_K.moved hW.alike hK, hX U hU hW⟩⟩ rfl hn hl hst (lv_room hroom) hdg hf) kk
/-- a static reader -/
theorem callSi {post : Int32 → Prop} (S : CallFix p m c cc nL s args Ts own) (hM : RdI l y ws rm T X D As wc post) (cw : CallB R s args own index y bytes maxL ret ws rm 0 0 n ∧ (Cond.static y).before args s = true) (hP : va_P D vwCl wc H) (hK : va_K D vwCl (tyL T) s) (hXb : xBl X) (hX : ∀ U : State, U.heap = H → s.WarmedH U.vm → X (fun _ => False) U) (hl : ls.size = nL) (hn : As.length = n) (hst : st = As.reverse ++ rest) (hroom : (rest.map fun v => v.category).sum ≤ 8) (hdg : decode cc pc = .ok (.invokestatic index, 3)) (hf : cells ≤ R.cells ∧ slots ≤ R.slots)
    (kk : ∀ r : Int32, post r → W p l e R s m args below meth c H locs cells slots Q (F0 m (pc + 3) ls (.int r :: rest))) : W p l e R s m args below meth c H locs cells slots Q (F0 m pc ls st) :=
  vp_callSi (W.runS S hM cw ⟨rdP_bl hXb, fun U hU hW => ⟨rfl, by rw [hU]; exact hP, va_K.moved hW.alike hK, hX U hU hW⟩⟩ rfl hn hl hst (lv_room hroom) hdg hf) kk
theorem callSl {post : Int64 → Prop} (S : CallFix p m c cc nL s args Ts own) (hM : RdL l y ws rm T X D As wc post) (cw : CallB R s args own index y bytes maxL ret ws rm 0 0 n ∧ (Cond.static y).before args s = true) (hP : va_P D vwCl wc H) (hK : va_K D vwCl (tyL T) s) (hXb : xBl X) (hX : ∀ U : State, U.heap = H → s.WarmedH U.vm → X (fun _ => False) U) (hl : ls.size = nL) (hn : As.length = n) (hst : st = As.reverse ++ rest) (hroom : (rest.map fun v => v.category).sum ≤ 8) (hdg : decode cc pc = .ok (.invokestatic index, 3)) (hf : cells ≤ R.cells ∧ slots ≤ R.slots)
    (kk : ∀ r : Int64, post r → W p l e R s m args below meth c H locs cells slots Q (F0 m (pc + 3) ls (.long r :: rest))) : W p l e R s m args below meth c H locs cells slots Q (F0 m pc ls st) :=
  vp_callSl (W.runS S hM cw ⟨rdP_bl hXb, fun U hU hW => ⟨rfl, by rw [hU]; exact hP, va_K.moved hW.alike hK, hX U hU hW⟩⟩ rfl hn hl hst (lv_room hroom) hdg hf) kk
/-- a static reader of a nest mate -/
theorem callNi {post : Int32 → Prop} (S : CallFix p m c cc nL s args Ts own) (hM : RdI l y ws rm T X D As wc post) (cw : va_CN R s args own index y host bytes maxL ret ws rm 0 0 n ∧ (Cond.static y).before args s = true ∧ True) (hP : va_P D vwCl wc H) (hK : va_K D vwCl (tyL T) s) (hXb : xBl X) (hX : ∀ U : State, U.heap = H → s.WarmedH U.vm → X (fun _ => False) U) (hl : ls.size = nL) (hn : As.length = n) (hst : st = As.reverse ++ rest) (hroom : (rest.map fun v => v.category).sum ≤ 8) (hdg : decode cc pc = .ok (.invokestatic index, 3)) (hf : cells ≤ R.cells ∧ slots ≤ R.slots)
    (kk : ∀ r : Int32, post r → W p l e R s m args below meth c H locs cells slots Q (F0 m (pc + 3) ls (.int r :: rest))) : W p l e R s m args below meth c H locs cells slots Q (F0 m pc ls st) :=
  vp_callSi (run_of (va_runSN S hM cw ⟨rdP_bl hXb, fun U hU hW => ⟨rfl, by rw [hU]; exact hP, va_K.moved hW.alike hK, hX U hU hW⟩⟩ rfl hn hl hst (lv_room hroom) hdg hf)) kk
variable {A0 : Nat → Prop} {H0 : Heap} {S9 : Type} {W' : S9 → va_W}
/-- a mover: its cells stand first, the rest stays -/
theorem callMi {post : Int32 → S9 → Prop} (S : CallFix p m c cc nL s args Ts own) (hM : MuI l y ws rm T X D (.ref b :: As) wc post W' mc ms) (cw : CallW R s args own C index y bytes maxL ret ws rm mc ms n) (hP : va_P D vwCl (wc ++ wr) H) (hD : va_D A0 (wc ++ wr)) (hK : va_K D vwCl (tyL T) s) (hS : va_S A0 H0 H locs) (hA : ∀ q, H0.size ≤ q → A0 q) (hXb : xBl X) (hX : ∀ U : State, U.heap = H → s.WarmedH U.vm → X (va_A wc H.size) U) (hc : vwCl[ci]? = some cq) (he : wc[0]? = some (b, .inr (ci, fs))) (hC : cq.1 = C) (hl : ls.size = nL) (hn : As.length = n) (hst : st = As.reverse ++ .ref b :: rest) (hroom : (rest.map fun v => v.category).sum ≤ 8) (hdg : decode cc pc = .ok (.invokevirtual index, 3)) (hf : cells + mc ≤ R.cells ∧ slots + ms ≤ R.slots)
    (kk : ∀ (r : Int32) (u : S9) (H1 : Heap) (locs1 : List Loc), post r u → va_P D vwCl (W' u ++ wr) H1 → va_D A0 (W' u ++ wr) → va_S A0 H0 H1 locs1 → (∀ q : Nat, q < H.size → ¬ va_A wc H.size q → H1[q]? = H[q]?) → W p l e R s m args below meth c H1 locs1 (cells + mc) (slots + ms) Q (F0 m (pc + 3) ls (.int r :: rest))) : W p l e R s m args below meth c H locs cells slots Q (F0 m pc ls st) := by
  subst hC
  have hPc := wP_left hP
  have hDc := wD_left hD
  have hF := fr_free hD hS hA
  refine va_calli (va_runV S (hM H.size) cw ⟨muP_bl hXb, va_recv hK hPc hc he, fun U hU hW => ⟨rfl, by rw [hU], by rw [hU]; exact hPc, va_K.moved hW.alike hK, hDc.weaken (fun _ _ _ _ => trivial), hX U hU hW⟩⟩ rfl hn hl hst (lv_room hroom) hdg hf) hS (fun q _ h => hF q h) hF (fun r u t H1 locs1 ht hvm hw hB hz1 hk1 hS1 => ?_)
  obtain ⟨hP1, hD1⟩ := hB
  rw [ht] at hP1
  obtain ⟨j1, j2⟩ := fr_join hP hD hk1 hF hP1 hD1
  exact kk r u H1 locs1 hw j1 j2 hS1 hk1
theorem callMv {post : S9 → Prop} (S : CallFix p m c cc nL s args Ts own) (hM : MuV l y ws rm T X D (.ref b :: As) wc post W' mc ms) (cw : CallW R s args own C index y bytes maxL ret ws rm mc ms n) (hP : va_P D vwCl (wc ++ wr) H) (hD : va_D A0 (wc ++ wr)) (hK : va_K D vwCl (tyL T) s) (hS : va_S A0 H0 H locs) (hA : ∀ q, H0.size ≤ q → A0 q) (hXb : xBl X) (hX : ∀ U : State, U.heap = H → s.WarmedH U.vm → X (va_A wc H.size) U) (hc : vwCl[ci]? = some cq) (he : wc[0]? = some (b, .inr (ci, fs))) (hC : cq.1 = C) (hl : ls.size = nL) (hn : As.length = n) (hst : st = As.reverse ++ .ref b :: rest) (hroom : (rest.map fun v => v.category).sum ≤ 8) (hdg : decode cc pc = .ok (.invokevirtual index, 3)) (hf : cells + mc ≤ R.cells ∧ slots + ms ≤ R.slots)
    (kk : ∀ (u : S9) (H1 : Heap) (locs1 : List Loc), post u → va_P D vwCl (W' u ++ wr) H1 → va_D A0 (W' u ++ wr) → va_S A0 H0 H1 locs1 → (∀ q : Nat, q < H.size → ¬ va_A wc H.size q → H1[q]? = H[q]?) → W p l e R s m args below meth c H1 locs1 (cells + mc) (slots + ms) Q (F0 m (pc + 3) ls rest)) : W p l e R s m args below meth c H locs cells slots Q (F0 m pc ls st) := by
  subst hC
  have hPc := wP_left hP
  have hDc := wD_left hD
  have hF := fr_free hD hS hA
  refine va_callv (va_runV S (hM H.size) cw ⟨muP_bl hXb, va_recv hK hPc hc he, fun U hU hW => ⟨rfl, by rw [hU], by rw [hU]; exact hPc, va_K.moved hW.alike hK, hDc.weaken (fun _ _ _ _ => trivial), hX U hU hW⟩⟩ rfl hn hl hst (lv_room hroom) hdg hf) hS (fun q _ h => hF q h) hF (fun u t H1 locs1 ht hvm hw hB hz1 hk1 hS1 => ?_)
  obtain ⟨hP1, hD1⟩ := hB
  rw [ht] at hP1
  obtain ⟨j1, j2⟩ := fr_join hP hD hk1 hF hP1 hD1
  exact kk u H1 locs1 hw j1 j2 hS1 hk1
/-- a static mover without an answer -/
theorem callSv {post : S9 → Prop} (S : CallFix p m c cc nL s args Ts own) (hM : MuV l y ws rm T X D As wc post W' mc ms) (cw : CallB R s args own index y bytes maxL ret ws rm mc ms n ∧ (Cond.static y).before args s = true) (hP : va_P D vwCl (wc ++ wr) H) (hD : va_D A0 (wc ++ wr)) (hK : va_K D vwCl (tyL T) s) (hS : va_S A0 H0 H locs) (hA : ∀ q, H0.size ≤ q → A0 q) (hXb : xBl X) (hX : ∀ U : State, U.heap = H → s.WarmedH U.vm → X (va_A wc H.size) U) (hl : ls.size = nL) (hn : As.length = n) (hst : st = As.reverse ++ rest) (hroom : (rest.map fun v => v.category).sum ≤ 8) (hdg : decode cc pc = .ok (.invokestatic index, 3)) (hf : cells + mc ≤ R.cells ∧ slots + ms ≤ R.slots)
    (kk : ∀ (u : S9) (H1 : Heap) (locs1 : List Loc), post u → va_P D vwCl (W' u ++ wr) H1 → va_D A0 (W' u ++ wr) → va_S A0 H0 H1 locs1 → W p l e R s m args below meth c H1 locs1 (cells + mc) (slots + ms) Q (F0 m (pc + 3) ls rest)) : W p l e R s m args below meth c H locs cells slots Q (F0 m pc ls st) := by
  have hPc := wP_left hP
  have hDc := wD_left hD
  have hF := fr_free hD hS hA
  refine va_callv (va_runS S (hM H.size) cw ⟨muP_bl hXb, fun U hU hW => ⟨rfl, by rw [hU], by rw [hU]; exact hPc, va_K.moved hW.alike hK, hDc.weaken (fun _ _ _ _ => trivial), hX U hU hW⟩⟩ rfl hn hl hst (lv_room hroom) hdg hf) hS (fun q _ h => hF q h) hF (fun u t H1 locs1 ht hvm hw hB hz1 hk1 hS1 => ?_)
  obtain ⟨hP1, hD1⟩ := hB
  rw [ht] at hP1
  obtain ⟨j1, j2⟩ := fr_join hP hD hk1 hF hP1 hD1
  exact kk u H1 locs1 hw j1 j2 hS1
/-- a constructor -/
theorem callIv {post : S9 → Prop} (S : CallFix p m c cc nL s args Ts own) (hM : MuV l y ws rm T X D (.ref b :: As) wc post W' mc ms) (cw : CallB R s args own index y bytes maxL none ws rm mc ms n ∧ y.name = "<init>" ∧ (Cond.instanceMethod y).before args s = true) (hP : va_P D vwCl (wc ++ wr) H) (hD : va_D A0 (wc ++ wr)) (hK : va_K D vwCl (tyL T) s) (hS : va_S A0 H0 H locs) (hA : ∀ q, H0.size ≤ q → A0 q) (hXb : xBl X) (hX : ∀ U : State, U.heap = H → s.WarmedH U.vm → X (va_A wc H.size) U) (hl : ls.size = nL) (hn : As.length = n) (hst : st = As.reverse ++ .ref b :: rest) (hroom : (rest.map fun v => v.category).sum ≤ 8) (hdg : decode cc pc = .ok (.invokespecial index, 3)) (hf : cells + mc ≤ R.cells ∧ slots + ms ≤ R.slots)
    (kk : ∀ (u : S9) (H1 : Heap) (locs1 : List Loc), post u → va_P D vwCl (W' u ++ wr) H1 → va_D A0 (W' u ++ wr) → va_S A0 H0 H1 locs1 → W p l e R s m args below meth c H1 locs1 (cells + mc) (slots + ms) Q (F0 m (pc + 3) ls rest)) : W p l e R s m args below meth c H locs cells slots Q (F0 m pc ls st) := by
  have hPc := wP_left hP
  have hDc := wD_left hD
  have hF := fr_free hD hS hA
  refine va_callv (va_runI S (hM H.size) cw ⟨muP_bl hXb, fun U hU hW => ⟨rfl, by rw [hU], by rw [hU]; exact hPc, va_K.moved hW.alike hK, hDc.weaken (fun _ _ _ _ => trivial), hX U hU hW⟩⟩ rfl hn hl hst (lv_room hroom) hdg hf) hS (fun q _ h => hF q h) hF (fun u t H1 locs1 ht hvm hw hB hz1 hk1 hS1 => ?_)
  obtain ⟨hP1, hD1⟩ := hB
  rw [ht] at hP1
  obtain ⟨j1, j2⟩ := fr_join hP hD hk1 hF hP1 hD1
  exact kk u H1 locs1 hw j1 j2 hS1
theorem callIN {post : S9 → Prop} (S : CallFix p m c cc nL s args Ts own) (hM : MuV l y ws rm T X D (.ref b :: As) wc post W' mc ms) (cw : va_CN R s args own index y host bytes maxL none ws rm mc ms n ∧ y.name = "<init>" ∧ (Cond.instanceMethod y).before args s = true) (hP : va_P D vwCl (wc ++ wr) H) (hD : va_D A0 (wc ++ wr)) (hK : va_K D vwCl (tyL T) s) (hS : va_S A0 H0 H locs) (hA : ∀ q, H0.size ≤ q → A0 q) (hXb : xBl X) (hX : ∀ U : State, U.heap = H → s.WarmedH U.vm → X (va_A wc H.size) U) (hl : ls.size = nL) (hn : As.length = n) (hst : st = As.reverse ++ .ref b :: rest) (hroom : (rest.map fun v => v.category).sum ≤ 8) (hdg : decode cc pc = .ok (.invokespecial index, 3)) (hf : cells + mc ≤ R.cells ∧ slots + ms ≤ R.slots)
    (kk : ∀ (u : S9) (H1 : Heap) (locs1 : List Loc), post u → va_P D vwCl (W' u ++ wr) H1 → va_D A0 (W' u ++ wr) → va_S A0 H0 H1 locs1 → W p l e R s m args below meth c H1 locs1 (cells + mc) (slots + ms) Q (F0 m (pc + 3) ls rest)) : W p l e R s m args below meth c H locs cells slots Q (F0 m pc ls st) := by
  have hPc := wP_left hP
  have hDc := wD_left hD
  have hF := fr_free hD hS hA
  refine va_callv (va_runIN S (hM H.size) cw ⟨muP_bl hXb, fun U hU hW => ⟨rfl, by rw [hU], by rw [hU]; exact hPc, va_K.moved hW.alike hK, hDc.weaken (fun _ _ _ _ => trivial), hX U hU hW⟩⟩ rfl hn hl hst (lv_room hroom) hdg hf) hS (fun q _ h => hF q h) hF (fun u t H1 locs1 ht hvm hw hB hz1 hk1 hS1 => ?_)
  obtain ⟨hP1, hD1⟩ := hB
  rw [ht] at hP1
  obtain ⟨j1, j2⟩ := fr_join hP hD hk1 hF hP1 hD1
  exact kk u H1 locs1 hw j1 j2 hS1
/-- the value on top, said otherwise -/
theorem lv_tpi {x z : Int32} (h : x = z) (k : W p l e R s m args below meth c H locs cells slots Q (F0 m pc ls (.int z :: rest))) : W p l e R s m args below meth c H locs cells slots Q (F0 m pc ls (.int x :: rest)) := h ▸ k
theorem lv_tpl {x z : Int64} (h : x = z) (k : W p l e R s m args below meth c H locs cells slots Q (F0 m pc ls (.long z :: rest))) : W p l e R s m args below meth c H locs cells slots Q (F0 m pc ls (.long x :: rest)) := h ▸ k
theorem lv_tpv {x z : Value} (h : x = z) (k : W p l e R s m args below meth c H locs cells slots Q (F0 m pc ls (z :: rest))) : W p l e R s m args below meth c H locs cells slots Q (F0 m pc ls (x :: rest)) := h ▸ k
end CALL
end
section
/-! plain words of the two programs' numbers -/
def bI (c : Prop) [Decidable c] : Int32 := if c then 1 else 0
theorem bI_t {c : Prop} [Decidable c] (h : c) : (1 : Int32) = bI c := (if_pos h).symm
theorem bI_f {c : Prop} [Decidable c] (h : ¬ c) : (0 : Int32) = bI c := (if_neg h).symm
theorem bI_0 {c : Prop} [Decidable c] (h : bI c = 0) : ¬ c := fun hc => by rw [← bI_t hc] at h; exact absurd h (by decide)
theorem bI_n0 {c : Prop} [Decidable c] (h : ¬ bI c = 0) : c := Classical.byContradiction fun hc => h (bI_f hc).symm
theorem bI_01 {c : Prop} [Decidable c] {r : Int32} (h : r = bI c) : r = 0 ∨ r = 1 := by
  subst h
  unfold bI
  split
  · exact Or.inr rfl
  · exact Or.inl rfl
theorem bI_iff {c d : Prop} [Decidable c] [Decidable d] (h : c ↔ d) : bI c = bI d := by
  unfold bI
  by_cases hc : c
  · rw [if_pos hc, if_pos (h.mp hc)]
  · rw [if_neg hc, if_neg (fun z => hc (h.mpr z))]
theorem cl_0 : Int32.toNatClampNeg 0 = 0 := by decide
theorem cl_1 : Int32.toNatClampNeg 1 = 1 := by decide
theorem cl_2 : Int32.toNatClampNeg 2 = 2 := by decide
theorem cl_3 : Int32.toNatClampNeg 3 = 3 := by decide
theorem cl_4 : Int32.toNatClampNeg 4 = 4 := by decide
theorem cl_5 : Int32.toNatClampNeg 5 = 5 := by decide
theorem in_lit {i : Int32} {n : Nat} (h : 0 ≤ i.toInt ∧ i.toInt < n) : vp_in i n := vp_in_iff.mpr h
theorem wP_nil {D : va_G} {H : Heap} : va_P D vwCl [] H := fun k q h => by simp at h
theorem wD_nil {A : Nat → Prop} : va_D A [] := ⟨fun i j p q h => by simp at h, fun k q h => by simp at h⟩
/-- the numbers of a pair: 0 area, 1 stuff, 2 strength, 3 rest, 4 friction, 5 leak, 6 depth, 7 charge, 8 voltage, 9 on -/
def kCap (P : Nat → Int32) (d : Int32) : Int32 := P 0 * (40 + (P 1 - 1) * d)
def kStored (P : Nat → Int32) : Int64 := if P 9 = 1 then (P 8).toInt64 * (P 7).toInt64 else (P 7).toInt64 * (P 7).toInt64 / (kCap P (P 6)).toInt64
def kPullBy (P : Nat → Int32) (v : Int32) : Int32 := P 0 * (P 1 - 1) * v * v
def kPullOf (P : Nat → Int32) (d q : Int32) : Int32 := ((P 0 * (P 1 - 1)).toInt64 * q.toInt64 * q.toInt64 / ((kCap P d).toInt64 * (kCap P d).toInt64)).toInt32
def kPullAt (P : Nat → Int32) (d q : Int32) : Int32 := if P 9 = 1 then kPullBy P (P 8) else kPullOf P d q
def kSpring (P : Nat → Int32) (d : Int32) : Int32 := P 2 * (d - P 3)
def kNet (P : Nat → Int32) : Int32 := kPullAt P (P 6) (P 7) - kSpring P (P 6)
def kSize (v : Int32) : Int32 := if v < 0 then -v else v
def kMove (P : Nat → Int32) (d n : Int32) : Int32 := if kSize n ≤ P 4 then 0 else if 0 < n then (if d < 40 then 1 else 0) else if 0 < d then -1 else 0
def kLeak (P : Nat → Int32) (q : Int32) : Int32 := (q.toInt64 * (P 5).toInt64 / 1000).toInt32
def kHalf (v : Int64) : Int64 := if v < 0 then -((1 - v) / 2) else v / 2
def kLo (k : Nat) : Int32 := if k < 2 then 1 else 0
def kHi (k : Nat) : Int32 := if k < 2 then 9 else if k = 2 then 999 else if k = 3 then 40 else if k = 4 then 9999 else 100
/-- the battery's charge, and the book of it -/
def kHoldP (P : Nat → Int32) : Nat → Int32 := if P 9 = 1 then upd P 7 (kCap P (P 6) * P 8) else P
def kHoldE (P : Nat → Int32) (E : Nat → Int64) : Nat → Int64 := if P 9 = 1 then vp_updL E 0 (E 0 + 2 * (P 8).toInt64 * (kCap P (P 6) * P 8 - P 7).toInt64) else E
/-- a leak -/
def kLeakP (P : Nat → Int32) : Nat → Int32 := if P 9 = 1 then P else upd P 7 (P 7 - kLeak P (P 7))
def kLeakE (P : Nat → Int32) (E : Nat → Int64) : Nat → Int64 := if P 9 = 1 then E else vp_updL E 1 (E 1 + (kStored P - kStored (kLeakP P)))
/-- by how much the slab moves, after the leak -/
def kBy (P : Nat → Int32) : Int32 := kMove P (P 6) (kNet P)
def kStepP (P : Nat → Int32) : Nat → Int32 := upd P 6 (P 6 + kBy P)
/-- a tick of a pair -/
def kTickP (P : Nat → Int32) : Nat → Int32 := kHoldP (kStepP (kLeakP P))
def kTickE (P : Nat → Int32) (E : Nat → Int64) : Nat → Int64 := kHoldE (kStepP (kLeakP P)) (kLeakE P E)
def kMoved (P : Nat → Int32) : Int32 := kSize (kBy (kLeakP P))
/-- the one row of the numbers of all pairs -/
def mS (t : Nat → Int32) (P : Nat → Nat → Int32) : Nat → Int32 := fun i => if i < 3 then t i else P ((i - 3) / 10) ((i - 3) % 10)
def mE (E : Nat → Nat → Int64) : Nat → Int64 := fun i => E (i / 3) (i % 3)
theorem mS_at (t : Nat → Int32) (P : Nat → Nat → Int32) {p k : Nat} (hk : k < 10) : mS t P (3 + 10 * p + k) = P p k := by
  unfold mS
  rw [if_neg (by omega), show (3 + 10 * p + k - 3) / 10 = p by omega, show (3 + 10 * p + k - 3) % 10 = k by omega]
theorem mS_t (t : Nat → Int32) (P : Nat → Nat → Int32) {k : Nat} (hk : k < 3) : mS t P k = t k := if_pos hk
theorem mE_at (E : Nat → Nat → Int64) {p k : Nat} (hk : k < 3) : mE E (3 * p + k) = E p k := by
  unfold mE
  rw [show (3 * p + k) / 3 = p by omega, show (3 * p + k) % 3 = k by omega]
theorem mS_up (t : Nat → Int32) (P : Nat → Nat → Int32) {p k : Nat} (hk : k < 10) (x : Int32) : upd (mS t P) (3 + 10 * p + k) x = mS t (va_up P p (upd (P p) k x)) := by
  funext i
  unfold upd mS va_up
  by_cases hi : i < 3
  · rw [if_neg (by omega), if_pos hi, if_pos hi]
  · rw [if_neg hi, if_neg hi]
    by_cases hp : (i - 3) / 10 = p
    · rw [if_pos hp]
      by_cases hk2 : (i - 3) % 10 = k
      · rw [if_pos hk2, if_pos (by omega)]
      · rw [if_neg hk2, if_neg (by omega), hp]
    · rw [if_neg hp, if_neg (by omega)]
theorem mS_upt (t : Nat → Int32) (P : Nat → Nat → Int32) {k : Nat} (hk : k < 3) (x : Int32) : upd (mS t P) k x = mS (upd t k x) P := by
  funext i
  unfold upd mS
  by_cases hi : i < 3
  · rw [if_pos hi, if_pos hi]
  · rw [if_neg hi, if_neg hi, if_neg (by omega)]
theorem mE_up (E : Nat → Nat → Int64) {p k : Nat} (hk : k < 3) (x : Int64) : vp_updL (mE E) (3 * p + k) x = mE (va_up E p (vp_updL (E p) k x)) := by
  funext i
  unfold vp_updL mE va_up
  by_cases hp : i / 3 = p
  · rw [if_pos hp]
    by_cases hk2 : i % 3 = k
    · rw [if_pos hk2, if_pos (by omega)]
    · rw [if_neg hk2, if_neg (by omega), hp]
  · rw [if_neg hp, if_neg (by omega)]
theorem upd_0 {f : Nat → Int32} {k : Nat} {x : Int32} : upd f k x k = x := if_pos rfl
theorem upd_n {f : Nat → Int32} {k j : Nat} {x : Int32} (h : j ≠ k) : upd f k x j = f j := if_neg h
theorem up_0 {α : Type} {f : Nat → α} {k : Nat} {x : α} : va_up f k x k = x := if_pos rfl
theorem up_n {α : Type} {f : Nat → α} {k j : Nat} {x : α} (h : j ≠ k) : va_up f k x j = f j := if_neg h
theorem up_up {α : Type} (f : Nat → α) (k : Nat) (x y : α) : va_up (va_up f k x) k y = va_up f k y := by
  funext j
  unfold va_up
  by_cases h : j = k
  · rw [if_pos h, if_pos h]
  · rw [if_neg h, if_neg h, if_neg h]
theorem up_id {α : Type} (f : Nat → α) (k : Nat) : va_up f k (f k) = f := by
  funext j
  unfold va_up
  by_cases h : j = k
  · rw [if_pos h, h]
  · rw [if_neg h]
/-- the first cells of the second program: itself, and the row of its numbers -/
abbrev moR (T : Nat → ClassId) (a qs : Nat) (fs : List Value) (t : Nat → Int32) (P : Nat → Nat → Int32) : va_W := [(a, .inr (6, fs)), (qs, .inl (T 0, 43, .inl (mS t P)))]
end
section
/-! numbers: facts out of the given laws, and the bounds of a pair -/
theorem fa_lt (a b : Int32) : a < b ↔ a.toInt < b.toInt := Int32.lt_iff_toInt_lt
theorem fa_le (a b : Int32) : a ≤ b ↔ a.toInt ≤ b.toInt := Int32.le_iff_toInt_le
theorem fa_eq (a b : Int32) : a = b ↔ a.toInt = b.toInt := Int32.toInt_inj.symm
theorem fa_lt64 (a b : Int64) : a < b ↔ a.toInt < b.toInt := Int64.lt_iff_toInt_lt
theorem fa_le64 (a b : Int64) : a ≤ b ↔ a.toInt ≤ b.toInt := Int64.le_iff_toInt_le
theorem fa_eq64 (a b : Int64) : a = b ↔ a.toInt = b.toInt := Int64.toInt_inj.symm
theorem fb_rng (x : Int32) : -2147483648 ≤ x.toInt ∧ x.toInt < 2147483648 := by
  have h1 := Int32.le_toInt x
  have h2 := Int32.toInt_lt x
  omega
theorem fb_bmod {z : Int} (h1 : -2147483648 ≤ z) (h2 : z < 2147483648) : z.bmod (2 ^ 32) = z := by
  rw [Int.bmod_eq_of_le (by omega) (by omega)]
theorem fb_addI {x y : Int32} (h1 : -2147483648 ≤ x.toInt + y.toInt) (h2 : x.toInt + y.toInt < 2147483648) : (x + y).toInt = x.toInt + y.toInt := by
  rw [Int32.toInt_add, fb_bmod h1 h2]
theorem fb_subI {x y : Int32} (h1 : -2147483648 ≤ x.toInt - y.toInt) (h2 : x.toInt - y.toInt < 2147483648) : (x - y).toInt = x.toInt - y.toInt := by
  rw [Int32.toInt_sub, fb_bmod h1 h2]
theorem fb_mulI {x y : Int32} (h1 : -2147483648 ≤ x.toInt * y.toInt) (h2 : x.toInt * y.toInt < 2147483648) : (x * y).toInt = x.toInt * y.toInt := by
  rw [Int32.toInt_mul, fb_bmod h1 h2]
theorem fb_negI {x : Int32} (h : x.toInt ≠ -2147483648) : (-x).toInt = -x.toInt := by
  have := fb_rng x
  rw [Int32.toInt_neg, fb_bmod (by omega) (by omega)]
theorem fb_rngL (x : Int64) : -9223372036854775808 ≤ x.toInt ∧ x.toInt < 9223372036854775808 := by
  have h1 := Int64.le_toInt x
  have h2 := Int64.toInt_lt x
  omega
theorem fb_bmodL {z : Int} (h1 : -9223372036854775808 ≤ z) (h2 : z < 9223372036854775808) : z.bmod (2 ^ 64) = z := by
  rw [Int.bmod_eq_of_le (by omega) (by omega)]
theorem fb_addL {x y : Int64} (h1 : -9223372036854775808 ≤ x.toInt + y.toInt) (h2 : x.toInt + y.toInt < 9223372036854775808) : (x + y).toInt = x.toInt + y.toInt := by
  rw [Int64.toInt_add, fb_bmodL h1 h2]
theorem fb_subL {x y : Int64} (h1 : -9223372036854775808 ≤ x.toInt - y.toInt) (h2 : x.toInt - y.toInt < 9223372036854775808) : (x - y).toInt = x.toInt - y.toInt := by
  rw [Int64.toInt_sub, fb_bmodL h1 h2]
theorem fb_mulL {x y : Int64} (h1 : -9223372036854775808 ≤ x.toInt * y.toInt) (h2 : x.toInt * y.toInt < 9223372036854775808) : (x * y).toInt = x.toInt * y.toInt := by
  rw [Int64.toInt_mul, fb_bmodL h1 h2]
theorem i_1 : (1 : Int32).toInt = 1 := by decide
theorem i_40 : (40 : Int32).toInt = 40 := by decide
theorem mul_lo {a b lo : Int} (ha : 0 ≤ a) (hb : lo ≤ b) (h1 : 1 ≤ a) (h0 : 0 ≤ lo) : lo ≤ a * b := by
  have : 1 * b ≤ a * b := Int.mul_le_mul_of_nonneg_right h1 (by omega)
  omega
theorem mul_bd {a b A B : Int} (h0 : 0 ≤ a) (h1 : a ≤ A) (g0 : 0 ≤ b) (g1 : b ≤ B) : 0 ≤ a * b ∧ a * b ≤ A * B :=
  ⟨Int.mul_nonneg h0 g0, Int.mul_le_mul h1 g1 g0 (by omega)⟩
/-- the bounds of a pair's numbers; of a depth -/
def kDp (d : Int32) : Prop := 0 ≤ d.toInt ∧ d.toInt ≤ 40
def kOk (P : Nat → Int32) : Prop := (1 ≤ (P 0).toInt ∧ (P 0).toInt ≤ 9) ∧ (1 ≤ (P 1).toInt ∧ (P 1).toInt ≤ 9) ∧ (0 ≤ (P 2).toInt ∧ (P 2).toInt ≤ 999) ∧ (0 ≤ (P 3).toInt ∧ (P 3).toInt ≤ 40) ∧ (0 ≤ (P 4).toInt ∧ (P 4).toInt ≤ 9999) ∧ (0 ≤ (P 5).toInt ∧ (P 5).toInt ≤ 100) ∧ kDp (P 6) ∧ (0 ≤ (P 7).toInt ∧ (P 7).toInt ≤ 200000) ∧ (0 ≤ (P 8).toInt ∧ (P 8).toInt ≤ 30) ∧ (P 9 = 0 ∨ P 9 = 1)
theorem kOk_d {P : Nat → Int32} (h : kOk P) : kDp (P 6) := h.2.2.2.2.2.2.1
theorem kCap_int {P : Nat → Int32} {d : Int32} (h : kOk P) (hd : kDp d) : (kCap P d).toInt = (P 0).toInt * (40 + ((P 1).toInt - 1) * d.toInt) ∧ 40 ≤ (kCap P d).toInt ∧ (kCap P d).toInt ≤ 3240 := by
  obtain ⟨h0, h1, -⟩ := h
  obtain ⟨d0, d1⟩ := hd
  have e1 : (P 1 - 1).toInt = (P 1).toInt - 1 := by
    rw [fb_subI (by rw [i_1]; omega) (by rw [i_1]; omega), i_1]
  have b1 := mul_bd (a := (P 1).toInt - 1) (b := d.toInt) (A := 8) (B := 40) (by omega) (by omega) d0 d1
  have e2 : ((P 1 - 1) * d).toInt = ((P 1).toInt - 1) * d.toInt := by
    rw [fb_mulI (by rw [e1]; omega) (by rw [e1]; omega), e1]
  have e3 : (40 + (P 1 - 1) * d).toInt = 40 + ((P 1).toInt - 1) * d.toInt := by
    rw [fb_addI (by rw [e2, i_40]; omega) (by rw [e2, i_40]; omega), e2, i_40]
  have b2 := mul_bd (a := (P 0).toInt) (b := 40 + ((P 1).toInt - 1) * d.toInt) (A := 9) (B := 360) (by omega) h0.2 (by omega) (by omega)
  have b3 := mul_lo (a := (P 0).toInt) (b := 40 + ((P 1).toInt - 1) * d.toInt) (lo := 40) (by omega) (by omega) h0.1 (by omega)
  have e4 : (kCap P d).toInt = (P 0).toInt * (40 + ((P 1).toInt - 1) * d.toInt) := by
    unfold kCap
    rw [fb_mulI (by rw [e3]; omega) (by rw [e3]; omega), e3]
  exact ⟨e4, by rw [e4]; exact b3, by rw [e4]; omega⟩
theorem l_0 : (0 : Int64).toInt = 0 := by decide
theorem kCap_ne {P : Nat → Int32} {d : Int32} (h : kOk P) (hd : kDp d) : ¬ (kCap P d).toInt64 = 0 := by
  obtain ⟨-, h2, h3⟩ := kCap_int h hd
  intro e
  have := congrArg Int64.toInt e
  rw [Int32.toInt_toInt64, l_0] at this
  omega
theorem kCap_nn {P : Nat → Int32} {d : Int32} (h : kOk P) (hd : kDp d) : ¬ (kCap P d).toInt64 * (kCap P d).toInt64 = 0 := by
  obtain ⟨-, h2, h3⟩ := kCap_int h hd
  intro e
  have := congrArg Int64.toInt e
  have b := mul_bd (a := (kCap P d).toInt) (b := (kCap P d).toInt) (A := 3240) (B := 3240) (by omega) h3 (by omega) h3
  have c := mul_lo (a := (kCap P d).toInt) (b := (kCap P d).toInt) (lo := 40) (by omega) h2 (by omega) (by omega)
  rw [fb_mulL (by rw [Int32.toInt_toInt64]; omega) (by rw [Int32.toInt_toInt64]; omega), Int32.toInt_toInt64, l_0] at this
  omega
def kWhy (P : Nat → Int32) : Int32 := if 0 < kMove P (P 6) (kNet P) then 0 else if kMove P (P 6) (kNet P) < 0 then 1 else if kNet P = 0 then 2 else if kSize (kNet P) ≤ P 4 then 3 else 4
end
section
/-! the bounds stay: leaks, steps, the battery -/
theorem divL {a b : Int64} (ha : 0 ≤ a.toInt) (hb : 0 < b.toInt) : (a / b).toInt = a.toInt / b.toInt := by
  have h1 := Int.ediv_nonneg ha (Int.le_of_lt hb)
  have h2 := Int.ediv_le_self b.toInt ha
  have h3 := fb_rngL a
  rw [Int64.toInt_div, Int.tdiv_eq_ediv_of_nonneg ha, fb_bmodL (by omega) (by omega)]
theorem divI {a b : Int32} (ha : 0 ≤ a.toInt) (hb : 0 < b.toInt) : (a / b).toInt = a.toInt / b.toInt := by
  have h1 := Int.ediv_nonneg ha (Int.le_of_lt hb)
  have h2 := Int.ediv_le_self b.toInt ha
  have h3 := fb_rng a
  rw [Int32.toInt_div, Int.tdiv_eq_ediv_of_nonneg ha, fb_bmod (by omega) (by omega)]
theorem l_1000 : (1000 : Int64).toInt = 1000 := by decide
theorem i_1000 : (1000 : Int32).toInt = 1000 := by decide
theorem i_0 : (0 : Int32).toInt = 0 := by decide
theorem i_m1 : (-1 : Int32).toInt = -1 := by decide
theorem kLeak_int {P : Nat → Int32} {q : Int32} (hl : 0 ≤ (P 5).toInt ∧ (P 5).toInt ≤ 100) (hq : 0 ≤ q.toInt ∧ q.toInt ≤ 200000) : (kLeak P q).toInt = q.toInt * (P 5).toInt / 1000 ∧ 0 ≤ (kLeak P q).toInt ∧ (kLeak P q).toInt ≤ q.toInt := by
  have b := mul_bd hq.1 hq.2 hl.1 hl.2
  have b2 : q.toInt * (P 5).toInt ≤ q.toInt * 1000 := Int.mul_le_mul_of_nonneg_left (by omega) hq.1
  have e1 : (q.toInt64 * (P 5).toInt64).toInt = q.toInt * (P 5).toInt := by
    rw [fb_mulL (by rw [Int32.toInt_toInt64, Int32.toInt_toInt64]; omega) (by rw [Int32.toInt_toInt64, Int32.toInt_toInt64]; omega), Int32.toInt_toInt64, Int32.toInt_toInt64]
  have e2 : (q.toInt64 * (P 5).toInt64 / 1000).toInt = q.toInt * (P 5).toInt / 1000 := by
    rw [divL (by rw [e1]; omega) (by rw [l_1000]; omega), e1, l_1000]
  have e3 : (kLeak P q).toInt = q.toInt * (P 5).toInt / 1000 := by
    unfold kLeak
    rw [Int64.toInt_toInt32, e2, fb_bmod (by omega) (by omega)]
  exact ⟨e3, by rw [e3]; omega, by rw [e3]; omega⟩
/-- the first program's leak is taken in ints -/
theorem kLeak_cls {P : Nat → Int32} {q : Int32} (hl : 0 ≤ (P 5).toInt ∧ (P 5).toInt ≤ 100) (hq : 0 ≤ q.toInt ∧ q.toInt ≤ 200000) : q * P 5 / 1000 = kLeak P q := by
  have b := mul_bd hq.1 hq.2 hl.1 hl.2
  have e1 : (q * P 5).toInt = q.toInt * (P 5).toInt := fb_mulI (by omega) (by omega)
  rw [fa_eq, (kLeak_int hl hq).1, divI (by rw [e1]; omega) (by rw [i_1000]; omega), e1, i_1000]
theorem kOk_5 {P : Nat → Int32} (h : kOk P) : 0 ≤ (P 5).toInt ∧ (P 5).toInt ≤ 100 := h.2.2.2.2.2.1
theorem kOk_7 {P : Nat → Int32} (h : kOk P) : 0 ≤ (P 7).toInt ∧ (P 7).toInt ≤ 200000 := h.2.2.2.2.2.2.2.1
theorem kOk_8 {P : Nat → Int32} (h : kOk P) : 0 ≤ (P 8).toInt ∧ (P 8).toInt ≤ 30 := h.2.2.2.2.2.2.2.2.1
theorem kOk_9 {P : Nat → Int32} (h : kOk P) : P 9 = 0 ∨ P 9 = 1 := h.2.2.2.2.2.2.2.2.2
theorem kOk_4 {P : Nat → Int32} (h : kOk P) : 0 ≤ (P 4).toInt ∧ (P 4).toInt ≤ 9999 := h.2.2.2.2.1
theorem kOk_u7 {P : Nat → Int32} {x : Int32} (h : kOk P) (hx : 0 ≤ x.toInt ∧ x.toInt ≤ 200000) : kOk (upd P 7 x) := by
  obtain ⟨h0, h1, h2, h3, h4, h5, h6, h7, h8, h9⟩ := h
  exact ⟨h0, h1, h2, h3, h4, h5, h6, hx, h8, h9⟩
theorem kOk_u6 {P : Nat → Int32} {x : Int32} (h : kOk P) (hx : kDp x) : kOk (upd P 6 x) := by
  obtain ⟨h0, h1, h2, h3, h4, h5, h6, h7, h8, h9⟩ := h
  exact ⟨h0, h1, h2, h3, h4, h5, hx, h7, h8, h9⟩
theorem kOk_u9 {P : Nat → Int32} {x : Int32} (h : kOk P) (hx : x = 0 ∨ x = 1) : kOk (upd P 9 x) := by
  obtain ⟨h0, h1, h2, h3, h4, h5, h6, h7, h8, h9⟩ := h
  exact ⟨h0, h1, h2, h3, h4, h5, h6, h7, h8, hx⟩
theorem kOk_u8 {P : Nat → Int32} {x : Int32} (h : kOk P) (hx : 0 ≤ x.toInt ∧ x.toInt ≤ 30) : kOk (upd P 8 x) := by
  obtain ⟨h0, h1, h2, h3, h4, h5, h6, h7, h8, h9⟩ := h
  exact ⟨h0, h1, h2, h3, h4, h5, h6, h7, hx, h9⟩
theorem leakQ {P : Nat → Int32} (h : kOk P) {q : Int32} (hq : 0 ≤ q.toInt ∧ q.toInt ≤ 200000) : 0 ≤ (q - kLeak P q).toInt ∧ (q - kLeak P q).toInt ≤ 200000 := by
  obtain ⟨-, h1, h2⟩ := kLeak_int (kOk_5 h) hq
  rw [fb_subI (by omega) (by omega)]
  omega
theorem kOk_leak {P : Nat → Int32} (h : kOk P) : kOk (kLeakP P) := by
  unfold kLeakP
  split
  · exact h
  · exact kOk_u7 h (leakQ h (kOk_7 h))
theorem moveD {P : Nat → Int32} {d n : Int32} (hd : kDp d) : kDp (d + kMove P d n) := by
  unfold kDp at hd ⊢
  unfold kMove
  split
  · rw [Int32.add_zero]; exact hd
  · split
    · split
      · rename_i h
        rw [fa_lt, i_40] at h
        rw [fb_addI (by rw [i_1]; omega) (by rw [i_1]; omega), i_1]; omega
      · rw [Int32.add_zero]; exact hd
    · split
      · rename_i h
        rw [fa_lt, i_0] at h
        rw [fb_addI (by rw [i_m1]; omega) (by rw [i_m1]; omega), i_m1]; omega
      · rw [Int32.add_zero]; exact hd
theorem kOk_step {P : Nat → Int32} (h : kOk P) : kOk (kStepP P) := kOk_u6 h (moveD (kOk_d h))
theorem holdQ {P : Nat → Int32} (h : kOk P) : 0 ≤ (kCap P (P 6) * P 8).toInt ∧ (kCap P (P 6) * P 8).toInt ≤ 200000 := by
  obtain ⟨-, h1, h2⟩ := kCap_int h (kOk_d h)
  have h8 := kOk_8 h
  have b := mul_bd (a := (kCap P (P 6)).toInt) (b := (P 8).toInt) (A := 3240) (B := 30) (by omega) h2 h8.1 h8.2
  rw [fb_mulI (by omega) (by omega)]
  omega
theorem kOk_hold {P : Nat → Int32} (h : kOk P) : kOk (kHoldP P) := by
  unfold kHoldP
  split
  · exact kOk_u7 h (holdQ h)
  · exact h
theorem kOk_tick {P : Nat → Int32} (h : kOk P) : kOk (kTickP P) := kOk_hold (kOk_step (kOk_leak h))
theorem kOk_up {P : Nat → Nat → Int32} (h : ∀ p, p < 4 → kOk (P p)) {q : Nat} {V : Nat → Int32} (hV : kOk V) : ∀ p, p < 4 → kOk (va_up P q V p) := by
  intro p hp
  unfold va_up
  split
  · exact hV
  · exact h p hp
end
section
/-! what the acts do to the numbers: t the tick (0), couplings (1), steps (2); P the pairs; E their books (0 gave, 1 leaked, 2 sparks) -/
abbrev SG : Type := (Nat → Int32) × (Nat → Nat → Int32) × (Nat → Nat → Int64)
def oLay (p k : Nat) (x : Int32) (g : SG) : Int32 × SG := if g.2.1 p k = x then (-5, g) else (g.2.1 p k, (g.1, va_up g.2.1 p (kHoldP (upd (g.2.1 p) k x)), va_up g.2.2 p (kHoldE (upd (g.2.1 p) k x) (g.2.2 p))))
def kOnP (V : Nat → Int32) (v : Int32) : Nat → Int32 := upd (upd V 9 1) 8 v
def oOn (p : Nat) (v : Int32) (g : SG) : Int32 × SG := if g.2.1 p 9 = 1 ∧ g.2.1 p 8 = v then (-5, g) else (kHoldP (kOnP (g.2.1 p) v) 7, (g.1, va_up g.2.1 p (kHoldP (kOnP (g.2.1 p) v)), va_up g.2.2 p (kHoldE (kOnP (g.2.1 p) v) (g.2.2 p))))
def oOff (p : Nat) (g : SG) : Int32 × SG := if ¬ g.2.1 p 9 = 1 then (-5, g) else (g.2.1 p 7, (g.1, va_up g.2.1 p (upd (g.2.1 p) 9 0), g.2.2))
/-- a tick of all pairs -/
def kMv (P : Nat → Nat → Int32) : Int32 := kMoved (P 0) + kMoved (P 1) + kMoved (P 2) + kMoved (P 3)
def kAll (P : Nat → Nat → Int32) : Nat → Nat → Int32 := va_up (va_up (va_up (va_up P 0 (kTickP (P 0))) 1 (kTickP (P 1))) 2 (kTickP (P 2))) 3 (kTickP (P 3))
def kAllE (P : Nat → Nat → Int32) (E : Nat → Nat → Int64) : Nat → Nat → Int64 := va_up (va_up (va_up (va_up E 0 (kTickE (P 0) (E 0))) 1 (kTickE (P 1) (E 1))) 2 (kTickE (P 2) (E 2))) 3 (kTickE (P 3) (E 3))
def oTick (g : SG) : SG := (upd g.1 2 (g.1 2 + kMv g.2.1), kAll g.2.1, kAllE g.2.1 g.2.2)
def oTicks : Nat → SG → SG
  | 0, g => g
  | n + 1, g => oTick (oTicks n g)
def kLast : Nat → SG → Int32
  | 0, _ => 0
  | n + 1, g => kMv (oTicks n g).2.1
def oPass (n : Nat) (g : SG) : Int32 × SG := if 99999 < g.1 0 + nI n then (-3, g) else (kLast n g, (upd (oTicks n g).1 0 ((oTicks n g).1 0 + nI n), (oTicks n g).2))
/-- sharing charges -/
def kMine (V U : Nat → Int32) : Int32 := ((V 7 + U 7).toInt64 * (kCap V (V 6)).toInt64 / (kCap V (V 6) + kCap U (U 6)).toInt64).toInt32
def kRest (V U : Nat → Int32) : Int32 := (V 7 + U 7).toInt64.toInt32 - kMine V U
def kLoss (V U : Nat → Int32) : Int64 := kStored V + kStored U - kStored (upd V 7 (kMine V U)) - kStored (upd U 7 (kRest V U))
def oCpl (p q : Nat) (g : SG) : Int32 × SG := if p = q then (-2, g) else if g.2.1 p 9 = 1 ∨ g.2.1 q 9 = 1 then (-4, g) else if 200000 < kMine (g.2.1 p) (g.2.1 q) ∨ 200000 < kRest (g.2.1 p) (g.2.1 q) then (-3, g) else if kMine (g.2.1 p) (g.2.1 q) = g.2.1 p 7 then (-5, g)
  else (kMine (g.2.1 p) (g.2.1 q), (upd g.1 1 (g.1 1 + 1), va_up (va_up g.2.1 p (upd (g.2.1 p) 7 (kMine (g.2.1 p) (g.2.1 q)))) q (upd (g.2.1 q) 7 (kRest (g.2.1 p) (g.2.1 q))), va_up (va_up g.2.2 p (vp_updL (g.2.2 p) 2 (g.2.2 p 2 + kHalf (kLoss (g.2.1 p) (g.2.1 q))))) q (vp_updL (g.2.2 q) 2 (g.2.2 q 2 + (kLoss (g.2.1 p) (g.2.1 q) - kHalf (kLoss (g.2.1 p) (g.2.1 q)))))))
theorem upd_upd (f : Nat → Int32) (k : Nat) (x y : Int32) : upd (upd f k x) k y = upd f k y := by
  funext j
  unfold upd
  by_cases h : j = k
  · rw [if_pos h, if_pos h]
  · rw [if_neg h, if_neg h, if_neg h]
theorem kOk_all {P : Nat → Nat → Int32} (h : ∀ p, p < 4 → kOk (P p)) : ∀ p, p < 4 → kOk (kAll P p) :=
  kOk_up (kOk_up (kOk_up (kOk_up h (kOk_tick (h 0 (by decide)))) (kOk_tick (h 1 (by decide)))) (kOk_tick (h 2 (by decide)))) (kOk_tick (h 3 (by decide)))
theorem kOk_ticks {g : SG} (h : ∀ p, p < 4 → kOk (g.2.1 p)) : ∀ n, ∀ p, p < 4 → kOk ((oTicks n g).2.1 p)
  | 0 => h
  | n + 1 => kOk_all (kOk_ticks h n)
end
section
/-! sharing: the bounds -/
theorem i_200 : (200000 : Int32).toInt = 200000 := by decide
theorem capsum {V U : Nat → Int32} (hV : kOk V) (hU : kOk U) : (kCap V (V 6) + kCap U (U 6)).toInt = (kCap V (V 6)).toInt + (kCap U (U 6)).toInt := by
  obtain ⟨-, a1, a2⟩ := kCap_int hV (kOk_d hV)
  obtain ⟨-, b1, b2⟩ := kCap_int hU (kOk_d hU)
  exact fb_addI (by omega) (by omega)
theorem kCap_ne2 {V U : Nat → Int32} (hV : kOk V) (hU : kOk U) : ¬ (kCap V (V 6) + kCap U (U 6)).toInt64 = 0 := by
  obtain ⟨-, a1, a2⟩ := kCap_int hV (kOk_d hV)
  obtain ⟨-, b1, b2⟩ := kCap_int hU (kOk_d hU)
  intro e
  have := congrArg Int64.toInt e
  rw [Int32.toInt_toInt64, l_0, capsum hV hU] at this
  omega
theorem allsum {V U : Nat → Int32} (hV : kOk V) (hU : kOk U) : (V 7 + U 7).toInt = (V 7).toInt + (U 7).toInt := by
  have h1 := kOk_7 hV
  have h2 := kOk_7 hU
  exact fb_addI (by omega) (by omega)
theorem i_l_i (x : Int32) : x.toInt64.toInt32 = x := by
  have h := fb_rng x
  rw [fa_eq, Int64.toInt_toInt32, Int32.toInt_toInt64, fb_bmod h.1 h.2]
theorem share_bd {x cv cu : Int} (hx : 0 ≤ x) (h1 : 40 ≤ cv) (h2 : 40 ≤ cu) : 0 ≤ x * cv / (cv + cu) ∧ x * cv / (cv + cu) ≤ x := by
  have hle : x * cv ≤ x * (cv + cu) := Int.mul_le_mul_of_nonneg_left (by omega) hx
  refine ⟨Int.ediv_nonneg (Int.mul_nonneg hx (by omega)) (by omega), ?_⟩
  have := Int.ediv_le_ediv (show 0 < cv + cu by omega) hle
  rw [Int.mul_ediv_cancel _ (by omega)] at this
  exact this
theorem kMine_int {V U : Nat → Int32} (hV : kOk V) (hU : kOk U) : (kMine V U).toInt = ((V 7).toInt + (U 7).toInt) * (kCap V (V 6)).toInt / ((kCap V (V 6)).toInt + (kCap U (U 6)).toInt) ∧ 0 ≤ (kMine V U).toInt ∧ (kMine V U).toInt ≤ (V 7).toInt + (U 7).toInt := by
  obtain ⟨-, a1, a2⟩ := kCap_int hV (kOk_d hV)
  obtain ⟨-, b1, b2⟩ := kCap_int hU (kOk_d hU)
  have h1 := kOk_7 hV
  have h2 := kOk_7 hU
  have b := mul_bd (a := (V 7).toInt + (U 7).toInt) (b := (kCap V (V 6)).toInt) (A := 400000) (B := 3240) (by omega) (by omega) (by omega) a2
  have d := share_bd (x := (V 7).toInt + (U 7).toInt) (by omega) a1 b1
  have e1 : ((V 7 + U 7).toInt64 * (kCap V (V 6)).toInt64).toInt = ((V 7).toInt + (U 7).toInt) * (kCap V (V 6)).toInt := by
    rw [fb_mulL (by rw [Int32.toInt_toInt64, Int32.toInt_toInt64, allsum hV hU]; omega) (by rw [Int32.toInt_toInt64, Int32.toInt_toInt64, allsum hV hU]; omega), Int32.toInt_toInt64, Int32.toInt_toInt64, allsum hV hU]
  have e2 : ((V 7 + U 7).toInt64 * (kCap V (V 6)).toInt64 / (kCap V (V 6) + kCap U (U 6)).toInt64).toInt = ((V 7).toInt + (U 7).toInt) * (kCap V (V 6)).toInt / ((kCap V (V 6)).toInt + (kCap U (U 6)).toInt) := by
    rw [divL (by rw [e1]; omega) (by rw [Int32.toInt_toInt64, capsum hV hU]; omega), e1, Int32.toInt_toInt64, capsum hV hU]
  have e3 : (kMine V U).toInt = ((V 7).toInt + (U 7).toInt) * (kCap V (V 6)).toInt / ((kCap V (V 6)).toInt + (kCap U (U 6)).toInt) := by
    unfold kMine
    rw [Int64.toInt_toInt32, e2, fb_bmod (by omega) (by omega)]
  exact ⟨e3, by rw [e3]; exact d.1, by rw [e3]; exact d.2⟩
theorem kMine_bd {V U : Nat → Int32} (hV : kOk V) (hU : kOk U) (h : ¬ (200000 < kMine V U ∨ 200000 < kRest V U)) : 0 ≤ (kMine V U).toInt ∧ (kMine V U).toInt ≤ 200000 := by
  obtain ⟨-, a, -⟩ := kMine_int hV hU
  have := Int32.not_lt.mp (fun z => h (Or.inl z))
  rw [fa_le] at this
  exact ⟨a, by rw [i_200] at this; exact this⟩
theorem kRest_bd {V U : Nat → Int32} (hV : kOk V) (hU : kOk U) (h : ¬ (200000 < kMine V U ∨ 200000 < kRest V U)) : 0 ≤ (kRest V U).toInt ∧ (kRest V U).toInt ≤ 200000 := by
  obtain ⟨-, a, b⟩ := kMine_int hV hU
  have h1 := kOk_7 hV
  have h2 := kOk_7 hU
  have e : (kRest V U).toInt = (V 7).toInt + (U 7).toInt - (kMine V U).toInt := by
    unfold kRest
    rw [i_l_i, fb_subI (by rw [allsum hV hU]; omega) (by rw [allsum hV hU]; omega), allsum hV hU]
  have := Int32.not_lt.mp (fun z => h (Or.inr z))
  rw [fa_le] at this
  exact ⟨by rw [e]; omega, by rw [i_200] at this; exact this⟩
end
section
theorem pdX6_in : yX6_in.cls = RX6 ∧ yX6_in.cls ≠ "java/lang/invoke/MethodHandle" ∧ yX6_in.cls ≠ "java/lang/invoke/VarHandle" ∧ (parseMethodDescriptor yX6_in.desc).map (fun d => d.parameters.length) = some 3 := by decide +kernel
theorem pdX6_isPair : yX6_isPair.cls = RX6 ∧ yX6_isPair.cls ≠ "java/lang/invoke/MethodHandle" ∧ yX6_isPair.cls ≠ "java/lang/invoke/VarHandle" ∧ (parseMethodDescriptor yX6_isPair.desc).map (fun d => d.parameters.length) = some 1 := by decide +kernel
theorem pdX6_at : yX6_at.cls = RX6 ∧ yX6_at.cls ≠ "java/lang/invoke/MethodHandle" ∧ yX6_at.cls ≠ "java/lang/invoke/VarHandle" ∧ (parseMethodDescriptor yX6_at.desc).map (fun d => d.parameters.length) = some 2 := by decide +kernel
theorem pdX6_of : yX6_of.cls = RX6 ∧ yX6_of.cls ≠ "java/lang/invoke/MethodHandle" ∧ yX6_of.cls ≠ "java/lang/invoke/VarHandle" ∧ (parseMethodDescriptor yX6_of.desc).map (fun d => d.parameters.length) = some 2 := by decide +kernel
theorem pdX6_isOn : yX6_isOn.cls = RX6 ∧ yX6_isOn.cls ≠ "java/lang/invoke/MethodHandle" ∧ yX6_isOn.cls ≠ "java/lang/invoke/VarHandle" ∧ (parseMethodDescriptor yX6_isOn.desc).map (fun d => d.parameters.length) = some 1 := by decide +kernel
theorem pdX6_capacity : yX6_capacity.cls = RX6 ∧ yX6_capacity.cls ≠ "java/lang/invoke/MethodHandle" ∧ yX6_capacity.cls ≠ "java/lang/invoke/VarHandle" ∧ (parseMethodDescriptor yX6_capacity.desc).map (fun d => d.parameters.length) = some 2 := by decide +kernel
theorem pdX6_capacityNow : yX6_capacityNow.cls = RX6 ∧ yX6_capacityNow.cls ≠ "java/lang/invoke/MethodHandle" ∧ yX6_capacityNow.cls ≠ "java/lang/invoke/VarHandle" ∧ (parseMethodDescriptor yX6_capacityNow.desc).map (fun d => d.parameters.length) = some 1 := by decide +kernel
theorem pdX6_stored : yX6_stored.cls = RX6 ∧ yX6_stored.cls ≠ "java/lang/invoke/MethodHandle" ∧ yX6_stored.cls ≠ "java/lang/invoke/VarHandle" ∧ (parseMethodDescriptor yX6_stored.desc).map (fun d => d.parameters.length) = some 1 := by decide +kernel
theorem pdX6_pullBy : yX6_pullBy.cls = RX6 ∧ yX6_pullBy.cls ≠ "java/lang/invoke/MethodHandle" ∧ yX6_pullBy.cls ≠ "java/lang/invoke/VarHandle" ∧ (parseMethodDescriptor yX6_pullBy.desc).map (fun d => d.parameters.length) = some 2 := by decide +kernel
theorem pdX6_pullOf : yX6_pullOf.cls = RX6 ∧ yX6_pullOf.cls ≠ "java/lang/invoke/MethodHandle" ∧ yX6_pullOf.cls ≠ "java/lang/invoke/VarHandle" ∧ (parseMethodDescriptor yX6_pullOf.desc).map (fun d => d.parameters.length) = some 3 := by decide +kernel
theorem pdX6_pullAt : yX6_pullAt.cls = RX6 ∧ yX6_pullAt.cls ≠ "java/lang/invoke/MethodHandle" ∧ yX6_pullAt.cls ≠ "java/lang/invoke/VarHandle" ∧ (parseMethodDescriptor yX6_pullAt.desc).map (fun d => d.parameters.length) = some 3 := by decide +kernel
theorem pdX6_spring : yX6_spring.cls = RX6 ∧ yX6_spring.cls ≠ "java/lang/invoke/MethodHandle" ∧ yX6_spring.cls ≠ "java/lang/invoke/VarHandle" ∧ (parseMethodDescriptor yX6_spring.desc).map (fun d => d.parameters.length) = some 2 := by decide +kernel
theorem pdX6_net : yX6_net.cls = RX6 ∧ yX6_net.cls ≠ "java/lang/invoke/MethodHandle" ∧ yX6_net.cls ≠ "java/lang/invoke/VarHandle" ∧ (parseMethodDescriptor yX6_net.desc).map (fun d => d.parameters.length) = some 1 := by decide +kernel
theorem pdX6_size : yX6_size.cls = RX6 ∧ yX6_size.cls ≠ "java/lang/invoke/MethodHandle" ∧ yX6_size.cls ≠ "java/lang/invoke/VarHandle" ∧ (parseMethodDescriptor yX6_size.desc).map (fun d => d.parameters.length) = some 1 := by decide +kernel
theorem pdX6_move : yX6_move.cls = RX6 ∧ yX6_move.cls ≠ "java/lang/invoke/MethodHandle" ∧ yX6_move.cls ≠ "java/lang/invoke/VarHandle" ∧ (parseMethodDescriptor yX6_move.desc).map (fun d => d.parameters.length) = some 3 := by decide +kernel
theorem pdX6_leak : yX6_leak.cls = RX6 ∧ yX6_leak.cls ≠ "java/lang/invoke/MethodHandle" ∧ yX6_leak.cls ≠ "java/lang/invoke/VarHandle" ∧ (parseMethodDescriptor yX6_leak.desc).map (fun d => d.parameters.length) = some 2 := by decide +kernel
theorem pdX6_half : yX6_half.cls = RX6 ∧ yX6_half.cls ≠ "java/lang/invoke/MethodHandle" ∧ yX6_half.cls ≠ "java/lang/invoke/VarHandle" ∧ (parseMethodDescriptor yX6_half.desc).map (fun d => d.parameters.length) = some 1 := by decide +kernel
theorem pdX6_least : yX6_least.cls = RX6 ∧ yX6_least.cls ≠ "java/lang/invoke/MethodHandle" ∧ yX6_least.cls ≠ "java/lang/invoke/VarHandle" ∧ (parseMethodDescriptor yX6_least.desc).map (fun d => d.parameters.length) = some 1 := by decide +kernel
theorem pdX6_most : yX6_most.cls = RX6 ∧ yX6_most.cls ≠ "java/lang/invoke/MethodHandle" ∧ yX6_most.cls ≠ "java/lang/invoke/VarHandle" ∧ (parseMethodDescriptor yX6_most.desc).map (fun d => d.parameters.length) = some 1 := by decide +kernel
theorem pdX6_pullNow : yX6_pullNow.cls = RX6 ∧ yX6_pullNow.cls ≠ "java/lang/invoke/MethodHandle" ∧ yX6_pullNow.cls ≠ "java/lang/invoke/VarHandle" ∧ (parseMethodDescriptor yX6_pullNow.desc).map (fun d => d.parameters.length) = some 1 := by decide +kernel
theorem pdX6_why : yX6_why.cls = RX6 ∧ yX6_why.cls ≠ "java/lang/invoke/MethodHandle" ∧ yX6_why.cls ≠ "java/lang/invoke/VarHandle" ∧ (parseMethodDescriptor yX6_why.desc).map (fun d => d.parameters.length) = some 1 := by decide +kernel
theorem inwX6_of_X6 : ∀ w ∈ wsX60, w ∈ wsX6_of := by decide +kernel
theorem inwX6_isOn_X6 : ∀ w ∈ wsX60, w ∈ wsX6_isOn := by decide +kernel
theorem inwX6_capacity_X6 : ∀ w ∈ wsX60, w ∈ wsX6_capacity := by decide +kernel
theorem inwX6_capacityNow_X6 : ∀ w ∈ wsX60, w ∈ wsX6_capacityNow := by decide +kernel
theorem inwX6_stored_X6 : ∀ w ∈ wsX60, w ∈ wsX6_stored := by decide +kernel
theorem inwX6_pullBy_X6 : ∀ w ∈ wsX60, w ∈ wsX6_pullBy := by decide +kernel
theorem inwX6_pullOf_X6 : ∀ w ∈ wsX60, w ∈ wsX6_pullOf := by decide +kernel
theorem inwX6_pullAt_X6 : ∀ w ∈ wsX60, w ∈ wsX6_pullAt := by decide +kernel
theorem inwX6_spring_X6 : ∀ w ∈ wsX60, w ∈ wsX6_spring := by decide +kernel
theorem inwX6_net_X6 : ∀ w ∈ wsX60, w ∈ wsX6_net := by decide +kernel
theorem inwX6_move_X6 : ∀ w ∈ wsX60, w ∈ wsX6_move := by decide +kernel
theorem inwX6_leak_X6 : ∀ w ∈ wsX60, w ∈ wsX6_leak := by decide +kernel
theorem inwX6_pullNow_X6 : ∀ w ∈ wsX60, w ∈ wsX6_pullNow := by decide +kernel
theorem inwX6_why_X6 : ∀ w ∈ wsX60, w ∈ wsX6_why := by decide +kernel
def rmX6_in : Room := { frames := 0, cells := 0, slots := 0, locals := 0 }
set_option maxHeartbeats 4000000 in
set_option maxRecDepth 100000 in
/-- least to most -/
theorem mX6_in (l : Launch) (T : Nat → ClassId) (D : va_G) (v x y : Int32) : RdI l yX6_in wsX6_in rmX6_in T xN D [.int v, .int x, .int y] [] (fun r => r = bI (x ≤ v ∧ v ≤ y)) := by
  refine met_rz (cc := cX6_in) (maxL := 3) (by decide) rfl (Nat.le_of_ble_eq_true rfl) (fun r h => bI_01 h) ?_
  intro p_ e s m args below meth c H ls Q hx hb hts hown hml hX hH hP hK hl hret
  have hl : lv_has ls 3 [(0, .int v), (1, .int x), (2, .int y)] := hl
  refine lv_iload_n hx hb dX6_in_0 rfl (lv_at hl 0 rfl) ?_
  refine lv_iload_n hx hb dX6_in_1 rfl (lv_at hl 1 rfl) ?_
  refine lv_icmp_lt (tgt := 14) hx hb dX6_in_2 (by decide) (fun c2 => ?_) (fun c2 => ?_)
  · skip
    refine lv_iconst (v := 0) hx hb dX6_in_14 (by decide) ?_
    exact hret _ _ _ dX6_in_15 (bI_f (fun h => absurd c2 (Int32.not_lt.mpr h.1)))
  · skip
    refine lv_iload_n hx hb dX6_in_5 rfl (lv_at hl 0 rfl) ?_
    refine lv_iload_n hx hb dX6_in_6 rfl (lv_at hl 2 rfl) ?_
    refine lv_icmp_gt (tgt := 14) hx hb dX6_in_7 (by decide) (fun c7 => ?_) (fun c7 => ?_)
    · skip
      refine lv_iconst (v := 0) hx hb dX6_in_14 (by decide) ?_
      exact hret _ _ _ dX6_in_15 (bI_f (fun h => absurd c7 (Int32.not_lt.mpr h.2)))
    · skip
      refine lv_iconst (v := 1) hx hb dX6_in_10 (by decide) ?_
      refine lv_goto (tgt := 15) hx hb dX6_in_11 (by decide) ?_
      exact hret _ _ _ dX6_in_15 (bI_t ⟨Int32.not_lt.mp c2, Int32.not_lt.mp c7⟩)

def rmX6_isPair : Room := { frames := 1, cells := 0, slots := 0, locals := 22 }
set_option maxHeartbeats 4000000 in
set_option maxRecDepth 100000 in
theorem mX6_isPair (l : Launch) (T : Nat → ClassId) (D : va_G) (v : Int32) : RdI l yX6_isPair wsX6_isPair rmX6_isPair T xN D [.int v] [] (fun r => r = bI (0 ≤ v ∧ v ≤ 3)) := by
  refine met_rz (cc := cX6_isPair) (maxL := 1) (by decide) rfl (Nat.le_of_ble_eq_true rfl) (fun r h => bI_01 h) ?_
  intro p_ e s m args below meth c H ls Q hx hb hts hown hml hX hH hP hK hl hret
  have hl : lv_has ls 1 [(0, .int v)] := hl
  refine lv_iload_n hx hb dX6_isPair_0 rfl (lv_at hl 0 rfl) ?_
  refine lv_iconst (v := 0) hx hb dX6_isPair_1 (by decide) ?_
  refine lv_iconst (v := 3) hx hb dX6_isPair_2 (by decide) ?_
  refine callSi (As := [.int v, .int 0, .int 3]) ⟨hx, hb, hml, hown, hts⟩ (mX6_in l T D v 0 3) (va_cwS 3 hts gX6_isPair_X6_in rfl rfl rfl (pdX6_in).2 ⟨Nat.le_of_ble_eq_true rfl, Nat.le_of_ble_eq_true rfl⟩) wP_nil hK xN_bl (fun U _ hW => XN_warm hW hX) hl.1 rfl rfl (Nat.le_of_ble_eq_true rfl) dX6_isPair_3 ⟨Nat.zero_le _, Nat.zero_le _⟩ (fun r1_ er1_ => ?_)
  obtain rfl : r1_ = bI (0 ≤ v ∧ v ≤ 3) := er1_
  exact hret _ _ _ dX6_isPair_6 rfl

def rmX6_at : Room := { frames := 0, cells := 0, slots := 0, locals := 0 }
set_option maxHeartbeats 4000000 in
set_option maxRecDepth 100000 in
theorem mX6_at (l : Launch) (T : Nat → ClassId) (D : va_G) (p k : Nat) : RdI l yX6_at wsX6_at rmX6_at T xN D [.int (nI p), .int (nI k)] [] (fun r => r = nI (3 + 10 * p + k)) := by
  refine met_ri (cc := cX6_at) (maxL := 2) (by decide) rfl (Nat.le_of_ble_eq_true rfl) ?_
  intro p_ e s m args below meth c H ls Q hx hb hts hown hml hX hH hP hK hl hret
  have hl : lv_has ls 2 [(0, .int (nI p)), (1, .int (nI k))] := hl
  refine lv_iconst (v := nI 3) hx hb dX6_at_0 (by decide) ?_
  refine lv_bipush (v := nI 10) hx hb dX6_at_1 (by decide) ?_
  refine lv_iload_n hx hb dX6_at_3 rfl (lv_at hl 0 rfl) ?_
  refine lv_imul hx hb dX6_at_4 ?_
  refine lv_iadd hx hb dX6_at_5 ?_
  refine lv_iload_n hx hb dX6_at_6 rfl (lv_at hl 1 rfl) ?_
  refine lv_iadd hx hb dX6_at_7 ?_
  exact hret _ _ _ dX6_at_8 (by rw [pk_mul, nI_add, nI_add])

def rmX6_of : Room := { frames := 1, cells := 0, slots := 0, locals := 21 }
set_option maxHeartbeats 4000000 in
set_option maxRecDepth 100000 in
theorem mX6_of (l : Launch) (T : Nat → ClassId) (D : va_G) (a qs : Nat) (fs : List Value) (t : Nat → Int32) (P : Nat → Nat → Int32) (hf : fs[0]? = some (.ref qs)) (p : Nat) (hp : p < 4) (k : Nat) (hk : k < 10) : RdI l yX6_of wsX6_of rmX6_of T xN D [.ref a, .int (nI p), .int (nI k)] [(a, .inr (6, fs)), (qs, .inl (T 0, 43, .inl (mS t P)))] (fun r => r = P p k) := by
  refine met_ri (cc := cX6_of) (maxL := 3) (by decide) rfl (Nat.le_of_ble_eq_true rfl) ?_
  intro p_ e s m args below meth c H ls Q hx hb hts hown hml hX hH hP hK hl hret
  have hl : lv_has ls 3 [(0, .ref a), (1, .int (nI p)), (2, .int (nI k))] := hl
  refine lv_aload_n hx hb dX6_of_0 rfl (lv_at hl 0 rfl) ?_
  refine va_get (D := D) (ci := 6) (v := .ref qs) (C := RX6) (T := TX6) (N := 22) hx hb hts inwX6_of_X6 hown hK hP 0 rfl rfl 0 (by decide) (hts (.fieldLink RX6 7 "PlateSlabsModel" "s" "[I") (List.mem_of_getElem? (i := 1) rfl)) (fun _ h9 => h9) hf dX6_of_1 ?_
  refine lv_iload_n hx hb dX6_of_4 rfl (lv_at hl 1 rfl) ?_
  refine lv_iload_n hx hb dX6_of_5 rfl (lv_at hl 2 rfl) ?_
  refine callSi (As := [.int (nI p), .int (nI k)]) ⟨hx, hb, hml, hown, hts⟩ (mX6_at l T D p k) (va_cwS 2 hts gX6_of_X6_at rfl rfl rfl (pdX6_at).2 ⟨Nat.le_of_ble_eq_true rfl, Nat.le_of_ble_eq_true rfl⟩) wP_nil hK xN_bl (fun U _ hW => XN_warm hW hX) hl.1 rfl rfl (Nat.le_of_ble_eq_true rfl) dX6_of_6 ⟨Nat.zero_le _, Nat.zero_le _⟩ (fun r1_ er1_ => ?_)
  obtain rfl : r1_ = nI (3 + 10 * p + k) := er1_
  refine va_iald hx hb hK hP 1 0 rfl rfl (vp_in_nI (by omega) (by decide)) dX6_of_9 ?_
  refine lv_tpi (congrArg (fun z => (mS t P) z) (nI_clamp (by omega))) ?_
  exact hret _ _ _ dX6_of_10 (mS_at t P hk)

def rmX6_isOn : Room := { frames := 2, cells := 0, slots := 0, locals := 43 }
set_option maxHeartbeats 4000000 in
set_option maxRecDepth 100000 in
theorem mX6_isOn (l : Launch) (T : Nat → ClassId) (D : va_G) (a qs : Nat) (fs : List Value) (t : Nat → Int32) (P : Nat → Nat → Int32) (hf : fs[0]? = some (.ref qs)) (p : Nat) (hp : p < 4) : RdI l yX6_isOn wsX6_isOn rmX6_isOn T xN D [.ref a, .int (nI p)] [(a, .inr (6, fs)), (qs, .inl (T 0, 43, .inl (mS t P)))] (fun r => r = bI (P p 9 = 1)) := by
  refine met_rz (cc := cX6_isOn) (maxL := 2) (by decide) rfl (Nat.le_of_ble_eq_true rfl) (fun r h => bI_01 h) ?_
  intro p_ e s m args below meth c H ls Q hx hb hts hown hml hX hH hP hK hl hret
  have hl : lv_has ls 2 [(0, .ref a), (1, .int (nI p))] := hl
  refine lv_aload_n hx hb dX6_isOn_0 rfl (lv_at hl 0 rfl) ?_
  refine lv_iload_n hx hb dX6_isOn_1 rfl (lv_at hl 1 rfl) ?_
  refine lv_bipush (v := nI 9) hx hb dX6_isOn_2 (by decide) ?_
  refine callRi (As := [.int (nI p), .int (nI 9)]) ⟨hx, hb, hml, hown, hts⟩ (mX6_of l T D a qs fs t P hf p hp 9 (by decide)) (cwV 2 hts gX6_isOn_X6_of rfl rfl rfl pdX6_of ⟨Nat.le_of_ble_eq_true rfl, Nat.le_of_ble_eq_true rfl⟩) hP hK xN_bl (fun U _ hW => XN_warm hW hX) (ci := 6) rfl rfl rfl hl.1 rfl rfl (Nat.le_of_ble_eq_true rfl) dX6_isOn_4 ⟨Nat.zero_le _, Nat.zero_le _⟩ (fun r1_ er1_ => ?_)
  obtain rfl : r1_ = P p 9 := er1_
  refine lv_iconst (v := 1) hx hb dX6_isOn_7 (by decide) ?_
  refine lv_icmp_ne (tgt := 15) hx hb dX6_isOn_8 (by decide) (fun c8 => ?_) (fun c8 => ?_)
  · skip
    refine lv_iconst (v := 0) hx hb dX6_isOn_15 (by decide) ?_
    exact hret _ _ _ dX6_isOn_16 (bI_f c8)
  · skip
    refine lv_iconst (v := 1) hx hb dX6_isOn_11 (by decide) ?_
    refine lv_goto (tgt := 16) hx hb dX6_isOn_12 (by decide) ?_
    exact hret _ _ _ dX6_isOn_16 (bI_t c8)

def rmX6_capacity : Room := { frames := 2, cells := 0, slots := 0, locals := 43 }
set_option maxHeartbeats 4000000 in
set_option maxRecDepth 100000 in
theorem mX6_capacity (l : Launch) (T : Nat → ClassId) (D : va_G) (a qs : Nat) (fs : List Value) (t : Nat → Int32) (P : Nat → Nat → Int32) (hf : fs[0]? = some (.ref qs)) (p : Nat) (hp : p < 4) (d : Int32) : RdI l yX6_capacity wsX6_capacity rmX6_capacity T xN D [.ref a, .int (nI p), .int d] [(a, .inr (6, fs)), (qs, .inl (T 0, 43, .inl (mS t P)))] (fun r => r = kCap (P p) d) := by
  refine met_ri (cc := cX6_capacity) (maxL := 3) (by decide) rfl (Nat.le_of_ble_eq_true rfl) ?_
  intro p_ e s m args below meth c H ls Q hx hb hts hown hml hX hH hP hK hl hret
  have hl : lv_has ls 3 [(0, .ref a), (1, .int (nI p)), (2, .int d)] := hl
  refine lv_aload_n hx hb dX6_capacity_0 rfl (lv_at hl 0 rfl) ?_
  refine lv_iload_n hx hb dX6_capacity_1 rfl (lv_at hl 1 rfl) ?_
  refine lv_iconst (v := nI 0) hx hb dX6_capacity_2 (by decide) ?_
  refine callRi (As := [.int (nI p), .int (nI 0)]) ⟨hx, hb, hml, hown, hts⟩ (mX6_of l T D a qs fs t P hf p hp 0 (by decide)) (cwV 2 hts gX6_capacity_X6_of rfl rfl rfl pdX6_of ⟨Nat.le_of_ble_eq_true rfl, Nat.le_of_ble_eq_true rfl⟩) hP hK xN_bl (fun U _ hW => XN_warm hW hX) (ci := 6) rfl rfl rfl hl.1 rfl rfl (Nat.le_of_ble_eq_true rfl) dX6_capacity_3 ⟨Nat.zero_le _, Nat.zero_le _⟩ (fun r1_ er1_ => ?_)
  obtain rfl : r1_ = P p 0 := er1_
  refine lv_bipush (v := 40) hx hb dX6_capacity_6 (by decide) ?_
  refine lv_aload_n hx hb dX6_capacity_8 rfl (lv_at hl 0 rfl) ?_
  refine lv_iload_n hx hb dX6_capacity_9 rfl (lv_at hl 1 rfl) ?_
  refine lv_iconst (v := nI 1) hx hb dX6_capacity_10 (by decide) ?_
  refine callRi (As := [.int (nI p), .int (nI 1)]) ⟨hx, hb, hml, hown, hts⟩ (mX6_of l T D a qs fs t P hf p hp 1 (by decide)) (cwV 2 hts gX6_capacity_X6_of rfl rfl rfl pdX6_of ⟨Nat.le_of_ble_eq_true rfl, Nat.le_of_ble_eq_true rfl⟩) hP hK xN_bl (fun U _ hW => XN_warm hW hX) (ci := 6) rfl rfl rfl hl.1 rfl rfl (Nat.le_of_ble_eq_true rfl) dX6_capacity_11 ⟨Nat.zero_le _, Nat.zero_le _⟩ (fun r2_ er2_ => ?_)
  obtain rfl : r2_ = P p 1 := er2_
  refine lv_iconst (v := 1) hx hb dX6_capacity_14 (by decide) ?_
  refine lv_isub hx hb dX6_capacity_15 ?_
  refine lv_iload_n hx hb dX6_capacity_16 rfl (lv_at hl 2 rfl) ?_
  refine lv_imul hx hb dX6_capacity_17 ?_
  refine lv_iadd hx hb dX6_capacity_18 ?_
  refine lv_imul hx hb dX6_capacity_19 ?_
  exact hret _ _ _ dX6_capacity_20 rfl

def rmX6_capacityNow : Room := { frames := 3, cells := 0, slots := 0, locals := 65 }
set_option maxHeartbeats 4000000 in
set_option maxRecDepth 100000 in
theorem mX6_capacityNow (l : Launch) (T : Nat → ClassId) (D : va_G) (a qs : Nat) (fs : List Value) (t : Nat → Int32) (P : Nat → Nat → Int32) (hf : fs[0]? = some (.ref qs)) (p : Nat) (hp : p < 4) : RdI l yX6_capacityNow wsX6_capacityNow rmX6_capacityNow T xN D [.ref a, .int (nI p)] [(a, .inr (6, fs)), (qs, .inl (T 0, 43, .inl (mS t P)))] (fun r => r = kCap (P p) (P p 6)) := by
  refine met_ri (cc := cX6_capacityNow) (maxL := 2) (by decide) rfl (Nat.le_of_ble_eq_true rfl) ?_
  intro p_ e s m args below meth c H ls Q hx hb hts hown hml hX hH hP hK hl hret
  have hl : lv_has ls 2 [(0, .ref a), (1, .int (nI p))] := hl
  refine lv_aload_n hx hb dX6_capacityNow_0 rfl (lv_at hl 0 rfl) ?_
  refine lv_iload_n hx hb dX6_capacityNow_1 rfl (lv_at hl 1 rfl) ?_
  refine lv_aload_n hx hb dX6_capacityNow_2 rfl (lv_at hl 0 rfl) ?_
  refine lv_iload_n hx hb dX6_capacityNow_3 rfl (lv_at hl 1 rfl) ?_
  refine lv_bipush (v := nI 6) hx hb dX6_capacityNow_4 (by decide) ?_
  refine callRi (As := [.int (nI p), .int (nI 6)]) ⟨hx, hb, hml, hown, hts⟩ (mX6_of l T D a qs fs t P hf p hp 6 (by decide)) (cwV 2 hts gX6_capacityNow_X6_of rfl rfl rfl pdX6_of ⟨Nat.le_of_ble_eq_true rfl, Nat.le_of_ble_eq_true rfl⟩) hP hK xN_bl (fun U _ hW => XN_warm hW hX) (ci := 6) rfl rfl rfl hl.1 rfl rfl (Nat.le_of_ble_eq_true rfl) dX6_capacityNow_6 ⟨Nat.zero_le _, Nat.zero_le _⟩ (fun r1_ er1_ => ?_)
  obtain rfl : r1_ = P p 6 := er1_
  refine callRi (As := [.int (nI p), .int (P p 6)]) ⟨hx, hb, hml, hown, hts⟩ (mX6_capacity l T D a qs fs t P hf p hp (P p 6)) (cwV 2 hts gX6_capacityNow_X6_capacity rfl rfl rfl pdX6_capacity ⟨Nat.le_of_ble_eq_true rfl, Nat.le_of_ble_eq_true rfl⟩) hP hK xN_bl (fun U _ hW => XN_warm hW hX) (ci := 6) rfl rfl rfl hl.1 rfl rfl (Nat.le_of_ble_eq_true rfl) dX6_capacityNow_9 ⟨Nat.zero_le _, Nat.zero_le _⟩ (fun r2_ er2_ => ?_)
  obtain rfl : r2_ = kCap (P p) (P p 6) := er2_
  exact hret _ _ _ dX6_capacityNow_12 rfl

def rmX6_stored : Room := { frames := 4, cells := 0, slots := 0, locals := 86 }
set_option maxHeartbeats 4000000 in
set_option maxRecDepth 100000 in
theorem mX6_stored (l : Launch) (T : Nat → ClassId) (D : va_G) (a qs : Nat) (fs : List Value) (t : Nat → Int32) (P : Nat → Nat → Int32) (hf : fs[0]? = some (.ref qs)) (p : Nat) (hp : p < 4) (hk : kOk (P p)) : RdL l yX6_stored wsX6_stored rmX6_stored T xN D [.ref a, .int (nI p)] [(a, .inr (6, fs)), (qs, .inl (T 0, 43, .inl (mS t P)))] (fun r => r = kStored (P p)) := by
  refine met_rl (cc := cX6_stored) (maxL := 4) (by decide) rfl (Nat.le_of_ble_eq_true rfl) ?_
  intro p_ e s m args below meth c H ls Q hx hb hts hown hml hX hH hP hK hl hret
  have hl : lv_has ls 4 [(0, .ref a), (1, .int (nI p))] := hl
  refine lv_aload_n hx hb dX6_stored_0 rfl (lv_at hl 0 rfl) ?_
  refine lv_iload_n hx hb dX6_stored_1 rfl (lv_at hl 1 rfl) ?_
  refine lv_bipush (v := nI 7) hx hb dX6_stored_2 (by decide) ?_
  refine callRi (As := [.int (nI p), .int (nI 7)]) ⟨hx, hb, hml, hown, hts⟩ (mX6_of l T D a qs fs t P hf p hp 7 (by decide)) (cwV 2 hts gX6_stored_X6_of rfl rfl rfl pdX6_of ⟨Nat.le_of_ble_eq_true rfl, Nat.le_of_ble_eq_true rfl⟩) hP hK xN_bl (fun U _ hW => XN_warm hW hX) (ci := 6) rfl rfl rfl hl.1 rfl rfl (Nat.le_of_ble_eq_true rfl) dX6_stored_4 ⟨Nat.zero_le _, Nat.zero_le _⟩ (fun r1_ er1_ => ?_)
  obtain rfl : r1_ = P p 7 := er1_
  refine lv_i2l hx hb dX6_stored_7 rfl ?_
  refine lv_topl (fun x1_ ex1_ => ?_)
  refine lv_lstore_n (lv' := [(2, .long x1_), (0, .ref a), (1, .int (nI p))]) hx hb dX6_stored_8 rfl hl (by decide) rfl (fun ls hl => ?_)
  refine lv_aload_n hx hb dX6_stored_9 rfl (lv_at hl 1 rfl) ?_
  refine lv_iload_n hx hb dX6_stored_10 rfl (lv_at hl 2 rfl) ?_
  refine callRi (As := [.int (nI p)]) ⟨hx, hb, hml, hown, hts⟩ (mX6_isOn l T D a qs fs t P hf p hp ) (cwV 1 hts gX6_stored_X6_isOn rfl rfl rfl pdX6_isOn ⟨Nat.le_of_ble_eq_true rfl, Nat.le_of_ble_eq_true rfl⟩) hP hK xN_bl (fun U _ hW => XN_warm hW hX) (ci := 6) rfl rfl rfl hl.1 rfl rfl (Nat.le_of_ble_eq_true rfl) dX6_stored_11 ⟨Nat.zero_le _, Nat.zero_le _⟩ (fun r2_ er2_ => ?_)
  obtain rfl : r2_ = bI (P p 9 = 1) := er2_
  refine lv_if_eq (tgt := 30) hx hb dX6_stored_14 (by decide) (fun c14 => ?_) (fun c14 => ?_)
  · skip
    have c14 := bI_0 c14
    refine lv_lload_n hx hb dX6_stored_30 rfl (lv_at hl 0 rfl) ?_
    refine lv_lload_n hx hb dX6_stored_31 rfl (lv_at hl 0 rfl) ?_
    refine lv_lmul hx hb dX6_stored_32 ?_
    refine lv_aload_n hx hb dX6_stored_33 rfl (lv_at hl 1 rfl) ?_
    refine lv_iload_n hx hb dX6_stored_34 rfl (lv_at hl 2 rfl) ?_
    refine callRi (As := [.int (nI p)]) ⟨hx, hb, hml, hown, hts⟩ (mX6_capacityNow l T D a qs fs t P hf p hp ) (cwV 1 hts gX6_stored_X6_capacityNow rfl rfl rfl pdX6_capacityNow ⟨Nat.le_of_ble_eq_true rfl, Nat.le_of_ble_eq_true rfl⟩) hP hK xN_bl (fun U _ hW => XN_warm hW hX) (ci := 6) rfl rfl rfl hl.1 rfl rfl (Nat.le_of_ble_eq_true rfl) dX6_stored_35 ⟨Nat.zero_le _, Nat.zero_le _⟩ (fun r3_ er3_ => ?_)
    obtain rfl : r3_ = kCap (P p) (P p 6) := er3_
    refine lv_i2l hx hb dX6_stored_38 rfl ?_
    refine lv_ldiv hx hb dX6_stored_39 (kCap_ne hk (kOk_d hk)) ?_
    exact hret _ _ _ dX6_stored_40 (by rw [kStored, if_neg c14, ex1_])
  · skip
    have c14 := bI_n0 c14
    refine lv_aload_n hx hb dX6_stored_17 rfl (lv_at hl 1 rfl) ?_
    refine lv_iload_n hx hb dX6_stored_18 rfl (lv_at hl 2 rfl) ?_
    refine lv_bipush (v := nI 8) hx hb dX6_stored_19 (by decide) ?_
    refine callRi (As := [.int (nI p), .int (nI 8)]) ⟨hx, hb, hml, hown, hts⟩ (mX6_of l T D a qs fs t P hf p hp 8 (by decide)) (cwV 2 hts gX6_stored_X6_of rfl rfl rfl pdX6_of ⟨Nat.le_of_ble_eq_true rfl, Nat.le_of_ble_eq_true rfl⟩) hP hK xN_bl (fun U _ hW => XN_warm hW hX) (ci := 6) rfl rfl rfl hl.1 rfl rfl (Nat.le_of_ble_eq_true rfl) dX6_stored_21 ⟨Nat.zero_le _, Nat.zero_le _⟩ (fun r4_ er4_ => ?_)
    obtain rfl : r4_ = P p 8 := er4_
    refine lv_i2l hx hb dX6_stored_24 rfl ?_
    refine lv_lload_n hx hb dX6_stored_25 rfl (lv_at hl 0 rfl) ?_
    refine lv_lmul hx hb dX6_stored_26 ?_
    refine lv_goto (tgt := 40) hx hb dX6_stored_27 (by decide) ?_
    exact hret _ _ _ dX6_stored_40 (by rw [kStored, if_pos c14, ex1_])

def rmX6_pullBy : Room := { frames := 2, cells := 0, slots := 0, locals := 43 }
set_option maxHeartbeats 4000000 in
set_option maxRecDepth 100000 in
theorem mX6_pullBy (l : Launch) (T : Nat → ClassId) (D : va_G) (a qs : Nat) (fs : List Value) (t : Nat → Int32) (P : Nat → Nat → Int32) (hf : fs[0]? = some (.ref qs)) (p : Nat) (hp : p < 4) (v : Int32) : RdI l yX6_pullBy wsX6_pullBy rmX6_pullBy T xN D [.ref a, .int (nI p), .int v] [(a, .inr (6, fs)), (qs, .inl (T 0, 43, .inl (mS t P)))] (fun r => r = kPullBy (P p) v) := by
  refine met_ri (cc := cX6_pullBy) (maxL := 3) (by decide) rfl (Nat.le_of_ble_eq_true rfl) ?_
  intro p_ e s m args below meth c H ls Q hx hb hts hown hml hX hH hP hK hl hret
  have hl : lv_has ls 3 [(0, .ref a), (1, .int (nI p)), (2, .int v)] := hl
  refine lv_aload_n hx hb dX6_pullBy_0 rfl (lv_at hl 0 rfl) ?_
  refine lv_iload_n hx hb dX6_pullBy_1 rfl (lv_at hl 1 rfl) ?_
  refine lv_iconst (v := nI 0) hx hb dX6_pullBy_2 (by decide) ?_
  refine callRi (As := [.int (nI p), .int (nI 0)]) ⟨hx, hb, hml, hown, hts⟩ (mX6_of l T D a qs fs t P hf p hp 0 (by decide)) (cwV 2 hts gX6_pullBy_X6_of rfl rfl rfl pdX6_of ⟨Nat.le_of_ble_eq_true rfl, Nat.le_of_ble_eq_true rfl⟩) hP hK xN_bl (fun U _ hW => XN_warm hW hX) (ci := 6) rfl rfl rfl hl.1 rfl rfl (Nat.le_of_ble_eq_true rfl) dX6_pullBy_3 ⟨Nat.zero_le _, Nat.zero_le _⟩ (fun r1_ er1_ => ?_)
  obtain rfl : r1_ = P p 0 := er1_
  refine lv_aload_n hx hb dX6_pullBy_6 rfl (lv_at hl 0 rfl) ?_
  refine lv_iload_n hx hb dX6_pullBy_7 rfl (lv_at hl 1 rfl) ?_
  refine lv_iconst (v := nI 1) hx hb dX6_pullBy_8 (by decide) ?_
  refine callRi (As := [.int (nI p), .int (nI 1)]) ⟨hx, hb, hml, hown, hts⟩ (mX6_of l T D a qs fs t P hf p hp 1 (by decide)) (cwV 2 hts gX6_pullBy_X6_of rfl rfl rfl pdX6_of ⟨Nat.le_of_ble_eq_true rfl, Nat.le_of_ble_eq_true rfl⟩) hP hK xN_bl (fun U _ hW => XN_warm hW hX) (ci := 6) rfl rfl rfl hl.1 rfl rfl (Nat.le_of_ble_eq_true rfl) dX6_pullBy_9 ⟨Nat.zero_le _, Nat.zero_le _⟩ (fun r2_ er2_ => ?_)
  obtain rfl : r2_ = P p 1 := er2_
  refine lv_iconst (v := 1) hx hb dX6_pullBy_12 (by decide) ?_
  refine lv_isub hx hb dX6_pullBy_13 ?_
  refine lv_imul hx hb dX6_pullBy_14 ?_
  refine lv_iload_n hx hb dX6_pullBy_15 rfl (lv_at hl 2 rfl) ?_
  refine lv_imul hx hb dX6_pullBy_16 ?_
  refine lv_iload_n hx hb dX6_pullBy_17 rfl (lv_at hl 2 rfl) ?_
  refine lv_imul hx hb dX6_pullBy_18 ?_
  exact hret _ _ _ dX6_pullBy_19 rfl

def rmX6_pullOf : Room := { frames := 3, cells := 0, slots := 0, locals := 65 }
set_option maxHeartbeats 4000000 in
set_option maxRecDepth 100000 in
theorem mX6_pullOf (l : Launch) (T : Nat → ClassId) (D : va_G) (a qs : Nat) (fs : List Value) (t : Nat → Int32) (P : Nat → Nat → Int32) (hf : fs[0]? = some (.ref qs)) (p : Nat) (hp : p < 4) (d q : Int32) (hk : kOk (P p)) (hd : kDp d) : RdI l yX6_pullOf wsX6_pullOf rmX6_pullOf T xN D [.ref a, .int (nI p), .int d, .int q] [(a, .inr (6, fs)), (qs, .inl (T 0, 43, .inl (mS t P)))] (fun r => r = kPullOf (P p) d q) := by
  refine met_ri (cc := cX6_pullOf) (maxL := 8) (by decide) rfl (Nat.le_of_ble_eq_true rfl) ?_
  intro p_ e s m args below meth c H ls Q hx hb hts hown hml hX hH hP hK hl hret
  have hl : lv_has ls 8 [(0, .ref a), (1, .int (nI p)), (2, .int d), (3, .int q)] := hl
  refine lv_iload_n hx hb dX6_pullOf_0 rfl (lv_at hl 3 rfl) ?_
  refine lv_i2l hx hb dX6_pullOf_1 rfl ?_
  refine lv_topl (fun x1_ ex1_ => ?_)
  refine lv_lstore (lv' := [(4, .long x1_), (0, .ref a), (1, .int (nI p)), (2, .int d), (3, .int q)]) hx hb dX6_pullOf_2 hl (by decide) rfl (fun ls hl => ?_)
  refine lv_aload_n hx hb dX6_pullOf_4 rfl (lv_at hl 1 rfl) ?_
  refine lv_iload_n hx hb dX6_pullOf_5 rfl (lv_at hl 2 rfl) ?_
  refine lv_iload_n hx hb dX6_pullOf_6 rfl (lv_at hl 3 rfl) ?_
  refine callRi (As := [.int (nI p), .int d]) ⟨hx, hb, hml, hown, hts⟩ (mX6_capacity l T D a qs fs t P hf p hp d) (cwV 2 hts gX6_pullOf_X6_capacity rfl rfl rfl pdX6_capacity ⟨Nat.le_of_ble_eq_true rfl, Nat.le_of_ble_eq_true rfl⟩) hP hK xN_bl (fun U _ hW => XN_warm hW hX) (ci := 6) rfl rfl rfl hl.1 rfl rfl (Nat.le_of_ble_eq_true rfl) dX6_pullOf_7 ⟨Nat.zero_le _, Nat.zero_le _⟩ (fun r1_ er1_ => ?_)
  obtain rfl : r1_ = kCap (P p) d := er1_
  refine lv_i2l hx hb dX6_pullOf_10 rfl ?_
  refine lv_topl (fun x2_ ex2_ => ?_)
  refine lv_lstore (lv' := [(6, .long x2_), (4, .long x1_), (0, .ref a), (1, .int (nI p)), (2, .int d), (3, .int q)]) hx hb dX6_pullOf_11 hl (by decide) rfl (fun ls hl => ?_)
  refine lv_aload_n hx hb dX6_pullOf_13 rfl (lv_at hl 2 rfl) ?_
  refine lv_iload_n hx hb dX6_pullOf_14 rfl (lv_at hl 3 rfl) ?_
  refine lv_iconst (v := nI 0) hx hb dX6_pullOf_15 (by decide) ?_
  refine callRi (As := [.int (nI p), .int (nI 0)]) ⟨hx, hb, hml, hown, hts⟩ (mX6_of l T D a qs fs t P hf p hp 0 (by decide)) (cwV 2 hts gX6_pullOf_X6_of rfl rfl rfl pdX6_of ⟨Nat.le_of_ble_eq_true rfl, Nat.le_of_ble_eq_true rfl⟩) hP hK xN_bl (fun U _ hW => XN_warm hW hX) (ci := 6) rfl rfl rfl hl.1 rfl rfl (Nat.le_of_ble_eq_true rfl) dX6_pullOf_16 ⟨Nat.zero_le _, Nat.zero_le _⟩ (fun r2_ er2_ => ?_)
  obtain rfl : r2_ = P p 0 := er2_
  refine lv_aload_n hx hb dX6_pullOf_19 rfl (lv_at hl 2 rfl) ?_
  refine lv_iload_n hx hb dX6_pullOf_20 rfl (lv_at hl 3 rfl) ?_
  refine lv_iconst (v := nI 1) hx hb dX6_pullOf_21 (by decide) ?_
  refine callRi (As := [.int (nI p), .int (nI 1)]) ⟨hx, hb, hml, hown, hts⟩ (mX6_of l T D a qs fs t P hf p hp 1 (by decide)) (cwV 2 hts gX6_pullOf_X6_of rfl rfl rfl pdX6_of ⟨Nat.le_of_ble_eq_true rfl, Nat.le_of_ble_eq_true rfl⟩) hP hK xN_bl (fun U _ hW => XN_warm hW hX) (ci := 6) rfl rfl rfl hl.1 rfl rfl (Nat.le_of_ble_eq_true rfl) dX6_pullOf_22 ⟨Nat.zero_le _, Nat.zero_le _⟩ (fun r3_ er3_ => ?_)
  obtain rfl : r3_ = P p 1 := er3_
  refine lv_iconst (v := 1) hx hb dX6_pullOf_25 (by decide) ?_
  refine lv_isub hx hb dX6_pullOf_26 ?_
  refine lv_imul hx hb dX6_pullOf_27 ?_
  refine lv_i2l hx hb dX6_pullOf_28 rfl ?_
  refine lv_lload hx hb dX6_pullOf_29 (lv_at hl 1 rfl) ?_
  refine lv_lmul hx hb dX6_pullOf_31 ?_
  refine lv_lload hx hb dX6_pullOf_32 (lv_at hl 1 rfl) ?_
  refine lv_lmul hx hb dX6_pullOf_34 ?_
  refine lv_lload hx hb dX6_pullOf_35 (lv_at hl 0 rfl) ?_
  refine lv_lload hx hb dX6_pullOf_37 (lv_at hl 0 rfl) ?_
  refine lv_lmul hx hb dX6_pullOf_39 ?_
  refine lv_ldiv hx hb dX6_pullOf_40 (by rw [ex2_]; exact kCap_nn hk hd) ?_
  refine lv_l2i hx hb dX6_pullOf_41 rfl ?_
  exact hret _ _ _ dX6_pullOf_42 (by rw [ex1_, ex2_]; rfl)

def rmX6_pullAt : Room := { frames := 4, cells := 0, slots := 0, locals := 92 }
set_option maxHeartbeats 4000000 in
set_option maxRecDepth 100000 in
theorem mX6_pullAt (l : Launch) (T : Nat → ClassId) (D : va_G) (a qs : Nat) (fs : List Value) (t : Nat → Int32) (P : Nat → Nat → Int32) (hf : fs[0]? = some (.ref qs)) (p : Nat) (hp : p < 4) (d q : Int32) (hk : kOk (P p)) (hd : kDp d) : RdI l yX6_pullAt wsX6_pullAt rmX6_pullAt T xN D [.ref a, .int (nI p), .int d, .int q] [(a, .inr (6, fs)), (qs, .inl (T 0, 43, .inl (mS t P)))] (fun r => r = kPullAt (P p) d q) := by
  refine met_ri (cc := cX6_pullAt) (maxL := 4) (by decide) rfl (Nat.le_of_ble_eq_true rfl) ?_
  intro p_ e s m args below meth c H ls Q hx hb hts hown hml hX hH hP hK hl hret
  have hl : lv_has ls 4 [(0, .ref a), (1, .int (nI p)), (2, .int d), (3, .int q)] := hl
  refine lv_aload_n hx hb dX6_pullAt_0 rfl (lv_at hl 0 rfl) ?_
  refine lv_iload_n hx hb dX6_pullAt_1 rfl (lv_at hl 1 rfl) ?_
  refine callRi (As := [.int (nI p)]) ⟨hx, hb, hml, hown, hts⟩ (mX6_isOn l T D a qs fs t P hf p hp ) (cwV 1 hts gX6_pullAt_X6_isOn rfl rfl rfl pdX6_isOn ⟨Nat.le_of_ble_eq_true rfl, Nat.le_of_ble_eq_true rfl⟩) hP hK xN_bl (fun U _ hW => XN_warm hW hX) (ci := 6) rfl rfl rfl hl.1 rfl rfl (Nat.le_of_ble_eq_true rfl) dX6_pullAt_2 ⟨Nat.zero_le _, Nat.zero_le _⟩ (fun r1_ er1_ => ?_)
  obtain rfl : r1_ = bI (P p 9 = 1) := er1_
  refine lv_if_eq (tgt := 23) hx hb dX6_pullAt_5 (by decide) (fun c5 => ?_) (fun c5 => ?_)
  · skip
    have c5 := bI_0 c5
    refine lv_aload_n hx hb dX6_pullAt_23 rfl (lv_at hl 0 rfl) ?_
    refine lv_iload_n hx hb dX6_pullAt_24 rfl (lv_at hl 1 rfl) ?_
    refine lv_iload_n hx hb dX6_pullAt_25 rfl (lv_at hl 2 rfl) ?_
    refine lv_iload_n hx hb dX6_pullAt_26 rfl (lv_at hl 3 rfl) ?_
    refine callRi (As := [.int (nI p), .int d, .int q]) ⟨hx, hb, hml, hown, hts⟩ (mX6_pullOf l T D a qs fs t P hf p hp d q hk hd) (cwV 3 hts gX6_pullAt_X6_pullOf rfl rfl rfl pdX6_pullOf ⟨Nat.le_of_ble_eq_true rfl, Nat.le_of_ble_eq_true rfl⟩) hP hK xN_bl (fun U _ hW => XN_warm hW hX) (ci := 6) rfl rfl rfl hl.1 rfl rfl (Nat.le_of_ble_eq_true rfl) dX6_pullAt_27 ⟨Nat.zero_le _, Nat.zero_le _⟩ (fun r2_ er2_ => ?_)
    obtain rfl : r2_ = kPullOf (P p) d q := er2_
    exact hret _ _ _ dX6_pullAt_30 (by rw [kPullAt, if_neg c5])
  · skip
    have c5 := bI_n0 c5
    refine lv_aload_n hx hb dX6_pullAt_8 rfl (lv_at hl 0 rfl) ?_
    refine lv_iload_n hx hb dX6_pullAt_9 rfl (lv_at hl 1 rfl) ?_
    refine lv_aload_n hx hb dX6_pullAt_10 rfl (lv_at hl 0 rfl) ?_
    refine lv_iload_n hx hb dX6_pullAt_11 rfl (lv_at hl 1 rfl) ?_
    refine lv_bipush (v := nI 8) hx hb dX6_pullAt_12 (by decide) ?_
    refine callRi (As := [.int (nI p), .int (nI 8)]) ⟨hx, hb, hml, hown, hts⟩ (mX6_of l T D a qs fs t P hf p hp 8 (by decide)) (cwV 2 hts gX6_pullAt_X6_of rfl rfl rfl pdX6_of ⟨Nat.le_of_ble_eq_true rfl, Nat.le_of_ble_eq_true rfl⟩) hP hK xN_bl (fun U _ hW => XN_warm hW hX) (ci := 6) rfl rfl rfl hl.1 rfl rfl (Nat.le_of_ble_eq_true rfl) dX6_pullAt_14 ⟨Nat.zero_le _, Nat.zero_le _⟩ (fun r3_ er3_ => ?_)
    obtain rfl : r3_ = P p 8 := er3_
    refine callRi (As := [.int (nI p), .int (P p 8)]) ⟨hx, hb, hml, hown, hts⟩ (mX6_pullBy l T D a qs fs t P hf p hp (P p 8)) (cwV 2 hts gX6_pullAt_X6_pullBy rfl rfl rfl pdX6_pullBy ⟨Nat.le_of_ble_eq_true rfl, Nat.le_of_ble_eq_true rfl⟩) hP hK xN_bl (fun U _ hW => XN_warm hW hX) (ci := 6) rfl rfl rfl hl.1 rfl rfl (Nat.le_of_ble_eq_true rfl) dX6_pullAt_17 ⟨Nat.zero_le _, Nat.zero_le _⟩ (fun r4_ er4_ => ?_)
    obtain rfl : r4_ = kPullBy (P p) (P p 8) := er4_
    refine lv_goto (tgt := 30) hx hb dX6_pullAt_20 (by decide) ?_
    exact hret _ _ _ dX6_pullAt_30 (by rw [kPullAt, if_pos c5])

def rmX6_spring : Room := { frames := 2, cells := 0, slots := 0, locals := 43 }
set_option maxHeartbeats 4000000 in
set_option maxRecDepth 100000 in
theorem mX6_spring (l : Launch) (T : Nat → ClassId) (D : va_G) (a qs : Nat) (fs : List Value) (t : Nat → Int32) (P : Nat → Nat → Int32) (hf : fs[0]? = some (.ref qs)) (p : Nat) (hp : p < 4) (d : Int32) : RdI l yX6_spring wsX6_spring rmX6_spring T xN D [.ref a, .int (nI p), .int d] [(a, .inr (6, fs)), (qs, .inl (T 0, 43, .inl (mS t P)))] (fun r => r = kSpring (P p) d) := by
  refine met_ri (cc := cX6_spring) (maxL := 3) (by decide) rfl (Nat.le_of_ble_eq_true rfl) ?_
  intro p_ e s m args below meth c H ls Q hx hb hts hown hml hX hH hP hK hl hret
  have hl : lv_has ls 3 [(0, .ref a), (1, .int (nI p)), (2, .int d)] := hl
  refine lv_aload_n hx hb dX6_spring_0 rfl (lv_at hl 0 rfl) ?_
  refine lv_iload_n hx hb dX6_spring_1 rfl (lv_at hl 1 rfl) ?_
  refine lv_iconst (v := nI 2) hx hb dX6_spring_2 (by decide) ?_
  refine callRi (As := [.int (nI p), .int (nI 2)]) ⟨hx, hb, hml, hown, hts⟩ (mX6_of l T D a qs fs t P hf p hp 2 (by decide)) (cwV 2 hts gX6_spring_X6_of rfl rfl rfl pdX6_of ⟨Nat.le_of_ble_eq_true rfl, Nat.le_of_ble_eq_true rfl⟩) hP hK xN_bl (fun U _ hW => XN_warm hW hX) (ci := 6) rfl rfl rfl hl.1 rfl rfl (Nat.le_of_ble_eq_true rfl) dX6_spring_3 ⟨Nat.zero_le _, Nat.zero_le _⟩ (fun r1_ er1_ => ?_)
  obtain rfl : r1_ = P p 2 := er1_
  refine lv_iload_n hx hb dX6_spring_6 rfl (lv_at hl 2 rfl) ?_
  refine lv_aload_n hx hb dX6_spring_7 rfl (lv_at hl 0 rfl) ?_
  refine lv_iload_n hx hb dX6_spring_8 rfl (lv_at hl 1 rfl) ?_
  refine lv_iconst (v := nI 3) hx hb dX6_spring_9 (by decide) ?_
  refine callRi (As := [.int (nI p), .int (nI 3)]) ⟨hx, hb, hml, hown, hts⟩ (mX6_of l T D a qs fs t P hf p hp 3 (by decide)) (cwV 2 hts gX6_spring_X6_of rfl rfl rfl pdX6_of ⟨Nat.le_of_ble_eq_true rfl, Nat.le_of_ble_eq_true rfl⟩) hP hK xN_bl (fun U _ hW => XN_warm hW hX) (ci := 6) rfl rfl rfl hl.1 rfl rfl (Nat.le_of_ble_eq_true rfl) dX6_spring_10 ⟨Nat.zero_le _, Nat.zero_le _⟩ (fun r2_ er2_ => ?_)
  obtain rfl : r2_ = P p 3 := er2_
  refine lv_isub hx hb dX6_spring_13 ?_
  refine lv_imul hx hb dX6_spring_14 ?_
  exact hret _ _ _ dX6_spring_15 rfl

def rmX6_net : Room := { frames := 5, cells := 0, slots := 0, locals := 115 }
set_option maxHeartbeats 4000000 in
set_option maxRecDepth 100000 in
theorem mX6_net (l : Launch) (T : Nat → ClassId) (D : va_G) (a qs : Nat) (fs : List Value) (t : Nat → Int32) (P : Nat → Nat → Int32) (hf : fs[0]? = some (.ref qs)) (p : Nat) (hp : p < 4) (hk : kOk (P p)) : RdI l yX6_net wsX6_net rmX6_net T xN D [.ref a, .int (nI p)] [(a, .inr (6, fs)), (qs, .inl (T 0, 43, .inl (mS t P)))] (fun r => r = kNet (P p)) := by
  refine met_ri (cc := cX6_net) (maxL := 2) (by decide) rfl (Nat.le_of_ble_eq_true rfl) ?_
  intro p_ e s m args below meth c H ls Q hx hb hts hown hml hX hH hP hK hl hret
  have hl : lv_has ls 2 [(0, .ref a), (1, .int (nI p))] := hl
  refine lv_aload_n hx hb dX6_net_0 rfl (lv_at hl 0 rfl) ?_
  refine lv_iload_n hx hb dX6_net_1 rfl (lv_at hl 1 rfl) ?_
  refine lv_aload_n hx hb dX6_net_2 rfl (lv_at hl 0 rfl) ?_
  refine lv_iload_n hx hb dX6_net_3 rfl (lv_at hl 1 rfl) ?_
  refine lv_bipush (v := nI 6) hx hb dX6_net_4 (by decide) ?_
  refine callRi (As := [.int (nI p), .int (nI 6)]) ⟨hx, hb, hml, hown, hts⟩ (mX6_of l T D a qs fs t P hf p hp 6 (by decide)) (cwV 2 hts gX6_net_X6_of rfl rfl rfl pdX6_of ⟨Nat.le_of_ble_eq_true rfl, Nat.le_of_ble_eq_true rfl⟩) hP hK xN_bl (fun U _ hW => XN_warm hW hX) (ci := 6) rfl rfl rfl hl.1 rfl rfl (Nat.le_of_ble_eq_true rfl) dX6_net_6 ⟨Nat.zero_le _, Nat.zero_le _⟩ (fun r1_ er1_ => ?_)
  obtain rfl : r1_ = P p 6 := er1_
  refine lv_aload_n hx hb dX6_net_9 rfl (lv_at hl 0 rfl) ?_
  refine lv_iload_n hx hb dX6_net_10 rfl (lv_at hl 1 rfl) ?_
  refine lv_bipush (v := nI 7) hx hb dX6_net_11 (by decide) ?_
  refine callRi (As := [.int (nI p), .int (nI 7)]) ⟨hx, hb, hml, hown, hts⟩ (mX6_of l T D a qs fs t P hf p hp 7 (by decide)) (cwV 2 hts gX6_net_X6_of rfl rfl rfl pdX6_of ⟨Nat.le_of_ble_eq_true rfl, Nat.le_of_ble_eq_true rfl⟩) hP hK xN_bl (fun U _ hW => XN_warm hW hX) (ci := 6) rfl rfl rfl hl.1 rfl rfl (Nat.le_of_ble_eq_true rfl) dX6_net_13 ⟨Nat.zero_le _, Nat.zero_le _⟩ (fun r2_ er2_ => ?_)
  obtain rfl : r2_ = P p 7 := er2_
  refine callRi (As := [.int (nI p), .int (P p 6), .int (P p 7)]) ⟨hx, hb, hml, hown, hts⟩ (mX6_pullAt l T D a qs fs t P hf p hp (P p 6) (P p 7) hk (kOk_d hk)) (cwV 3 hts gX6_net_X6_pullAt rfl rfl rfl pdX6_pullAt ⟨Nat.le_of_ble_eq_true rfl, Nat.le_of_ble_eq_true rfl⟩) hP hK xN_bl (fun U _ hW => XN_warm hW hX) (ci := 6) rfl rfl rfl hl.1 rfl rfl (Nat.le_of_ble_eq_true rfl) dX6_net_16 ⟨Nat.zero_le _, Nat.zero_le _⟩ (fun r3_ er3_ => ?_)
  obtain rfl : r3_ = kPullAt (P p) (P p 6) (P p 7) := er3_
  refine lv_aload_n hx hb dX6_net_19 rfl (lv_at hl 0 rfl) ?_
  refine lv_iload_n hx hb dX6_net_20 rfl (lv_at hl 1 rfl) ?_
  refine lv_aload_n hx hb dX6_net_21 rfl (lv_at hl 0 rfl) ?_
  refine lv_iload_n hx hb dX6_net_22 rfl (lv_at hl 1 rfl) ?_
  refine lv_bipush (v := nI 6) hx hb dX6_net_23 (by decide) ?_
  refine callRi (As := [.int (nI p), .int (nI 6)]) ⟨hx, hb, hml, hown, hts⟩ (mX6_of l T D a qs fs t P hf p hp 6 (by decide)) (cwV 2 hts gX6_net_X6_of rfl rfl rfl pdX6_of ⟨Nat.le_of_ble_eq_true rfl, Nat.le_of_ble_eq_true rfl⟩) hP hK xN_bl (fun U _ hW => XN_warm hW hX) (ci := 6) rfl rfl rfl hl.1 rfl rfl (Nat.le_of_ble_eq_true rfl) dX6_net_25 ⟨Nat.zero_le _, Nat.zero_le _⟩ (fun r4_ er4_ => ?_)
  obtain rfl : r4_ = P p 6 := er4_
  refine callRi (As := [.int (nI p), .int (P p 6)]) ⟨hx, hb, hml, hown, hts⟩ (mX6_spring l T D a qs fs t P hf p hp (P p 6)) (cwV 2 hts gX6_net_X6_spring rfl rfl rfl pdX6_spring ⟨Nat.le_of_ble_eq_true rfl, Nat.le_of_ble_eq_true rfl⟩) hP hK xN_bl (fun U _ hW => XN_warm hW hX) (ci := 6) rfl rfl rfl hl.1 rfl rfl (Nat.le_of_ble_eq_true rfl) dX6_net_28 ⟨Nat.zero_le _, Nat.zero_le _⟩ (fun r5_ er5_ => ?_)
  obtain rfl : r5_ = kSpring (P p) (P p 6) := er5_
  refine lv_isub hx hb dX6_net_31 ?_
  exact hret _ _ _ dX6_net_32 rfl

def rmX6_size : Room := { frames := 0, cells := 0, slots := 0, locals := 0 }
set_option maxHeartbeats 4000000 in
set_option maxRecDepth 100000 in
theorem mX6_size (l : Launch) (T : Nat → ClassId) (D : va_G) (v : Int32) : RdI l yX6_size wsX6_size rmX6_size T xN D [.int v] [] (fun r => r = kSize v) := by
  refine met_ri (cc := cX6_size) (maxL := 1) (by decide) rfl (Nat.le_of_ble_eq_true rfl) ?_
  intro p_ e s m args below meth c H ls Q hx hb hts hown hml hX hH hP hK hl hret
  have hl : lv_has ls 1 [(0, .int v)] := hl
  refine lv_iload_n hx hb dX6_size_0 rfl (lv_at hl 0 rfl) ?_
  refine lv_if_ge (tgt := 9) hx hb dX6_size_1 (by decide) (fun c1 => ?_) (fun c1 => ?_)
  · skip
    refine lv_iload_n hx hb dX6_size_9 rfl (lv_at hl 0 rfl) ?_
    exact hret _ _ _ dX6_size_10 (by rw [kSize, if_neg (Int32.not_lt.mpr c1)])
  · skip
    refine lv_iload_n hx hb dX6_size_4 rfl (lv_at hl 0 rfl) ?_
    refine lv_ineg hx hb dX6_size_5 ?_
    refine lv_goto (tgt := 10) hx hb dX6_size_6 (by decide) ?_
    exact hret _ _ _ dX6_size_10 (by rw [kSize, if_pos (Int32.not_le.mp c1)])

def rmX6_move : Room := { frames := 2, cells := 0, slots := 0, locals := 43 }
set_option maxHeartbeats 4000000 in
set_option maxRecDepth 100000 in
theorem mX6_move (l : Launch) (T : Nat → ClassId) (D : va_G) (a qs : Nat) (fs : List Value) (t : Nat → Int32) (P : Nat → Nat → Int32) (hf : fs[0]? = some (.ref qs)) (p : Nat) (hp : p < 4) (d n : Int32) : RdI l yX6_move wsX6_move rmX6_move T xN D [.ref a, .int (nI p), .int d, .int n] [(a, .inr (6, fs)), (qs, .inl (T 0, 43, .inl (mS t P)))] (fun r => r = kMove (P p) d n) := by
  refine met_ri (cc := cX6_move) (maxL := 4) (by decide) rfl (Nat.le_of_ble_eq_true rfl) ?_
  intro p_ e s m args below meth c H ls Q hx hb hts hown hml hX hH hP hK hl hret
  have hl : lv_has ls 4 [(0, .ref a), (1, .int (nI p)), (2, .int d), (3, .int n)] := hl
  refine lv_iload_n hx hb dX6_move_0 rfl (lv_at hl 3 rfl) ?_
  refine callSi (As := [.int n]) ⟨hx, hb, hml, hown, hts⟩ (mX6_size l T D n) (va_cwS 1 hts gX6_move_X6_size rfl rfl rfl (pdX6_size).2 ⟨Nat.le_of_ble_eq_true rfl, Nat.le_of_ble_eq_true rfl⟩) wP_nil hK xN_bl (fun U _ hW => XN_warm hW hX) hl.1 rfl rfl (Nat.le_of_ble_eq_true rfl) dX6_move_1 ⟨Nat.zero_le _, Nat.zero_le _⟩ (fun r1_ er1_ => ?_)
  obtain rfl : r1_ = kSize n := er1_
  refine lv_aload_n hx hb dX6_move_4 rfl (lv_at hl 0 rfl) ?_
  refine lv_iload_n hx hb dX6_move_5 rfl (lv_at hl 1 rfl) ?_
  refine lv_iconst (v := nI 4) hx hb dX6_move_6 (by decide) ?_
  refine callRi (As := [.int (nI p), .int (nI 4)]) ⟨hx, hb, hml, hown, hts⟩ (mX6_of l T D a qs fs t P hf p hp 4 (by decide)) (cwV 2 hts gX6_move_X6_of rfl rfl rfl pdX6_of ⟨Nat.le_of_ble_eq_true rfl, Nat.le_of_ble_eq_true rfl⟩) hP hK xN_bl (fun U _ hW => XN_warm hW hX) (ci := 6) rfl rfl rfl hl.1 rfl rfl (Nat.le_of_ble_eq_true rfl) dX6_move_7 ⟨Nat.zero_le _, Nat.zero_le _⟩ (fun r2_ er2_ => ?_)
  obtain rfl : r2_ = P p 4 := er2_
  refine lv_icmp_gt (tgt := 15) hx hb dX6_move_10 (by decide) (fun c10 => ?_) (fun c10 => ?_)
  · skip
    refine lv_iload_n hx hb dX6_move_15 rfl (lv_at hl 3 rfl) ?_
    refine lv_if_le (tgt := 33) hx hb dX6_move_16 (by decide) (fun c16 => ?_) (fun c16 => ?_)
    · skip
      refine lv_iload_n hx hb dX6_move_33 rfl (lv_at hl 2 rfl) ?_
      refine lv_if_le (tgt := 41) hx hb dX6_move_34 (by decide) (fun c34 => ?_) (fun c34 => ?_)
      · skip
        refine lv_iconst (v := 0) hx hb dX6_move_41 (by decide) ?_
        exact hret _ _ _ dX6_move_42 (by rw [kMove, if_neg (Int32.not_le.mpr c10), if_neg (Int32.not_lt.mpr c16), if_neg (Int32.not_lt.mpr c34)])
      · skip
        refine lv_iconst (v := (-1)) hx hb dX6_move_37 (by decide) ?_
        refine lv_goto (tgt := 42) hx hb dX6_move_38 (by decide) ?_
        exact hret _ _ _ dX6_move_42 (by rw [kMove, if_neg (Int32.not_le.mpr c10), if_neg (Int32.not_lt.mpr c16), if_pos (Int32.not_le.mp c34)])
    · skip
      refine lv_iload_n hx hb dX6_move_19 rfl (lv_at hl 2 rfl) ?_
      refine lv_bipush (v := 40) hx hb dX6_move_20 (by decide) ?_
      refine lv_icmp_ge (tgt := 29) hx hb dX6_move_22 (by decide) (fun c22 => ?_) (fun c22 => ?_)
      · skip
        refine lv_iconst (v := 0) hx hb dX6_move_29 (by decide) ?_
        refine lv_goto (tgt := 42) hx hb dX6_move_30 (by decide) ?_
        exact hret _ _ _ dX6_move_42 (by rw [kMove, if_neg (Int32.not_le.mpr c10), if_pos (Int32.not_le.mp c16), if_neg (Int32.not_lt.mpr c22)])
      · skip
        refine lv_iconst (v := 1) hx hb dX6_move_25 (by decide) ?_
        refine lv_goto (tgt := 42) hx hb dX6_move_26 (by decide) ?_
        exact hret _ _ _ dX6_move_42 (by rw [kMove, if_neg (Int32.not_le.mpr c10), if_pos (Int32.not_le.mp c16), if_pos (Int32.not_le.mp c22)])
  · skip
    refine lv_iconst (v := 0) hx hb dX6_move_13 (by decide) ?_
    exact hret _ _ _ dX6_move_14 (by rw [kMove, if_pos (Int32.not_lt.mp c10)])

def rmX6_leak : Room := { frames := 2, cells := 0, slots := 0, locals := 43 }
set_option maxHeartbeats 4000000 in
set_option maxRecDepth 100000 in
theorem mX6_leak (l : Launch) (T : Nat → ClassId) (D : va_G) (a qs : Nat) (fs : List Value) (t : Nat → Int32) (P : Nat → Nat → Int32) (hf : fs[0]? = some (.ref qs)) (p : Nat) (hp : p < 4) (q : Int32) : RdI l yX6_leak wsX6_leak rmX6_leak T xN D [.ref a, .int (nI p), .int q] [(a, .inr (6, fs)), (qs, .inl (T 0, 43, .inl (mS t P)))] (fun r => r = kLeak (P p) q) := by
  refine met_ri (cc := cX6_leak) (maxL := 3) (by decide) rfl (Nat.le_of_ble_eq_true rfl) ?_
  intro p_ e s m args below meth c H ls Q hx hb hts hown hml hX hH hP hK hl hret
  have hl : lv_has ls 3 [(0, .ref a), (1, .int (nI p)), (2, .int q)] := hl
  refine lv_iload_n hx hb dX6_leak_0 rfl (lv_at hl 2 rfl) ?_
  refine lv_i2l hx hb dX6_leak_1 rfl ?_
  refine lv_aload_n hx hb dX6_leak_2 rfl (lv_at hl 0 rfl) ?_
  refine lv_iload_n hx hb dX6_leak_3 rfl (lv_at hl 1 rfl) ?_
  refine lv_iconst (v := nI 5) hx hb dX6_leak_4 (by decide) ?_
  refine callRi (As := [.int (nI p), .int (nI 5)]) ⟨hx, hb, hml, hown, hts⟩ (mX6_of l T D a qs fs t P hf p hp 5 (by decide)) (cwV 2 hts gX6_leak_X6_of rfl rfl rfl pdX6_of ⟨Nat.le_of_ble_eq_true rfl, Nat.le_of_ble_eq_true rfl⟩) hP hK xN_bl (fun U _ hW => XN_warm hW hX) (ci := 6) rfl rfl rfl hl.1 rfl rfl (Nat.le_of_ble_eq_true rfl) dX6_leak_5 ⟨Nat.zero_le _, Nat.zero_le _⟩ (fun r1_ er1_ => ?_)
  obtain rfl : r1_ = P p 5 := er1_
  refine lv_i2l hx hb dX6_leak_8 rfl ?_
  refine lv_lmul hx hb dX6_leak_9 ?_
  refine lv_ldc2 (v := 1000) hx hb hown (hts (.constantLong RX6 86 (1000)) (List.mem_of_getElem? (i := 1) rfl)) dX6_leak_10 ?_
  refine lv_ldiv hx hb dX6_leak_13 (by decide) ?_
  refine lv_l2i hx hb dX6_leak_14 rfl ?_
  exact hret _ _ _ dX6_leak_15 rfl

def rmX6_half : Room := { frames := 0, cells := 0, slots := 0, locals := 0 }
set_option maxHeartbeats 4000000 in
set_option maxRecDepth 100000 in
theorem mX6_half (l : Launch) (T : Nat → ClassId) (D : va_G) (v : Int64) : RdL l yX6_half wsX6_half rmX6_half T xN D [.long v] [] (fun r => r = kHalf v) := by
  refine met_rl (cc := cX6_half) (maxL := 2) (by decide) rfl (Nat.le_of_ble_eq_true rfl) ?_
  intro p_ e s m args below meth c H ls Q hx hb hts hown hml hX hH hP hK hl hret
  have hl : lv_has ls 2 [(0, .long v)] := hl
  refine lv_lload_n hx hb dX6_half_0 rfl (lv_at hl 0 rfl) ?_
  refine lv_lconst (v := 0) hx hb dX6_half_1 (by decide) ?_
  refine W.lcmp hx hb dX6_half_2 ?_
  refine lv_if_ge (tgt := 17) hx hb dX6_half_3 (by decide) (fun c3 => ?_) (fun c3 => ?_)
  · skip
    refine lv_lload_n hx hb dX6_half_17 rfl (lv_at hl 0 rfl) ?_
    refine lv_ldc2 (v := 2) hx hb hown (hts (.constantLong RX6 88 (2)) (List.mem_of_getElem? (i := 1) rfl)) dX6_half_18 ?_
    refine lv_ldiv hx hb dX6_half_21 (by decide) ?_
    exact hret _ _ _ dX6_half_22 (by rw [kHalf, if_neg (Int64.not_lt.mpr ((lg_cmp_ge _ _).mp c3))])
  · skip
    refine lv_lconst (v := 1) hx hb dX6_half_6 (by decide) ?_
    refine lv_lload_n hx hb dX6_half_7 rfl (lv_at hl 0 rfl) ?_
    refine lv_lsub hx hb dX6_half_8 ?_
    refine lv_ldc2 (v := 2) hx hb hown (hts (.constantLong RX6 88 (2)) (List.mem_of_getElem? (i := 1) rfl)) dX6_half_9 ?_
    refine lv_ldiv hx hb dX6_half_12 (by decide) ?_
    refine lv_lneg hx hb dX6_half_13 ?_
    refine lv_goto (tgt := 22) hx hb dX6_half_14 (by decide) ?_
    exact hret _ _ _ dX6_half_22 (by rw [kHalf, if_pos (Int64.not_le.mp (mt (lg_cmp_ge _ _).mpr c3))])

def rmX6_least : Room := { frames := 0, cells := 0, slots := 0, locals := 0 }
set_option maxHeartbeats 4000000 in
set_option maxRecDepth 100000 in
theorem mX6_least (l : Launch) (T : Nat → ClassId) (D : va_G) (k : Nat) (hw : k < 6) : RdI l yX6_least wsX6_least rmX6_least T xN D [.int (nI k)] [] (fun r => r = kLo k) := by
  refine met_ri (cc := cX6_least) (maxL := 1) (by decide) rfl (Nat.le_of_ble_eq_true rfl) ?_
  intro p_ e s m args below meth c H ls Q hx hb hts hown hml hX hH hP hK hl hret
  have hl : lv_has ls 1 [(0, .int (nI k))] := hl
  refine lv_iload_n hx hb dX6_least_0 rfl (lv_at hl 0 rfl) ?_
  refine lv_iconst (v := nI 2) hx hb dX6_least_1 (by decide) ?_
  refine lv_icmp_ge (tgt := 9) hx hb dX6_least_2 (by decide) (fun c2 => ?_) (fun c2 => ?_)
  · skip
    refine lv_iconst (v := 0) hx hb dX6_least_9 (by decide) ?_
    exact hret _ _ _ dX6_least_10 (by rw [kLo, if_neg (by have := (nI_leI (by omega) (by omega)).mp c2; omega)])
  · skip
    refine lv_iconst (v := 1) hx hb dX6_least_5 (by decide) ?_
    refine lv_goto (tgt := 10) hx hb dX6_least_6 (by decide) ?_
    exact hret _ _ _ dX6_least_10 (by rw [kLo, if_pos (by have := mt (nI_leI (a := 2) (b := k) (by omega) (by omega)).mpr c2; omega)])

def rmX6_most : Room := { frames := 0, cells := 0, slots := 0, locals := 0 }
set_option maxHeartbeats 4000000 in
set_option maxRecDepth 100000 in
theorem mX6_most (l : Launch) (T : Nat → ClassId) (D : va_G) (k : Nat) (hw : k < 6) : RdI l yX6_most wsX6_most rmX6_most T xN D [.int (nI k)] [] (fun r => r = kHi k) := by
  refine met_ri (cc := cX6_most) (maxL := 1) (by decide) rfl (Nat.le_of_ble_eq_true rfl) ?_
  intro p_ e s m args below meth c H ls Q hx hb hts hown hml hX hH hP hK hl hret
  have hl : lv_has ls 1 [(0, .int (nI k))] := hl
  rcases (show k = 0 ∨ k = 1 ∨ k = 2 ∨ k = 3 ∨ k = 4 ∨ k = 5 by omega) with rfl | rfl | rfl | rfl | rfl | rfl
  · skip
    refine lv_iload_n hx hb dX6_most_0 rfl (lv_at hl 0 rfl) ?_
    refine lv_tableIn (off := 35) (tgt := 36) hx hb dX6_most_1 (by decide) (by decide) (by decide) (by decide) ?_
    refine lv_bipush (v := 9) hx hb dX6_most_36 (by decide) ?_
    exact hret _ _ _ dX6_most_38 rfl
  · skip
    refine lv_iload_n hx hb dX6_most_0 rfl (lv_at hl 0 rfl) ?_
    refine lv_tableIn (off := 35) (tgt := 36) hx hb dX6_most_1 (by decide) (by decide) (by decide) (by decide) ?_
    refine lv_bipush (v := 9) hx hb dX6_most_36 (by decide) ?_
    exact hret _ _ _ dX6_most_38 rfl
  · skip
    refine lv_iload_n hx hb dX6_most_0 rfl (lv_at hl 0 rfl) ?_
    refine lv_tableIn (off := 38) (tgt := 39) hx hb dX6_most_1 (by decide) (by decide) (by decide) (by decide) ?_
    refine lv_sipush (v := 999) hx hb dX6_most_39 (by decide) ?_
    exact hret _ _ _ dX6_most_42 rfl
  · skip
    refine lv_iload_n hx hb dX6_most_0 rfl (lv_at hl 0 rfl) ?_
    refine lv_tableIn (off := 42) (tgt := 43) hx hb dX6_most_1 (by decide) (by decide) (by decide) (by decide) ?_
    refine lv_bipush (v := 40) hx hb dX6_most_43 (by decide) ?_
    exact hret _ _ _ dX6_most_45 rfl
  · skip
    refine lv_iload_n hx hb dX6_most_0 rfl (lv_at hl 0 rfl) ?_
    refine lv_tableIn (off := 45) (tgt := 46) hx hb dX6_most_1 (by decide) (by decide) (by decide) (by decide) ?_
    refine lv_sipush (v := 9999) hx hb dX6_most_46 (by decide) ?_
    exact hret _ _ _ dX6_most_49 rfl
  · skip
    refine lv_iload_n hx hb dX6_most_0 rfl (lv_at hl 0 rfl) ?_
    refine lv_tableOut (tgt := 50) hx hb dX6_most_1 (by decide) (by decide) ?_
    refine lv_bipush (v := 100) hx hb dX6_most_50 (by decide) ?_
    exact hret _ _ _ dX6_most_52 rfl
  skip

def rmX6_pullNow : Room := { frames := 5, cells := 0, slots := 0, locals := 115 }
set_option maxHeartbeats 4000000 in
set_option maxRecDepth 100000 in
theorem mX6_pullNow (l : Launch) (T : Nat → ClassId) (D : va_G) (a qs : Nat) (fs : List Value) (t : Nat → Int32) (P : Nat → Nat → Int32) (hf : fs[0]? = some (.ref qs)) (p : Nat) (hp : p < 4) (hk : kOk (P p)) : RdI l yX6_pullNow wsX6_pullNow rmX6_pullNow T xN D [.ref a, .int (nI p)] [(a, .inr (6, fs)), (qs, .inl (T 0, 43, .inl (mS t P)))] (fun r => r = kPullAt (P p) (P p 6) (P p 7)) := by
  refine met_ri (cc := cX6_pullNow) (maxL := 2) (by decide) rfl (Nat.le_of_ble_eq_true rfl) ?_
  intro p_ e s m args below meth c H ls Q hx hb hts hown hml hX hH hP hK hl hret
  have hl : lv_has ls 2 [(0, .ref a), (1, .int (nI p))] := hl
  refine lv_aload_n hx hb dX6_pullNow_0 rfl (lv_at hl 0 rfl) ?_
  refine lv_iload_n hx hb dX6_pullNow_1 rfl (lv_at hl 1 rfl) ?_
  refine lv_aload_n hx hb dX6_pullNow_2 rfl (lv_at hl 0 rfl) ?_
  refine lv_iload_n hx hb dX6_pullNow_3 rfl (lv_at hl 1 rfl) ?_
  refine lv_bipush (v := nI 6) hx hb dX6_pullNow_4 (by decide) ?_
  refine callRi (As := [.int (nI p), .int (nI 6)]) ⟨hx, hb, hml, hown, hts⟩ (mX6_of l T D a qs fs t P hf p hp 6 (by decide)) (cwV 2 hts gX6_pullNow_X6_of rfl rfl rfl pdX6_of ⟨Nat.le_of_ble_eq_true rfl, Nat.le_of_ble_eq_true rfl⟩) hP hK xN_bl (fun U _ hW => XN_warm hW hX) (ci := 6) rfl rfl rfl hl.1 rfl rfl (Nat.le_of_ble_eq_true rfl) dX6_pullNow_6 ⟨Nat.zero_le _, Nat.zero_le _⟩ (fun r1_ er1_ => ?_)
  obtain rfl : r1_ = P p 6 := er1_
  refine lv_aload_n hx hb dX6_pullNow_9 rfl (lv_at hl 0 rfl) ?_
  refine lv_iload_n hx hb dX6_pullNow_10 rfl (lv_at hl 1 rfl) ?_
  refine lv_bipush (v := nI 7) hx hb dX6_pullNow_11 (by decide) ?_
  refine callRi (As := [.int (nI p), .int (nI 7)]) ⟨hx, hb, hml, hown, hts⟩ (mX6_of l T D a qs fs t P hf p hp 7 (by decide)) (cwV 2 hts gX6_pullNow_X6_of rfl rfl rfl pdX6_of ⟨Nat.le_of_ble_eq_true rfl, Nat.le_of_ble_eq_true rfl⟩) hP hK xN_bl (fun U _ hW => XN_warm hW hX) (ci := 6) rfl rfl rfl hl.1 rfl rfl (Nat.le_of_ble_eq_true rfl) dX6_pullNow_13 ⟨Nat.zero_le _, Nat.zero_le _⟩ (fun r2_ er2_ => ?_)
  obtain rfl : r2_ = P p 7 := er2_
  refine callRi (As := [.int (nI p), .int (P p 6), .int (P p 7)]) ⟨hx, hb, hml, hown, hts⟩ (mX6_pullAt l T D a qs fs t P hf p hp (P p 6) (P p 7) hk (kOk_d hk)) (cwV 3 hts gX6_pullNow_X6_pullAt rfl rfl rfl pdX6_pullAt ⟨Nat.le_of_ble_eq_true rfl, Nat.le_of_ble_eq_true rfl⟩) hP hK xN_bl (fun U _ hW => XN_warm hW hX) (ci := 6) rfl rfl rfl hl.1 rfl rfl (Nat.le_of_ble_eq_true rfl) dX6_pullNow_16 ⟨Nat.zero_le _, Nat.zero_le _⟩ (fun r3_ er3_ => ?_)
  obtain rfl : r3_ = kPullAt (P p) (P p 6) (P p 7) := er3_
  exact hret _ _ _ dX6_pullNow_19 rfl

def rmX6_why : Room := { frames := 6, cells := 0, slots := 0, locals := 136 }
set_option maxHeartbeats 4000000 in
set_option maxRecDepth 100000 in
theorem mX6_why (l : Launch) (T : Nat → ClassId) (D : va_G) (a qs : Nat) (fs : List Value) (t : Nat → Int32) (P : Nat → Nat → Int32) (hf : fs[0]? = some (.ref qs)) (p : Nat) (hp : p < 4) (hk : kOk (P p)) : RdI l yX6_why wsX6_why rmX6_why T xN D [.ref a, .int (nI p)] [(a, .inr (6, fs)), (qs, .inl (T 0, 43, .inl (mS t P)))] (fun r => r = kWhy (P p)) := by
  refine met_ri (cc := cX6_why) (maxL := 4) (by decide) rfl (Nat.le_of_ble_eq_true rfl) ?_
  intro p_ e s m args below meth c H ls Q hx hb hts hown hml hX hH hP hK hl hret
  have hl : lv_has ls 4 [(0, .ref a), (1, .int (nI p))] := hl
  refine lv_aload_n hx hb dX6_why_0 rfl (lv_at hl 0 rfl) ?_
  refine lv_iload_n hx hb dX6_why_1 rfl (lv_at hl 1 rfl) ?_
  refine callRi (As := [.int (nI p)]) ⟨hx, hb, hml, hown, hts⟩ (mX6_net l T D a qs fs t P hf p hp hk) (cwV 1 hts gX6_why_X6_net rfl rfl rfl pdX6_net ⟨Nat.le_of_ble_eq_true rfl, Nat.le_of_ble_eq_true rfl⟩) hP hK xN_bl (fun U _ hW => XN_warm hW hX) (ci := 6) rfl rfl rfl hl.1 rfl rfl (Nat.le_of_ble_eq_true rfl) dX6_why_2 ⟨Nat.zero_le _, Nat.zero_le _⟩ (fun r1_ er1_ => ?_)
  obtain rfl : r1_ = kNet (P p) := er1_
  refine lv_topi (fun x1_ ex1_ => ?_)
  refine lv_istore_n (lv' := [(2, .int x1_), (0, .ref a), (1, .int (nI p))]) hx hb dX6_why_5 rfl hl (by decide) rfl (fun ls hl => ?_)
  refine lv_aload_n hx hb dX6_why_6 rfl (lv_at hl 1 rfl) ?_
  refine lv_iload_n hx hb dX6_why_7 rfl (lv_at hl 2 rfl) ?_
  refine lv_aload_n hx hb dX6_why_8 rfl (lv_at hl 1 rfl) ?_
  refine lv_iload_n hx hb dX6_why_9 rfl (lv_at hl 2 rfl) ?_
  refine lv_bipush (v := nI 6) hx hb dX6_why_10 (by decide) ?_
  refine callRi (As := [.int (nI p), .int (nI 6)]) ⟨hx, hb, hml, hown, hts⟩ (mX6_of l T D a qs fs t P hf p hp 6 (by decide)) (cwV 2 hts gX6_why_X6_of rfl rfl rfl pdX6_of ⟨Nat.le_of_ble_eq_true rfl, Nat.le_of_ble_eq_true rfl⟩) hP hK xN_bl (fun U _ hW => XN_warm hW hX) (ci := 6) rfl rfl rfl hl.1 rfl rfl (Nat.le_of_ble_eq_true rfl) dX6_why_12 ⟨Nat.zero_le _, Nat.zero_le _⟩ (fun r2_ er2_ => ?_)
  obtain rfl : r2_ = P p 6 := er2_
  refine lv_iload_n hx hb dX6_why_15 rfl (lv_at hl 0 rfl) ?_
  refine callRi (As := [.int (nI p), .int (P p 6), .int x1_]) ⟨hx, hb, hml, hown, hts⟩ (mX6_move l T D a qs fs t P hf p hp (P p 6) x1_) (cwV 3 hts gX6_why_X6_move rfl rfl rfl pdX6_move ⟨Nat.le_of_ble_eq_true rfl, Nat.le_of_ble_eq_true rfl⟩) hP hK xN_bl (fun U _ hW => XN_warm hW hX) (ci := 6) rfl rfl rfl hl.1 rfl rfl (Nat.le_of_ble_eq_true rfl) dX6_why_16 ⟨Nat.zero_le _, Nat.zero_le _⟩ (fun r3_ er3_ => ?_)
  obtain rfl : r3_ = kMove (P p) (P p 6) x1_ := er3_
  refine lv_topi (fun x2_ ex2_ => ?_)
  refine lv_istore_n (lv' := [(3, .int x2_), (2, .int x1_), (0, .ref a), (1, .int (nI p))]) hx hb dX6_why_19 rfl hl (by decide) rfl (fun ls hl => ?_)
  refine lv_iload_n hx hb dX6_why_20 rfl (lv_at hl 0 rfl) ?_
  refine lv_if_le (tgt := 28) hx hb dX6_why_21 (by decide) (fun c21 => ?_) (fun c21 => ?_)
  · skip
    refine lv_iload_n hx hb dX6_why_28 rfl (lv_at hl 0 rfl) ?_
    refine lv_if_ge (tgt := 36) hx hb dX6_why_29 (by decide) (fun c29 => ?_) (fun c29 => ?_)
    · skip
      refine lv_iload_n hx hb dX6_why_36 rfl (lv_at hl 1 rfl) ?_
      refine lv_if_ne (tgt := 44) hx hb dX6_why_37 (by decide) (fun c37 => ?_) (fun c37 => ?_)
      · skip
        refine lv_iload_n hx hb dX6_why_44 rfl (lv_at hl 1 rfl) ?_
        refine callSi (As := [.int x1_]) ⟨hx, hb, hml, hown, hts⟩ (mX6_size l T D x1_) (va_cwS 1 hts gX6_why_X6_size rfl rfl rfl (pdX6_size).2 ⟨Nat.le_of_ble_eq_true rfl, Nat.le_of_ble_eq_true rfl⟩) wP_nil hK xN_bl (fun U _ hW => XN_warm hW hX) hl.1 rfl rfl (Nat.le_of_ble_eq_true rfl) dX6_why_45 ⟨Nat.zero_le _, Nat.zero_le _⟩ (fun r4_ er4_ => ?_)
        obtain rfl : r4_ = kSize x1_ := er4_
        refine lv_aload_n hx hb dX6_why_48 rfl (lv_at hl 2 rfl) ?_
        refine lv_iload_n hx hb dX6_why_49 rfl (lv_at hl 3 rfl) ?_
        refine lv_iconst (v := nI 4) hx hb dX6_why_50 (by decide) ?_
        refine callRi (As := [.int (nI p), .int (nI 4)]) ⟨hx, hb, hml, hown, hts⟩ (mX6_of l T D a qs fs t P hf p hp 4 (by decide)) (cwV 2 hts gX6_why_X6_of rfl rfl rfl pdX6_of ⟨Nat.le_of_ble_eq_true rfl, Nat.le_of_ble_eq_true rfl⟩) hP hK xN_bl (fun U _ hW => XN_warm hW hX) (ci := 6) rfl rfl rfl hl.1 rfl rfl (Nat.le_of_ble_eq_true rfl) dX6_why_51 ⟨Nat.zero_le _, Nat.zero_le _⟩ (fun r5_ er5_ => ?_)
        obtain rfl : r5_ = P p 4 := er5_
        refine lv_icmp_gt (tgt := 61) hx hb dX6_why_54 (by decide) (fun c54 => ?_) (fun c54 => ?_)
        · skip
          refine lv_iconst (v := 4) hx hb dX6_why_61 (by decide) ?_
          exact hret _ _ _ dX6_why_62 (by rw [kWhy, ← ex1_, ← ex2_, if_neg (Int32.not_lt.mpr c21), if_neg (Int32.not_lt.mpr c29), if_neg c37, if_neg (Int32.not_le.mpr c54)])
        · skip
          refine lv_iconst (v := 3) hx hb dX6_why_57 (by decide) ?_
          refine lv_goto (tgt := 62) hx hb dX6_why_58 (by decide) ?_
          exact hret _ _ _ dX6_why_62 (by rw [kWhy, ← ex1_, ← ex2_, if_neg (Int32.not_lt.mpr c21), if_neg (Int32.not_lt.mpr c29), if_neg c37, if_pos (Int32.not_lt.mp c54)])
      · skip
        refine lv_iconst (v := 2) hx hb dX6_why_40 (by decide) ?_
        refine lv_goto (tgt := 62) hx hb dX6_why_41 (by decide) ?_
        exact hret _ _ _ dX6_why_62 (by rw [kWhy, ← ex1_, ← ex2_, if_neg (Int32.not_lt.mpr c21), if_neg (Int32.not_lt.mpr c29), if_pos c37])
    · skip
      refine lv_iconst (v := 1) hx hb dX6_why_32 (by decide) ?_
      refine lv_goto (tgt := 62) hx hb dX6_why_33 (by decide) ?_
      exact hret _ _ _ dX6_why_62 (by rw [kWhy, ← ex1_, ← ex2_, if_neg (Int32.not_lt.mpr c21), if_pos (Int32.not_le.mp c29)])
  · skip
    refine lv_iconst (v := 0) hx hb dX6_why_24 (by decide) ?_
    refine lv_goto (tgt := 62) hx hb dX6_why_25 (by decide) ?_
    exact hret _ _ _ dX6_why_62 (by rw [kWhy, ← ex1_, ← ex2_, if_pos (Int32.not_le.mp c21)])
end
section
/-- the cells that hold the numbers -/
abbrev moN (T : Nat → ClassId) (a qs qe : Nat) (fs : List Value) (t : Nat → Int32) (P : Nat → Nat → Int32) (E : Nat → Nat → Int64) : va_W := [(a, .inr (6, fs)), (qs, .inl (T 0, 43, .inl (mS t P))), (qe, .inl (T 1, 12, .inr (.inl (mE E))))]
theorem pdX6_charges : yX6_charges.cls = RX6 ∧ yX6_charges.cls ≠ "java/lang/invoke/MethodHandle" ∧ yX6_charges.cls ≠ "java/lang/invoke/VarHandle" ∧ (parseMethodDescriptor yX6_charges.desc).map (fun d => d.parameters.length) = some 1 := by decide +kernel
theorem pdX6_tick : yX6_tick.cls = RX6 ∧ yX6_tick.cls ≠ "java/lang/invoke/MethodHandle" ∧ yX6_tick.cls ≠ "java/lang/invoke/VarHandle" ∧ (parseMethodDescriptor yX6_tick.desc).map (fun d => d.parameters.length) = some 1 := by decide +kernel
theorem pdX6_passes : yX6_passes.cls = RX6 ∧ yX6_passes.cls ≠ "java/lang/invoke/MethodHandle" ∧ yX6_passes.cls ≠ "java/lang/invoke/VarHandle" ∧ (parseMethodDescriptor yX6_passes.desc).map (fun d => d.parameters.length) = some 1 := by decide +kernel
theorem pdX6_turnsOn : yX6_turnsOn.cls = RX6 ∧ yX6_turnsOn.cls ≠ "java/lang/invoke/MethodHandle" ∧ yX6_turnsOn.cls ≠ "java/lang/invoke/VarHandle" ∧ (parseMethodDescriptor yX6_turnsOn.desc).map (fun d => d.parameters.length) = some 2 := by decide +kernel
theorem pdX6_turnsOff : yX6_turnsOff.cls = RX6 ∧ yX6_turnsOff.cls ≠ "java/lang/invoke/MethodHandle" ∧ yX6_turnsOff.cls ≠ "java/lang/invoke/VarHandle" ∧ (parseMethodDescriptor yX6_turnsOff.desc).map (fun d => d.parameters.length) = some 1 := by decide +kernel
theorem pdX6_lays : yX6_lays.cls = RX6 ∧ yX6_lays.cls ≠ "java/lang/invoke/MethodHandle" ∧ yX6_lays.cls ≠ "java/lang/invoke/VarHandle" ∧ (parseMethodDescriptor yX6_lays.desc).map (fun d => d.parameters.length) = some 3 := by decide +kernel
theorem pdX6_couples : yX6_couples.cls = RX6 ∧ yX6_couples.cls ≠ "java/lang/invoke/MethodHandle" ∧ yX6_couples.cls ≠ "java/lang/invoke/VarHandle" ∧ (parseMethodDescriptor yX6_couples.desc).map (fun d => d.parameters.length) = some 2 := by decide +kernel
theorem inwX6_charges_X6 : ∀ w ∈ wsX60, w ∈ wsX6_charges := by decide +kernel
theorem inwX6_tick_X6 : ∀ w ∈ wsX60, w ∈ wsX6_tick := by decide +kernel
theorem inwX6_passes_X6 : ∀ w ∈ wsX60, w ∈ wsX6_passes := by decide +kernel
theorem inwX6_turnsOn_X6 : ∀ w ∈ wsX60, w ∈ wsX6_turnsOn := by decide +kernel
theorem inwX6_turnsOff_X6 : ∀ w ∈ wsX60, w ∈ wsX6_turnsOff := by decide +kernel
theorem inwX6_lays_X6 : ∀ w ∈ wsX60, w ∈ wsX6_lays := by decide +kernel
theorem inwX6_couples_X6 : ∀ w ∈ wsX60, w ∈ wsX6_couples := by decide +kernel
def rmX6_charges : Room := { frames := 4, cells := 0, slots := 0, locals := 86 }
set_option maxHeartbeats 4000000 in
set_option maxRecDepth 100000 in
theorem mX6_charges (l : Launch) (T : Nat → ClassId) (D : va_G) (a qs qe : Nat) (fs : List Value) (t : Nat → Int32) (P : Nat → Nat → Int32) (E : Nat → Nat → Int64) (hf : fs[0]? = some (.ref qs)) (he : fs[1]? = some (.ref qe)) (p : Nat) (hp : p < 4) : MuV l yX6_charges wsX6_charges rmX6_charges T xN D [.ref a, .int (nI p)] [(a, .inr (6, fs)), (qs, .inl (T 0, 43, .inl (mS t P))), (qe, .inl (T 1, 12, .inr (.inl (mE E))))] (S := Unit) (fun _ => True) (fun _ => moN T a qs qe fs t (va_up P p (kHoldP (P p))) (va_up E p (kHoldE (P p) (E p)))) 0 0 := by
  refine met_mv (cc := cX6_charges) (maxL := 3) (by decide) rfl (Nat.le_of_ble_eq_true rfl) ?_
  intro p_ e s m args below meth c ls A Q hx hb hts hown hml hX hP hD hK hS hA hl hin hret
  have hl : lv_has ls 3 [(0, .ref a), (1, .int (nI p))] := hl
  refine lv_aload_n hx hb dX6_charges_0 rfl (lv_at hl 0 rfl) ?_
  refine lv_iload_n hx hb dX6_charges_1 rfl (lv_at hl 1 rfl) ?_
  refine callRi (As := [.int (nI p)]) ⟨hx, hb, hml, hown, hts⟩ (mX6_isOn l T D a qs fs t P hf p hp ) (cwV 1 hts gX6_charges_X6_isOn rfl rfl rfl pdX6_isOn ⟨Nat.le_of_ble_eq_true rfl, Nat.le_of_ble_eq_true rfl⟩) (hP.sub [0, 1] rfl) hK xN_bl (fun U _ hW => XN_warm hW hX) (ci := 6) rfl rfl rfl hl.1 rfl rfl (Nat.le_of_ble_eq_true rfl) dX6_charges_2 ⟨Nat.zero_le _, Nat.zero_le _⟩ (fun r1_ er1_ => ?_)
  obtain rfl : r1_ = bI (P p 9 = 1) := er1_
  refine lv_if_eq (tgt := 70) hx hb dX6_charges_5 (by decide) (fun c5 => ?_) (fun c5 => ?_)
  · skip
    have c5 := bI_0 c5
    exact hret _ _ () _ _ dX6_charges_70 hS (by rw [kHoldP, if_neg c5, kHoldE, if_neg c5, up_id, up_id]; exact hP) (by rw [kHoldP, if_neg c5, kHoldE, if_neg c5, up_id, up_id]; exact hD) trivial
  · skip
    have c5 := bI_n0 c5
    refine lv_aload_n hx hb dX6_charges_8 rfl (lv_at hl 0 rfl) ?_
    refine lv_iload_n hx hb dX6_charges_9 rfl (lv_at hl 1 rfl) ?_
    refine callRi (As := [.int (nI p)]) ⟨hx, hb, hml, hown, hts⟩ (mX6_capacityNow l T D a qs fs t P hf p hp ) (cwV 1 hts gX6_charges_X6_capacityNow rfl rfl rfl pdX6_capacityNow ⟨Nat.le_of_ble_eq_true rfl, Nat.le_of_ble_eq_true rfl⟩) (hP.sub [0, 1] rfl) hK xN_bl (fun U _ hW => XN_warm hW hX) (ci := 6) rfl rfl rfl hl.1 rfl rfl (Nat.le_of_ble_eq_true rfl) dX6_charges_10 ⟨Nat.zero_le _, Nat.zero_le _⟩ (fun r2_ er2_ => ?_)
    obtain rfl : r2_ = kCap (P p) (P p 6) := er2_
    refine lv_aload_n hx hb dX6_charges_13 rfl (lv_at hl 0 rfl) ?_
    refine lv_iload_n hx hb dX6_charges_14 rfl (lv_at hl 1 rfl) ?_
    refine lv_bipush (v := nI 8) hx hb dX6_charges_15 (by decide) ?_
    refine callRi (As := [.int (nI p), .int (nI 8)]) ⟨hx, hb, hml, hown, hts⟩ (mX6_of l T D a qs fs t P hf p hp 8 (by decide)) (cwV 2 hts gX6_charges_X6_of rfl rfl rfl pdX6_of ⟨Nat.le_of_ble_eq_true rfl, Nat.le_of_ble_eq_true rfl⟩) (hP.sub [0, 1] rfl) hK xN_bl (fun U _ hW => XN_warm hW hX) (ci := 6) rfl rfl rfl hl.1 rfl rfl (Nat.le_of_ble_eq_true rfl) dX6_charges_17 ⟨Nat.zero_le _, Nat.zero_le _⟩ (fun r3_ er3_ => ?_)
    obtain rfl : r3_ = P p 8 := er3_
    refine lv_imul hx hb dX6_charges_20 ?_
    refine lv_topi (fun x1_ ex1_ => ?_)
    refine lv_istore_n (lv' := [(2, .int x1_), (0, .ref a), (1, .int (nI p))]) hx hb dX6_charges_21 rfl hl (by decide) rfl (fun ls hl => ?_)
    refine lv_aload_n hx hb dX6_charges_22 rfl (lv_at hl 1 rfl) ?_
    refine va_get (D := D) (ci := 6) (v := .ref qe) (C := RX6) (T := TX6) (N := 22) hx hb hts inwX6_charges_X6 hown hK hP 0 rfl rfl 1 (by decide) (hts (.fieldLink RX6 13 "PlateSlabsModel" "e" "[J") (List.mem_of_getElem? (i := 1) rfl)) (fun _ h9 => h9) he dX6_charges_23 ?_
    refine lv_iconst (v := nI 3) hx hb dX6_charges_26 (by decide) ?_
    refine lv_iload_n hx hb dX6_charges_27 rfl (lv_at hl 2 rfl) ?_
    refine lv_imul hx hb dX6_charges_28 ?_
    refine lv_iconst (v := nI 0) hx hb dX6_charges_29 (by decide) ?_
    refine lv_iadd hx hb dX6_charges_30 ?_
    refine lv_tpi (z := nI (3 * p + 0)) (by rw [pk_mul, nI_add]) ?_
    refine lv_dup2_11 hx hb dX6_charges_31 rfl rfl ?_
    refine va_lald hx hb hK hP 2 1 rfl rfl (vp_in_nI (by omega) (by decide)) dX6_charges_32 ?_
    refine lv_tpl (congrArg (fun z => (mE E) z) (nI_clamp (by omega))) ?_
    refine lv_tpl (z := E p 0) (mE_at E (by decide)) ?_
    refine lv_ldc2 (v := 2) hx hb hown (hts (.constantLong RX6 88 (2)) (List.mem_of_getElem? (i := 2) rfl)) dX6_charges_33 ?_
    refine lv_aload_n hx hb dX6_charges_36 rfl (lv_at hl 1 rfl) ?_
    refine lv_iload_n hx hb dX6_charges_37 rfl (lv_at hl 2 rfl) ?_
    refine lv_bipush (v := nI 8) hx hb dX6_charges_38 (by decide) ?_
    refine callRi (As := [.int (nI p), .int (nI 8)]) ⟨hx, hb, hml, hown, hts⟩ (mX6_of l T D a qs fs t P hf p hp 8 (by decide)) (cwV 2 hts gX6_charges_X6_of rfl rfl rfl pdX6_of ⟨Nat.le_of_ble_eq_true rfl, Nat.le_of_ble_eq_true rfl⟩) (hP.sub [0, 1] rfl) hK xN_bl (fun U _ hW => XN_warm hW hX) (ci := 6) rfl rfl rfl hl.1 rfl rfl (Nat.le_of_ble_eq_true rfl) dX6_charges_40 ⟨Nat.zero_le _, Nat.zero_le _⟩ (fun r4_ er4_ => ?_)
    obtain rfl : r4_ = P p 8 := er4_
    refine lv_i2l hx hb dX6_charges_43 rfl ?_
    refine lv_lmul hx hb dX6_charges_44 ?_
    refine lv_iload_n hx hb dX6_charges_45 rfl (lv_at hl 0 rfl) ?_
    refine lv_aload_n hx hb dX6_charges_46 rfl (lv_at hl 1 rfl) ?_
    refine lv_iload_n hx hb dX6_charges_47 rfl (lv_at hl 2 rfl) ?_
    refine lv_bipush (v := nI 7) hx hb dX6_charges_48 (by decide) ?_
    refine callRi (As := [.int (nI p), .int (nI 7)]) ⟨hx, hb, hml, hown, hts⟩ (mX6_of l T D a qs fs t P hf p hp 7 (by decide)) (cwV 2 hts gX6_charges_X6_of rfl rfl rfl pdX6_of ⟨Nat.le_of_ble_eq_true rfl, Nat.le_of_ble_eq_true rfl⟩) (hP.sub [0, 1] rfl) hK xN_bl (fun U _ hW => XN_warm hW hX) (ci := 6) rfl rfl rfl hl.1 rfl rfl (Nat.le_of_ble_eq_true rfl) dX6_charges_50 ⟨Nat.zero_le _, Nat.zero_le _⟩ (fun r5_ er5_ => ?_)
    obtain rfl : r5_ = P p 7 := er5_
    refine lv_isub hx hb dX6_charges_53 ?_
    refine lv_i2l hx hb dX6_charges_54 rfl ?_
    refine lv_lmul hx hb dX6_charges_55 ?_
    refine lv_ladd hx hb dX6_charges_56 ?_
    refine va_last hx hb hK hP hD hS 2 1 rfl rfl (vp_in_nI (by omega) (by decide)) dX6_charges_57 (fun H locs hP hD hS => ?_)
    rw [nI_clamp (show 3 * p + 0 < 2 ^ 31 by omega)] at hP hD
    have hP : va_P D vwCl [(a, .inr (6, fs)), (qs, .inl (T 0, 43, .inl (mS t P))), (qe, .inl (T 1, 12, .inr (.inl (vp_updL (mE E) (3 * p + 0) ((E p 0) + ((2 * (Int32.toInt64 (P p 8))) * (Int32.toInt64 (x1_ - (P p 7)))))))))] H := hP
    have hD : va_D A [(a, .inr (6, fs)), (qs, .inl (T 0, 43, .inl (mS t P))), (qe, .inl (T 1, 12, .inr (.inl (vp_updL (mE E) (3 * p + 0) ((E p 0) + ((2 * (Int32.toInt64 (P p 8))) * (Int32.toInt64 (x1_ - (P p 7)))))))))] := hD
    rw [mE_up E (by decide)] at hP hD
    obtain ⟨E1, eE1⟩ : ∃ z, z = va_up E p (vp_updL (E p) 0 (E p 0 + 2 * (P p 8).toInt64 * (x1_ - P p 7).toInt64)) := ⟨_, rfl⟩
    rw [← eE1] at hP hD
    have hP : va_P D vwCl [(a, .inr (6, fs)), (qs, .inl (T 0, 43, .inl (mS t P))), (qe, .inl (T 1, 12, .inr (.inl (mE E1))))] H := hP
    have hD : va_D A [(a, .inr (6, fs)), (qs, .inl (T 0, 43, .inl (mS t P))), (qe, .inl (T 1, 12, .inr (.inl (mE E1))))] := hD
    refine lv_aload_n hx hb dX6_charges_58 rfl (lv_at hl 1 rfl) ?_
    refine va_get (D := D) (ci := 6) (v := .ref qs) (C := RX6) (T := TX6) (N := 22) hx hb hts inwX6_charges_X6 hown hK hP 0 rfl rfl 0 (by decide) (hts (.fieldLink RX6 7 "PlateSlabsModel" "s" "[I") (List.mem_of_getElem? (i := 3) rfl)) (fun _ h9 => h9) hf dX6_charges_59 ?_
    refine lv_iload_n hx hb dX6_charges_62 rfl (lv_at hl 2 rfl) ?_
    refine lv_bipush (v := nI 7) hx hb dX6_charges_63 (by decide) ?_
    refine callSi (As := [.int (nI p), .int (nI 7)]) ⟨hx, hb, hml, hown, hts⟩ (mX6_at l T D p 7) (va_cwS 2 hts gX6_charges_X6_at rfl rfl rfl (pdX6_at).2 ⟨Nat.le_of_ble_eq_true rfl, Nat.le_of_ble_eq_true rfl⟩) wP_nil hK xN_bl (fun U _ hW => XN_warm hW hX) hl.1 rfl rfl (Nat.le_of_ble_eq_true rfl) dX6_charges_65 ⟨Nat.zero_le _, Nat.zero_le _⟩ (fun r6_ er6_ => ?_)
    obtain rfl : r6_ = nI (3 + 10 * p + 7) := er6_
    refine lv_iload_n hx hb dX6_charges_68 rfl (lv_at hl 0 rfl) ?_
    refine va_iast hx hb hK hP hD hS 1 0 rfl rfl (vp_in_nI (by omega) (by decide)) dX6_charges_69 (fun H locs hP hD hS => ?_)
    rw [nI_clamp (show 3 + 10 * p + 7 < 2 ^ 31 by omega)] at hP hD
    have hP : va_P D vwCl [(a, .inr (6, fs)), (qs, .inl (T 0, 43, .inl (upd (mS t P) (3 + 10 * p + 7) x1_))), (qe, .inl (T 1, 12, .inr (.inl (mE E1))))] H := hP
    have hD : va_D A [(a, .inr (6, fs)), (qs, .inl (T 0, 43, .inl (upd (mS t P) (3 + 10 * p + 7) x1_))), (qe, .inl (T 1, 12, .inr (.inl (mE E1))))] := hD
    rw [mS_up t P (by decide)] at hP hD
    obtain ⟨P1, eP1⟩ : ∃ z, z = va_up P p (upd (P p) 7 x1_) := ⟨_, rfl⟩
    rw [← eP1] at hP hD
    have hP : va_P D vwCl [(a, .inr (6, fs)), (qs, .inl (T 0, 43, .inl (mS t P1))), (qe, .inl (T 1, 12, .inr (.inl (mE E1))))] H := hP
    have hD : va_D A [(a, .inr (6, fs)), (qs, .inl (T 0, 43, .inl (mS t P1))), (qe, .inl (T 1, 12, .inr (.inl (mE E1))))] := hD
    have eF : kHoldP (P p) = upd (P p) 7 x1_ := by rw [kHoldP, if_pos c5, ex1_]
    have eG : kHoldE (P p) (E p) = vp_updL (E p) 0 (E p 0 + 2 * (P p 8).toInt64 * (x1_ - P p 7).toInt64) := by rw [kHoldE, if_pos c5, ex1_]
    exact hret _ _ () _ _ dX6_charges_70 hS (by rw [eF, eG, ← eP1, ← eE1]; exact hP) (by rw [eF, eG, ← eP1, ← eE1]; exact hD) trivial

def rmX6_tick : Room := { frames := 6, cells := 0, slots := 0, locals := 136 }
set_option maxHeartbeats 4000000 in
set_option maxRecDepth 100000 in
theorem mX6_tick (l : Launch) (T : Nat → ClassId) (D : va_G) (a qs qe : Nat) (fs : List Value) (t : Nat → Int32) (P : Nat → Nat → Int32) (E : Nat → Nat → Int64) (hf : fs[0]? = some (.ref qs)) (he : fs[1]? = some (.ref qe)) (hk : ∀ p, p < 4 → kOk (P p)) (p : Nat) (hp : p < 4) : MuI l yX6_tick wsX6_tick rmX6_tick T xN D [.ref a, .int (nI p)] [(a, .inr (6, fs)), (qs, .inl (T 0, 43, .inl (mS t P))), (qe, .inl (T 1, 12, .inr (.inl (mE E))))] (S := Unit) (fun r _ => r = kMoved (P p)) (fun _ => moN T a qs qe fs (upd t 2 (t 2 + kMoved (P p))) (va_up P p (kTickP (P p))) (va_up E p (kTickE (P p) (E p)))) 0 0 := by
  refine met_mi (cc := cX6_tick) (maxL := 4) (by decide) rfl (Nat.le_of_ble_eq_true rfl) ?_
  intro p_ e s m args below meth c ls A Q hx hb hts hown hml hX hP hD hK hS hA hl hret
  have hl : lv_has ls 4 [(0, .ref a), (1, .int (nI p))] := hl
  refine lv_aload_n hx hb dX6_tick_0 rfl (lv_at hl 0 rfl) ?_
  refine lv_iload_n hx hb dX6_tick_1 rfl (lv_at hl 1 rfl) ?_
  refine callRi (As := [.int (nI p)]) ⟨hx, hb, hml, hown, hts⟩ (mX6_isOn l T D a qs fs t P hf p hp ) (cwV 1 hts gX6_tick_X6_isOn rfl rfl rfl pdX6_isOn ⟨Nat.le_of_ble_eq_true rfl, Nat.le_of_ble_eq_true rfl⟩) (hP.sub [0, 1] rfl) hK xN_bl (fun U _ hW => XN_warm hW hX) (ci := 6) rfl rfl rfl hl.1 rfl rfl (Nat.le_of_ble_eq_true rfl) dX6_tick_2 ⟨Nat.zero_le _, Nat.zero_le _⟩ (fun r1_ er1_ => ?_)
  obtain rfl : r1_ = bI (P p 9 = 1) := er1_
  have hJ60 : ∀  (ls : Array Slot) (H : Heap) (locs : List Loc), va_P D vwCl [(a, .inr (6, fs)), (qs, .inl (T 0, 43, .inl (mS t (va_up P p (kLeakP (P p)))))), (qe, .inl (T 1, 12, .inr (.inl (mE (va_up E p (kLeakE (P p) (E p)))))))] H → va_D A [(a, .inr (6, fs)), (qs, .inl (T 0, 43, .inl (mS t (va_up P p (kLeakP (P p)))))), (qe, .inl (T 1, 12, .inr (.inl (mE (va_up E p (kLeakE (P p) (E p)))))))] → va_S A s.heap H locs → lv_has ls 4 [(0, .ref a), (1, .int (nI p))] → W p_ l e rmX6_tick s m args below meth c H locs 0 0 Q (F0 m 60 ls []) := by
    intro ls H locs hP hD hS hl
    obtain ⟨P1, eP1⟩ : ∃ z, z = va_up P p (kLeakP (P p)) := ⟨_, rfl⟩
    obtain ⟨E1, eE1⟩ : ∃ z, z = va_up E p (kLeakE (P p) (E p)) := ⟨_, rfl⟩
    rw [← eP1, ← eE1] at hP hD
    have hk1 : ∀ q, q < 4 → kOk (P1 q) := by rw [eP1]; exact kOk_up hk (kOk_leak (hk p hp))
    have f1 : P1 p = kLeakP (P p) := by rw [eP1, up_0]
    have g1 : E1 p = kLeakE (P p) (E p) := by rw [eE1, up_0]
    refine lv_aload_n hx hb dX6_tick_60 rfl (lv_at hl 0 rfl) ?_
    refine lv_iload_n hx hb dX6_tick_61 rfl (lv_at hl 1 rfl) ?_
    refine lv_aload_n hx hb dX6_tick_62 rfl (lv_at hl 0 rfl) ?_
    refine lv_iload_n hx hb dX6_tick_63 rfl (lv_at hl 1 rfl) ?_
    refine lv_bipush (v := nI 6) hx hb dX6_tick_64 (by decide) ?_
    refine callRi (As := [.int (nI p), .int (nI 6)]) ⟨hx, hb, hml, hown, hts⟩ (mX6_of l T D a qs fs t P1 hf p hp 6 (by decide)) (cwV 2 hts gX6_tick_X6_of rfl rfl rfl pdX6_of ⟨Nat.le_of_ble_eq_true rfl, Nat.le_of_ble_eq_true rfl⟩) (hP.sub [0, 1] rfl) hK xN_bl (fun U _ hW => XN_warm hW hX) (ci := 6) rfl rfl rfl hl.1 rfl rfl (Nat.le_of_ble_eq_true rfl) dX6_tick_66 ⟨Nat.zero_le _, Nat.zero_le _⟩ (fun r2_ er2_ => ?_)
    obtain rfl : r2_ = P1 p 6 := er2_
    refine lv_aload_n hx hb dX6_tick_69 rfl (lv_at hl 0 rfl) ?_
    refine lv_iload_n hx hb dX6_tick_70 rfl (lv_at hl 1 rfl) ?_
    refine callRi (As := [.int (nI p)]) ⟨hx, hb, hml, hown, hts⟩ (mX6_net l T D a qs fs t P1 hf p hp (hk1 p hp)) (cwV 1 hts gX6_tick_X6_net rfl rfl rfl pdX6_net ⟨Nat.le_of_ble_eq_true rfl, Nat.le_of_ble_eq_true rfl⟩) (hP.sub [0, 1] rfl) hK xN_bl (fun U _ hW => XN_warm hW hX) (ci := 6) rfl rfl rfl hl.1 rfl rfl (Nat.le_of_ble_eq_true rfl) dX6_tick_71 ⟨Nat.zero_le _, Nat.zero_le _⟩ (fun r3_ er3_ => ?_)
    obtain rfl : r3_ = kNet (P1 p) := er3_
    refine callRi (As := [.int (nI p), .int (P1 p 6), .int (kNet (P1 p))]) ⟨hx, hb, hml, hown, hts⟩ (mX6_move l T D a qs fs t P1 hf p hp (P1 p 6) (kNet (P1 p))) (cwV 3 hts gX6_tick_X6_move rfl rfl rfl pdX6_move ⟨Nat.le_of_ble_eq_true rfl, Nat.le_of_ble_eq_true rfl⟩) (hP.sub [0, 1] rfl) hK xN_bl (fun U _ hW => XN_warm hW hX) (ci := 6) rfl rfl rfl hl.1 rfl rfl (Nat.le_of_ble_eq_true rfl) dX6_tick_74 ⟨Nat.zero_le _, Nat.zero_le _⟩ (fun r4_ er4_ => ?_)
    obtain rfl : r4_ = kMove (P1 p) (P1 p 6) (kNet (P1 p)) := er4_
    refine lv_topi (fun x2_ ex2_ => ?_)
    refine lv_istore_n (lv' := [(2, .int x2_), (0, .ref a), (1, .int (nI p))]) hx hb dX6_tick_77 rfl hl (by decide) rfl (fun ls hl => ?_)
    refine lv_aload_n hx hb dX6_tick_78 rfl (lv_at hl 1 rfl) ?_
    refine va_get (D := D) (ci := 6) (v := .ref qs) (C := RX6) (T := TX6) (N := 22) hx hb hts inwX6_tick_X6 hown hK hP 0 rfl rfl 0 (by decide) (hts (.fieldLink RX6 7 "PlateSlabsModel" "s" "[I") (List.mem_of_getElem? (i := 1) rfl)) (fun _ h9 => h9) hf dX6_tick_79 ?_
    refine lv_iload_n hx hb dX6_tick_82 rfl (lv_at hl 2 rfl) ?_
    refine lv_bipush (v := nI 6) hx hb dX6_tick_83 (by decide) ?_
    refine callSi (As := [.int (nI p), .int (nI 6)]) ⟨hx, hb, hml, hown, hts⟩ (mX6_at l T D p 6) (va_cwS 2 hts gX6_tick_X6_at rfl rfl rfl (pdX6_at).2 ⟨Nat.le_of_ble_eq_true rfl, Nat.le_of_ble_eq_true rfl⟩) wP_nil hK xN_bl (fun U _ hW => XN_warm hW hX) hl.1 rfl rfl (Nat.le_of_ble_eq_true rfl) dX6_tick_85 ⟨Nat.zero_le _, Nat.zero_le _⟩ (fun r5_ er5_ => ?_)
    obtain rfl : r5_ = nI (3 + 10 * p + 6) := er5_
    refine lv_dup2_11 hx hb dX6_tick_88 rfl rfl ?_
    refine va_iald hx hb hK hP 1 0 rfl rfl (vp_in_nI (by omega) (by decide)) dX6_tick_89 ?_
    refine lv_tpi (congrArg (fun z => (mS t P1) z) (nI_clamp (by omega))) ?_
    refine lv_tpi (z := P1 p 6) (mS_at t P1 (by decide)) ?_
    refine lv_iload_n hx hb dX6_tick_90 rfl (lv_at hl 0 rfl) ?_
    refine lv_iadd hx hb dX6_tick_91 ?_
    refine va_iast hx hb hK hP hD hS 1 0 rfl rfl (vp_in_nI (by omega) (by decide)) dX6_tick_92 (fun H locs hP hD hS => ?_)
    rw [nI_clamp (show 3 + 10 * p + 6 < 2 ^ 31 by omega)] at hP hD
    have hP : va_P D vwCl [(a, .inr (6, fs)), (qs, .inl (T 0, 43, .inl (upd (mS t P1) (3 + 10 * p + 6) ((P1 p 6) + x2_)))), (qe, .inl (T 1, 12, .inr (.inl (mE E1))))] H := hP
    have hD : va_D A [(a, .inr (6, fs)), (qs, .inl (T 0, 43, .inl (upd (mS t P1) (3 + 10 * p + 6) ((P1 p 6) + x2_)))), (qe, .inl (T 1, 12, .inr (.inl (mE E1))))] := hD
    rw [mS_up t P1 (by decide)] at hP hD
    obtain ⟨P2, eP2⟩ : ∃ z, z = va_up P1 p (upd (P1 p) 6 (P1 p 6 + x2_)) := ⟨_, rfl⟩
    rw [← eP2] at hP hD
    have hP : va_P D vwCl [(a, .inr (6, fs)), (qs, .inl (T 0, 43, .inl (mS t P2))), (qe, .inl (T 1, 12, .inr (.inl (mE E1))))] H := hP
    have hD : va_D A [(a, .inr (6, fs)), (qs, .inl (T 0, 43, .inl (mS t P2))), (qe, .inl (T 1, 12, .inr (.inl (mE E1))))] := hD
    have f2 : P2 p = kStepP (P1 p) := by rw [eP2, up_0, ex2_]; rfl
    have hk2 : ∀ q, q < 4 → kOk (P2 q) := by rw [eP2, ex2_]; exact kOk_up hk1 (kOk_step (hk1 p hp))
    refine lv_aload_n hx hb dX6_tick_93 rfl (lv_at hl 1 rfl) ?_
    refine va_get (D := D) (ci := 6) (v := .ref qs) (C := RX6) (T := TX6) (N := 22) hx hb hts inwX6_tick_X6 hown hK hP 0 rfl rfl 0 (by decide) (hts (.fieldLink RX6 7 "PlateSlabsModel" "s" "[I") (List.mem_of_getElem? (i := 1) rfl)) (fun _ h9 => h9) hf dX6_tick_94 ?_
    refine lv_iconst (v := 2) hx hb dX6_tick_97 (by decide) ?_
    refine lv_dup2_11 hx hb dX6_tick_98 rfl rfl ?_
    refine va_iald hx hb hK hP 1 0 rfl rfl (in_lit (by decide)) dX6_tick_99 ?_
    refine lv_tpi (congrArg (fun z => (mS t P2) z) (cl_2)) ?_
    refine lv_tpi (z := t 2) (mS_t t P2 (by decide)) ?_
    refine lv_iload_n hx hb dX6_tick_100 rfl (lv_at hl 0 rfl) ?_
    refine callSi (As := [.int x2_]) ⟨hx, hb, hml, hown, hts⟩ (mX6_size l T D x2_) (va_cwS 1 hts gX6_tick_X6_size rfl rfl rfl (pdX6_size).2 ⟨Nat.le_of_ble_eq_true rfl, Nat.le_of_ble_eq_true rfl⟩) wP_nil hK xN_bl (fun U _ hW => XN_warm hW hX) hl.1 rfl rfl (Nat.le_of_ble_eq_true rfl) dX6_tick_101 ⟨Nat.zero_le _, Nat.zero_le _⟩ (fun r6_ er6_ => ?_)
    obtain rfl : r6_ = kSize x2_ := er6_
    refine lv_iadd hx hb dX6_tick_104 ?_
    refine va_iast hx hb hK hP hD hS 1 0 rfl rfl (in_lit (by decide)) dX6_tick_105 (fun H locs hP hD hS => ?_)
    rw [cl_2] at hP hD
    have hP : va_P D vwCl [(a, .inr (6, fs)), (qs, .inl (T 0, 43, .inl (upd (mS t P2) 2 ((t 2) + (kSize x2_))))), (qe, .inl (T 1, 12, .inr (.inl (mE E1))))] H := hP
    have hD : va_D A [(a, .inr (6, fs)), (qs, .inl (T 0, 43, .inl (upd (mS t P2) 2 ((t 2) + (kSize x2_))))), (qe, .inl (T 1, 12, .inr (.inl (mE E1))))] := hD
    rw [mS_upt t P2 (by decide)] at hP hD
    obtain ⟨t1, et1⟩ : ∃ z, z = upd t 2 (t 2 + kSize x2_) := ⟨_, rfl⟩
    rw [← et1] at hP hD
    have hP : va_P D vwCl [(a, .inr (6, fs)), (qs, .inl (T 0, 43, .inl (mS t1 P2))), (qe, .inl (T 1, 12, .inr (.inl (mE E1))))] H := hP
    have hD : va_D A [(a, .inr (6, fs)), (qs, .inl (T 0, 43, .inl (mS t1 P2))), (qe, .inl (T 1, 12, .inr (.inl (mE E1))))] := hD
    refine lv_aload_n hx hb dX6_tick_106 rfl (lv_at hl 1 rfl) ?_
    refine lv_iload_n hx hb dX6_tick_107 rfl (lv_at hl 2 rfl) ?_
    skip
    refine callMv (As := [.int (nI p)]) (wr := []) ⟨hx, hb, hml, hown, hts⟩ (mX6_charges l T D a qs qe fs t1 P2 E1 hf he p hp) (cwV 1 hts gX6_tick_X6_charges rfl rfl rfl pdX6_charges ⟨Nat.le_of_ble_eq_true rfl, Nat.le_of_ble_eq_true rfl⟩) hP hD hK hS hA xN_bl (fun U _ hW => XN_warm hW hX) (ci := 6) rfl rfl rfl hl.1 rfl rfl (Nat.le_of_ble_eq_true rfl) dX6_tick_108 ⟨Nat.zero_le _, Nat.zero_le _⟩ (fun u8_ H locs eu8_ hP hD hS hkf => ?_)
    obtain ⟨P3, eP3⟩ : ∃ z : Nat → Nat → Int32, z = va_up P2 p (kHoldP (P2 p)) := ⟨_, rfl⟩
    obtain ⟨E3, eE3⟩ : ∃ z : Nat → Nat → Int64, z = va_up E1 p (kHoldE (P2 p) (E1 p)) := ⟨_, rfl⟩
    rw [← eP3, ← eE3] at hP hD
    have hP : va_P D vwCl [(a, .inr (6, fs)), (qs, .inl (T 0, 43, .inl (mS t1 P3))), (qe, .inl (T 1, 12, .inr (.inl (mE E3))))] H := hP
    have hD : va_D A [(a, .inr (6, fs)), (qs, .inl (T 0, 43, .inl (mS t1 P3))), (qe, .inl (T 1, 12, .inr (.inl (mE E3))))] := hD
    refine lv_iload_n hx hb dX6_tick_111 rfl (lv_at hl 0 rfl) ?_
    refine callSi (As := [.int x2_]) ⟨hx, hb, hml, hown, hts⟩ (mX6_size l T D x2_) (va_cwS 1 hts gX6_tick_X6_size rfl rfl rfl (pdX6_size).2 ⟨Nat.le_of_ble_eq_true rfl, Nat.le_of_ble_eq_true rfl⟩) wP_nil hK xN_bl (fun U _ hW => XN_warm hW hX) hl.1 rfl rfl (Nat.le_of_ble_eq_true rfl) dX6_tick_112 ⟨Nat.zero_le _, Nat.zero_le _⟩ (fun r9_ er9_ => ?_)
    obtain rfl : r9_ = kSize x2_ := er9_
    have fP : P3 = va_up P p (kTickP (P p)) := by rw [eP3, f2, f1, eP2, up_up, eP1, up_up]; rfl
    have fE : E3 = va_up E p (kTickE (P p) (E p)) := by rw [eE3, f2, f1, g1, eE1, up_up]; rfl
    have fr : kSize x2_ = kMoved (P p) := by rw [ex2_, f1]; rfl
    exact hret _ _ _ () _ _ dX6_tick_115 hS (by rw [← fP, ← fE, ← fr, ← et1]; exact hP) (by rw [← fP, ← fE, ← fr, ← et1]; exact hD) fr
  refine lv_if_ne (tgt := 60) hx hb dX6_tick_5 (by decide) (fun c5 => ?_) (fun c5 => ?_)
  · skip
    have c5 := bI_n0 c5
    exact hJ60 ls _ _ (by rw [kLeakP, if_pos c5, kLeakE, if_pos c5, up_id, up_id]; exact hP) (by rw [kLeakP, if_pos c5, kLeakE, if_pos c5, up_id, up_id]; exact hD) hS (lv_sub hl [0, 1] rfl)
  · skip
    have c5 := bI_0 c5
    refine lv_aload_n hx hb dX6_tick_8 rfl (lv_at hl 0 rfl) ?_
    refine lv_iload_n hx hb dX6_tick_9 rfl (lv_at hl 1 rfl) ?_
    refine callRl (As := [.int (nI p)]) ⟨hx, hb, hml, hown, hts⟩ (mX6_stored l T D a qs fs t P hf p hp (hk p hp)) (cwV 1 hts gX6_tick_X6_stored rfl rfl rfl pdX6_stored ⟨Nat.le_of_ble_eq_true rfl, Nat.le_of_ble_eq_true rfl⟩) (hP.sub [0, 1] rfl) hK xN_bl (fun U _ hW => XN_warm hW hX) (ci := 6) rfl rfl rfl hl.1 rfl rfl (Nat.le_of_ble_eq_true rfl) dX6_tick_10 ⟨Nat.zero_le _, Nat.zero_le _⟩ (fun r10_ er10_ => ?_)
    obtain rfl : r10_ = kStored (P p) := er10_
    refine lv_topl (fun x1_ ex1_ => ?_)
    refine lv_lstore_n (lv' := [(2, .long x1_), (0, .ref a), (1, .int (nI p))]) hx hb dX6_tick_13 rfl hl (by decide) rfl (fun ls hl => ?_)
    refine lv_aload_n hx hb dX6_tick_14 rfl (lv_at hl 1 rfl) ?_
    refine va_get (D := D) (ci := 6) (v := .ref qs) (C := RX6) (T := TX6) (N := 22) hx hb hts inwX6_tick_X6 hown hK hP 0 rfl rfl 0 (by decide) (hts (.fieldLink RX6 7 "PlateSlabsModel" "s" "[I") (List.mem_of_getElem? (i := 1) rfl)) (fun _ h9 => h9) hf dX6_tick_15 ?_
    refine lv_iload_n hx hb dX6_tick_18 rfl (lv_at hl 2 rfl) ?_
    refine lv_bipush (v := nI 7) hx hb dX6_tick_19 (by decide) ?_
    refine callSi (As := [.int (nI p), .int (nI 7)]) ⟨hx, hb, hml, hown, hts⟩ (mX6_at l T D p 7) (va_cwS 2 hts gX6_tick_X6_at rfl rfl rfl (pdX6_at).2 ⟨Nat.le_of_ble_eq_true rfl, Nat.le_of_ble_eq_true rfl⟩) wP_nil hK xN_bl (fun U _ hW => XN_warm hW hX) hl.1 rfl rfl (Nat.le_of_ble_eq_true rfl) dX6_tick_21 ⟨Nat.zero_le _, Nat.zero_le _⟩ (fun r11_ er11_ => ?_)
    obtain rfl : r11_ = nI (3 + 10 * p + 7) := er11_
    refine lv_dup2_11 hx hb dX6_tick_24 rfl rfl ?_
    refine va_iald hx hb hK hP 1 0 rfl rfl (vp_in_nI (by omega) (by decide)) dX6_tick_25 ?_
    refine lv_tpi (congrArg (fun z => (mS t P) z) (nI_clamp (by omega))) ?_
    refine lv_tpi (z := P p 7) (mS_at t P (by decide)) ?_
    refine lv_aload_n hx hb dX6_tick_26 rfl (lv_at hl 1 rfl) ?_
    refine lv_iload_n hx hb dX6_tick_27 rfl (lv_at hl 2 rfl) ?_
    refine lv_aload_n hx hb dX6_tick_28 rfl (lv_at hl 1 rfl) ?_
    refine lv_iload_n hx hb dX6_tick_29 rfl (lv_at hl 2 rfl) ?_
    refine lv_bipush (v := nI 7) hx hb dX6_tick_30 (by decide) ?_
    refine callRi (As := [.int (nI p), .int (nI 7)]) ⟨hx, hb, hml, hown, hts⟩ (mX6_of l T D a qs fs t P hf p hp 7 (by decide)) (cwV 2 hts gX6_tick_X6_of rfl rfl rfl pdX6_of ⟨Nat.le_of_ble_eq_true rfl, Nat.le_of_ble_eq_true rfl⟩) (hP.sub [0, 1] rfl) hK xN_bl (fun U _ hW => XN_warm hW hX) (ci := 6) rfl rfl rfl hl.1 rfl rfl (Nat.le_of_ble_eq_true rfl) dX6_tick_32 ⟨Nat.zero_le _, Nat.zero_le _⟩ (fun r12_ er12_ => ?_)
    obtain rfl : r12_ = P p 7 := er12_
    refine callRi (As := [.int (nI p), .int (P p 7)]) ⟨hx, hb, hml, hown, hts⟩ (mX6_leak l T D a qs fs t P hf p hp (P p 7)) (cwV 2 hts gX6_tick_X6_leak rfl rfl rfl pdX6_leak ⟨Nat.le_of_ble_eq_true rfl, Nat.le_of_ble_eq_true rfl⟩) (hP.sub [0, 1] rfl) hK xN_bl (fun U _ hW => XN_warm hW hX) (ci := 6) rfl rfl rfl hl.1 rfl rfl (Nat.le_of_ble_eq_true rfl) dX6_tick_35 ⟨Nat.zero_le _, Nat.zero_le _⟩ (fun r13_ er13_ => ?_)
    obtain rfl : r13_ = kLeak (P p) (P p 7) := er13_
    refine lv_isub hx hb dX6_tick_38 ?_
    refine va_iast hx hb hK hP hD hS 1 0 rfl rfl (vp_in_nI (by omega) (by decide)) dX6_tick_39 (fun H locs hP hD hS => ?_)
    rw [nI_clamp (show 3 + 10 * p + 7 < 2 ^ 31 by omega)] at hP hD
    have hP : va_P D vwCl [(a, .inr (6, fs)), (qs, .inl (T 0, 43, .inl (upd (mS t P) (3 + 10 * p + 7) ((P p 7) - (kLeak (P p) (P p 7)))))), (qe, .inl (T 1, 12, .inr (.inl (mE E))))] H := hP
    have hD : va_D A [(a, .inr (6, fs)), (qs, .inl (T 0, 43, .inl (upd (mS t P) (3 + 10 * p + 7) ((P p 7) - (kLeak (P p) (P p 7)))))), (qe, .inl (T 1, 12, .inr (.inl (mE E))))] := hD
    rw [mS_up t P (by decide)] at hP hD
    obtain ⟨P1, eP1⟩ : ∃ z, z = va_up P p (upd (P p) 7 (P p 7 - kLeak (P p) (P p 7))) := ⟨_, rfl⟩
    rw [← eP1] at hP hD
    have hP : va_P D vwCl [(a, .inr (6, fs)), (qs, .inl (T 0, 43, .inl (mS t P1))), (qe, .inl (T 1, 12, .inr (.inl (mE E))))] H := hP
    have hD : va_D A [(a, .inr (6, fs)), (qs, .inl (T 0, 43, .inl (mS t P1))), (qe, .inl (T 1, 12, .inr (.inl (mE E))))] := hD
    have eF : kLeakP (P p) = P1 p := by rw [kLeakP, if_neg c5, eP1, up_0]
    have hkP1 : kOk (P1 p) := by rw [← eF]; exact kOk_leak (hk p hp)
    refine lv_aload_n hx hb dX6_tick_40 rfl (lv_at hl 1 rfl) ?_
    refine va_get (D := D) (ci := 6) (v := .ref qe) (C := RX6) (T := TX6) (N := 22) hx hb hts inwX6_tick_X6 hown hK hP 0 rfl rfl 1 (by decide) (hts (.fieldLink RX6 13 "PlateSlabsModel" "e" "[J") (List.mem_of_getElem? (i := 2) rfl)) (fun _ h9 => h9) he dX6_tick_41 ?_
    refine lv_iconst (v := nI 3) hx hb dX6_tick_44 (by decide) ?_
    refine lv_iload_n hx hb dX6_tick_45 rfl (lv_at hl 2 rfl) ?_
    refine lv_imul hx hb dX6_tick_46 ?_
    refine lv_iconst (v := nI 1) hx hb dX6_tick_47 (by decide) ?_
    refine lv_iadd hx hb dX6_tick_48 ?_
    refine lv_tpi (z := nI (3 * p + 1)) (by rw [pk_mul, nI_add]) ?_
    refine lv_dup2_11 hx hb dX6_tick_49 rfl rfl ?_
    refine va_lald hx hb hK hP 2 1 rfl rfl (vp_in_nI (by omega) (by decide)) dX6_tick_50 ?_
    refine lv_tpl (congrArg (fun z => (mE E) z) (nI_clamp (by omega))) ?_
    refine lv_tpl (z := E p 1) (mE_at E (by decide)) ?_
    refine lv_lload_n hx hb dX6_tick_51 rfl (lv_at hl 0 rfl) ?_
    refine lv_aload_n hx hb dX6_tick_52 rfl (lv_at hl 1 rfl) ?_
    refine lv_iload_n hx hb dX6_tick_53 rfl (lv_at hl 2 rfl) ?_
    refine callRl (As := [.int (nI p)]) ⟨hx, hb, hml, hown, hts⟩ (mX6_stored l T D a qs fs t P1 hf p hp hkP1) (cwV 1 hts gX6_tick_X6_stored rfl rfl rfl pdX6_stored ⟨Nat.le_of_ble_eq_true rfl, Nat.le_of_ble_eq_true rfl⟩) (hP.sub [0, 1] rfl) hK xN_bl (fun U _ hW => XN_warm hW hX) (ci := 6) rfl rfl rfl hl.1 rfl rfl (Nat.le_of_ble_eq_true rfl) dX6_tick_54 ⟨Nat.zero_le _, Nat.zero_le _⟩ (fun r14_ er14_ => ?_)
    obtain rfl : r14_ = kStored (P1 p) := er14_
    refine lv_lsub hx hb dX6_tick_57 ?_
    refine lv_ladd hx hb dX6_tick_58 ?_
    refine va_last hx hb hK hP hD hS 2 1 rfl rfl (vp_in_nI (by omega) (by decide)) dX6_tick_59 (fun H locs hP hD hS => ?_)
    rw [nI_clamp (show 3 * p + 1 < 2 ^ 31 by omega)] at hP hD
    have hP : va_P D vwCl [(a, .inr (6, fs)), (qs, .inl (T 0, 43, .inl (mS t P1))), (qe, .inl (T 1, 12, .inr (.inl (vp_updL (mE E) (3 * p + 1) ((E p 1) + (x1_ - (kStored (P1 p))))))))] H := hP
    have hD : va_D A [(a, .inr (6, fs)), (qs, .inl (T 0, 43, .inl (mS t P1))), (qe, .inl (T 1, 12, .inr (.inl (vp_updL (mE E) (3 * p + 1) ((E p 1) + (x1_ - (kStored (P1 p))))))))] := hD
    rw [mE_up E (by decide)] at hP hD
    obtain ⟨E1, eE1⟩ : ∃ z, z = va_up E p (vp_updL (E p) 1 (E p 1 + (x1_ - kStored (P1 p)))) := ⟨_, rfl⟩
    rw [← eE1] at hP hD
    have hP : va_P D vwCl [(a, .inr (6, fs)), (qs, .inl (T 0, 43, .inl (mS t P1))), (qe, .inl (T 1, 12, .inr (.inl (mE E1))))] H := hP
    have hD : va_D A [(a, .inr (6, fs)), (qs, .inl (T 0, 43, .inl (mS t P1))), (qe, .inl (T 1, 12, .inr (.inl (mE E1))))] := hD
    have eU : va_up P p (P1 p) = P1 := by rw [eP1, up_0]
    have eV : va_up E p (kLeakE (P p) (E p)) = E1 := by rw [kLeakE, if_neg c5, eF, ← ex1_, ← eE1]
    exact hJ60 ls _ _ (by rw [eF, eU, eV]; exact hP) (by rw [eF, eU, eV]; exact hD) hS (lv_sub hl [1, 2] rfl)

def rmX6_turnsOff : Room := { frames := 3, cells := 0, slots := 0, locals := 64 }
set_option maxHeartbeats 4000000 in
set_option maxRecDepth 100000 in
theorem mX6_turnsOff (l : Launch) (T : Nat → ClassId) (D : va_G) (a qs qe : Nat) (fs : List Value) (t : Nat → Int32) (P : Nat → Nat → Int32) (E : Nat → Nat → Int64) (hf : fs[0]? = some (.ref qs)) (he : fs[1]? = some (.ref qe)) (p : Nat) (hp : p < 4) : MuI l yX6_turnsOff wsX6_turnsOff rmX6_turnsOff T xN D [.ref a, .int (nI p)] [(a, .inr (6, fs)), (qs, .inl (T 0, 43, .inl (mS t P))), (qe, .inl (T 1, 12, .inr (.inl (mE E))))] (S := SG) (fun r u => (r, u) = oOff p (t, P, E)) (fun u => moN T a qs qe fs u.1 u.2.1 u.2.2) 0 0 := by
  refine met_mi (cc := cX6_turnsOff) (maxL := 2) (by decide) rfl (Nat.le_of_ble_eq_true rfl) ?_
  intro p_ e s m args below meth c ls A Q hx hb hts hown hml hX hP hD hK hS hA hl hret
  have hl : lv_has ls 2 [(0, .ref a), (1, .int (nI p))] := hl
  refine lv_aload_n hx hb dX6_turnsOff_0 rfl (lv_at hl 0 rfl) ?_
  refine lv_iload_n hx hb dX6_turnsOff_1 rfl (lv_at hl 1 rfl) ?_
  refine callRi (As := [.int (nI p)]) ⟨hx, hb, hml, hown, hts⟩ (mX6_isOn l T D a qs fs t P hf p hp ) (cwV 1 hts gX6_turnsOff_X6_isOn rfl rfl rfl pdX6_isOn ⟨Nat.le_of_ble_eq_true rfl, Nat.le_of_ble_eq_true rfl⟩) (hP.sub [0, 1] rfl) hK xN_bl (fun U _ hW => XN_warm hW hX) (ci := 6) rfl rfl rfl hl.1 rfl rfl (Nat.le_of_ble_eq_true rfl) dX6_turnsOff_2 ⟨Nat.zero_le _, Nat.zero_le _⟩ (fun r1_ er1_ => ?_)
  obtain rfl : r1_ = bI (P p 9 = 1) := er1_
  refine lv_if_ne (tgt := 11) hx hb dX6_turnsOff_5 (by decide) (fun c5 => ?_) (fun c5 => ?_)
  · skip
    have c5 := bI_n0 c5
    refine lv_aload_n hx hb dX6_turnsOff_11 rfl (lv_at hl 0 rfl) ?_
    refine va_get (D := D) (ci := 6) (v := .ref qs) (C := RX6) (T := TX6) (N := 22) hx hb hts inwX6_turnsOff_X6 hown hK hP 0 rfl rfl 0 (by decide) (hts (.fieldLink RX6 7 "PlateSlabsModel" "s" "[I") (List.mem_of_getElem? (i := 1) rfl)) (fun _ h9 => h9) hf dX6_turnsOff_12 ?_
    refine lv_iload_n hx hb dX6_turnsOff_15 rfl (lv_at hl 1 rfl) ?_
    refine lv_bipush (v := nI 9) hx hb dX6_turnsOff_16 (by decide) ?_
    refine callSi (As := [.int (nI p), .int (nI 9)]) ⟨hx, hb, hml, hown, hts⟩ (mX6_at l T D p 9) (va_cwS 2 hts gX6_turnsOff_X6_at rfl rfl rfl (pdX6_at).2 ⟨Nat.le_of_ble_eq_true rfl, Nat.le_of_ble_eq_true rfl⟩) wP_nil hK xN_bl (fun U _ hW => XN_warm hW hX) hl.1 rfl rfl (Nat.le_of_ble_eq_true rfl) dX6_turnsOff_18 ⟨Nat.zero_le _, Nat.zero_le _⟩ (fun r2_ er2_ => ?_)
    obtain rfl : r2_ = nI (3 + 10 * p + 9) := er2_
    refine lv_iconst (v := 0) hx hb dX6_turnsOff_21 (by decide) ?_
    refine va_iast hx hb hK hP hD hS 1 0 rfl rfl (vp_in_nI (by omega) (by decide)) dX6_turnsOff_22 (fun H locs hP hD hS => ?_)
    rw [nI_clamp (show 3 + 10 * p + 9 < 2 ^ 31 by omega)] at hP hD
    have hP : va_P D vwCl [(a, .inr (6, fs)), (qs, .inl (T 0, 43, .inl (upd (mS t P) (3 + 10 * p + 9) 0))), (qe, .inl (T 1, 12, .inr (.inl (mE E))))] H := hP
    have hD : va_D A [(a, .inr (6, fs)), (qs, .inl (T 0, 43, .inl (upd (mS t P) (3 + 10 * p + 9) 0))), (qe, .inl (T 1, 12, .inr (.inl (mE E))))] := hD
    rw [mS_up t P (by decide)] at hP hD
    obtain ⟨P1, eP1⟩ : ∃ z, z = va_up P p (upd (P p) 9 0) := ⟨_, rfl⟩
    rw [← eP1] at hP hD
    have hP : va_P D vwCl [(a, .inr (6, fs)), (qs, .inl (T 0, 43, .inl (mS t P1))), (qe, .inl (T 1, 12, .inr (.inl (mE E))))] H := hP
    have hD : va_D A [(a, .inr (6, fs)), (qs, .inl (T 0, 43, .inl (mS t P1))), (qe, .inl (T 1, 12, .inr (.inl (mE E))))] := hD
    refine lv_aload_n hx hb dX6_turnsOff_23 rfl (lv_at hl 0 rfl) ?_
    refine lv_iload_n hx hb dX6_turnsOff_24 rfl (lv_at hl 1 rfl) ?_
    refine lv_bipush (v := nI 7) hx hb dX6_turnsOff_25 (by decide) ?_
    refine callRi (As := [.int (nI p), .int (nI 7)]) ⟨hx, hb, hml, hown, hts⟩ (mX6_of l T D a qs fs t P1 hf p hp 7 (by decide)) (cwV 2 hts gX6_turnsOff_X6_of rfl rfl rfl pdX6_of ⟨Nat.le_of_ble_eq_true rfl, Nat.le_of_ble_eq_true rfl⟩) (hP.sub [0, 1] rfl) hK xN_bl (fun U _ hW => XN_warm hW hX) (ci := 6) rfl rfl rfl hl.1 rfl rfl (Nat.le_of_ble_eq_true rfl) dX6_turnsOff_27 ⟨Nat.zero_le _, Nat.zero_le _⟩ (fun r3_ er3_ => ?_)
    obtain rfl : r3_ = P1 p 7 := er3_
    exact hret _ _ _ (t, P1, E) _ _ dX6_turnsOff_30 hS hP hD (by rw [oOff, if_neg (not_not_intro c5), eP1, up_0]; rfl)
  · skip
    have c5 := bI_0 c5
    refine lv_bipush (v := (-5)) hx hb dX6_turnsOff_8 (by decide) ?_
    exact hret _ _ _ (t, P, E) _ _ dX6_turnsOff_10 hS hP hD (by rw [oOff, if_pos c5])

def rmX6_turnsOn : Room := { frames := 5, cells := 0, slots := 0, locals := 108 }
set_option maxHeartbeats 4000000 in
set_option maxRecDepth 100000 in
theorem mX6_turnsOn (l : Launch) (T : Nat → ClassId) (D : va_G) (a qs qe : Nat) (fs : List Value) (t : Nat → Int32) (P : Nat → Nat → Int32) (E : Nat → Nat → Int64) (hf : fs[0]? = some (.ref qs)) (he : fs[1]? = some (.ref qe)) (p : Nat) (hp : p < 4) (v : Int32) : MuI l yX6_turnsOn wsX6_turnsOn rmX6_turnsOn T xN D [.ref a, .int (nI p), .int v] [(a, .inr (6, fs)), (qs, .inl (T 0, 43, .inl (mS t P))), (qe, .inl (T 1, 12, .inr (.inl (mE E))))] (S := SG) (fun r u => (r, u) = oOn p v (t, P, E)) (fun u => moN T a qs qe fs u.1 u.2.1 u.2.2) 0 0 := by
  refine met_mi (cc := cX6_turnsOn) (maxL := 3) (by decide) rfl (Nat.le_of_ble_eq_true rfl) ?_
  intro p_ e s m args below meth c ls A Q hx hb hts hown hml hX hP hD hK hS hA hl hret
  have hl : lv_has ls 3 [(0, .ref a), (1, .int (nI p)), (2, .int v)] := hl
  refine lv_aload_n hx hb dX6_turnsOn_0 rfl (lv_at hl 0 rfl) ?_
  refine lv_iload_n hx hb dX6_turnsOn_1 rfl (lv_at hl 1 rfl) ?_
  refine callRi (As := [.int (nI p)]) ⟨hx, hb, hml, hown, hts⟩ (mX6_isOn l T D a qs fs t P hf p hp ) (cwV 1 hts gX6_turnsOn_X6_isOn rfl rfl rfl pdX6_isOn ⟨Nat.le_of_ble_eq_true rfl, Nat.le_of_ble_eq_true rfl⟩) (hP.sub [0, 1] rfl) hK xN_bl (fun U _ hW => XN_warm hW hX) (ci := 6) rfl rfl rfl hl.1 rfl rfl (Nat.le_of_ble_eq_true rfl) dX6_turnsOn_2 ⟨Nat.zero_le _, Nat.zero_le _⟩ (fun r1_ er1_ => ?_)
  obtain rfl : r1_ = bI (P p 9 = 1) := er1_
  refine lv_if_eq (tgt := 22) hx hb dX6_turnsOn_5 (by decide) (fun c5 => ?_) (fun c5 => ?_)
  · skip
    have c5 := bI_0 c5
    refine lv_aload_n hx hb dX6_turnsOn_22 rfl (lv_at hl 0 rfl) ?_
    refine va_get (D := D) (ci := 6) (v := .ref qs) (C := RX6) (T := TX6) (N := 22) hx hb hts inwX6_turnsOn_X6 hown hK hP 0 rfl rfl 0 (by decide) (hts (.fieldLink RX6 7 "PlateSlabsModel" "s" "[I") (List.mem_of_getElem? (i := 1) rfl)) (fun _ h9 => h9) hf dX6_turnsOn_23 ?_
    refine lv_iload_n hx hb dX6_turnsOn_26 rfl (lv_at hl 1 rfl) ?_
    refine lv_bipush (v := nI 9) hx hb dX6_turnsOn_27 (by decide) ?_
    refine callSi (As := [.int (nI p), .int (nI 9)]) ⟨hx, hb, hml, hown, hts⟩ (mX6_at l T D p 9) (va_cwS 2 hts gX6_turnsOn_X6_at rfl rfl rfl (pdX6_at).2 ⟨Nat.le_of_ble_eq_true rfl, Nat.le_of_ble_eq_true rfl⟩) wP_nil hK xN_bl (fun U _ hW => XN_warm hW hX) hl.1 rfl rfl (Nat.le_of_ble_eq_true rfl) dX6_turnsOn_29 ⟨Nat.zero_le _, Nat.zero_le _⟩ (fun r2_ er2_ => ?_)
    obtain rfl : r2_ = nI (3 + 10 * p + 9) := er2_
    refine lv_iconst (v := 1) hx hb dX6_turnsOn_32 (by decide) ?_
    refine va_iast hx hb hK hP hD hS 1 0 rfl rfl (vp_in_nI (by omega) (by decide)) dX6_turnsOn_33 (fun H locs hP hD hS => ?_)
    rw [nI_clamp (show 3 + 10 * p + 9 < 2 ^ 31 by omega)] at hP hD
    have hP : va_P D vwCl [(a, .inr (6, fs)), (qs, .inl (T 0, 43, .inl (upd (mS t P) (3 + 10 * p + 9) 1))), (qe, .inl (T 1, 12, .inr (.inl (mE E))))] H := hP
    have hD : va_D A [(a, .inr (6, fs)), (qs, .inl (T 0, 43, .inl (upd (mS t P) (3 + 10 * p + 9) 1))), (qe, .inl (T 1, 12, .inr (.inl (mE E))))] := hD
    rw [mS_up t P (by decide)] at hP hD
    obtain ⟨P1, eP1⟩ : ∃ z, z = va_up P p (upd (P p) 9 1) := ⟨_, rfl⟩
    rw [← eP1] at hP hD
    have hP : va_P D vwCl [(a, .inr (6, fs)), (qs, .inl (T 0, 43, .inl (mS t P1))), (qe, .inl (T 1, 12, .inr (.inl (mE E))))] H := hP
    have hD : va_D A [(a, .inr (6, fs)), (qs, .inl (T 0, 43, .inl (mS t P1))), (qe, .inl (T 1, 12, .inr (.inl (mE E))))] := hD
    refine lv_aload_n hx hb dX6_turnsOn_34 rfl (lv_at hl 0 rfl) ?_
    refine va_get (D := D) (ci := 6) (v := .ref qs) (C := RX6) (T := TX6) (N := 22) hx hb hts inwX6_turnsOn_X6 hown hK hP 0 rfl rfl 0 (by decide) (hts (.fieldLink RX6 7 "PlateSlabsModel" "s" "[I") (List.mem_of_getElem? (i := 1) rfl)) (fun _ h9 => h9) hf dX6_turnsOn_35 ?_
    refine lv_iload_n hx hb dX6_turnsOn_38 rfl (lv_at hl 1 rfl) ?_
    refine lv_bipush (v := nI 8) hx hb dX6_turnsOn_39 (by decide) ?_
    refine callSi (As := [.int (nI p), .int (nI 8)]) ⟨hx, hb, hml, hown, hts⟩ (mX6_at l T D p 8) (va_cwS 2 hts gX6_turnsOn_X6_at rfl rfl rfl (pdX6_at).2 ⟨Nat.le_of_ble_eq_true rfl, Nat.le_of_ble_eq_true rfl⟩) wP_nil hK xN_bl (fun U _ hW => XN_warm hW hX) hl.1 rfl rfl (Nat.le_of_ble_eq_true rfl) dX6_turnsOn_41 ⟨Nat.zero_le _, Nat.zero_le _⟩ (fun r3_ er3_ => ?_)
    obtain rfl : r3_ = nI (3 + 10 * p + 8) := er3_
    refine lv_iload_n hx hb dX6_turnsOn_44 rfl (lv_at hl 2 rfl) ?_
    refine va_iast hx hb hK hP hD hS 1 0 rfl rfl (vp_in_nI (by omega) (by decide)) dX6_turnsOn_45 (fun H locs hP hD hS => ?_)
    rw [nI_clamp (show 3 + 10 * p + 8 < 2 ^ 31 by omega)] at hP hD
    have hP : va_P D vwCl [(a, .inr (6, fs)), (qs, .inl (T 0, 43, .inl (upd (mS t P1) (3 + 10 * p + 8) v))), (qe, .inl (T 1, 12, .inr (.inl (mE E))))] H := hP
    have hD : va_D A [(a, .inr (6, fs)), (qs, .inl (T 0, 43, .inl (upd (mS t P1) (3 + 10 * p + 8) v))), (qe, .inl (T 1, 12, .inr (.inl (mE E))))] := hD
    rw [mS_up t P1 (by decide)] at hP hD
    obtain ⟨P2, eP2⟩ : ∃ z, z = va_up P1 p (upd (P1 p) 8 v) := ⟨_, rfl⟩
    rw [← eP2] at hP hD
    have hP : va_P D vwCl [(a, .inr (6, fs)), (qs, .inl (T 0, 43, .inl (mS t P2))), (qe, .inl (T 1, 12, .inr (.inl (mE E))))] H := hP
    have hD : va_D A [(a, .inr (6, fs)), (qs, .inl (T 0, 43, .inl (mS t P2))), (qe, .inl (T 1, 12, .inr (.inl (mE E))))] := hD
    have f2 : P2 p = upd (upd (P p) 9 1) 8 v := by rw [eP2, up_0, eP1, up_0]
    refine lv_aload_n hx hb dX6_turnsOn_46 rfl (lv_at hl 0 rfl) ?_
    refine lv_iload_n hx hb dX6_turnsOn_47 rfl (lv_at hl 1 rfl) ?_
    refine callMv (As := [.int (nI p)]) (wr := []) ⟨hx, hb, hml, hown, hts⟩ (mX6_charges l T D a qs qe fs t P2 E hf he p hp) (cwV 1 hts gX6_turnsOn_X6_charges rfl rfl rfl pdX6_charges ⟨Nat.le_of_ble_eq_true rfl, Nat.le_of_ble_eq_true rfl⟩) hP hD hK hS hA xN_bl (fun U _ hW => XN_warm hW hX) (ci := 6) rfl rfl rfl hl.1 rfl rfl (Nat.le_of_ble_eq_true rfl) dX6_turnsOn_48 ⟨Nat.zero_le _, Nat.zero_le _⟩ (fun u5_ H locs eu5_ hP hD hS hkf => ?_)
    obtain ⟨P3, eP3⟩ : ∃ z : Nat → Nat → Int32, z = va_up P2 p (kHoldP (P2 p)) := ⟨_, rfl⟩
    obtain ⟨E3, eE3⟩ : ∃ z : Nat → Nat → Int64, z = va_up E p (kHoldE (P2 p) (E p)) := ⟨_, rfl⟩
    rw [← eP3, ← eE3] at hP hD
    have hP : va_P D vwCl [(a, .inr (6, fs)), (qs, .inl (T 0, 43, .inl (mS t P3))), (qe, .inl (T 1, 12, .inr (.inl (mE E3))))] H := hP
    have hD : va_D A [(a, .inr (6, fs)), (qs, .inl (T 0, 43, .inl (mS t P3))), (qe, .inl (T 1, 12, .inr (.inl (mE E3))))] := hD
    refine lv_aload_n hx hb dX6_turnsOn_51 rfl (lv_at hl 0 rfl) ?_
    refine lv_iload_n hx hb dX6_turnsOn_52 rfl (lv_at hl 1 rfl) ?_
    refine lv_bipush (v := nI 7) hx hb dX6_turnsOn_53 (by decide) ?_
    refine callRi (As := [.int (nI p), .int (nI 7)]) ⟨hx, hb, hml, hown, hts⟩ (mX6_of l T D a qs fs t P3 hf p hp 7 (by decide)) (cwV 2 hts gX6_turnsOn_X6_of rfl rfl rfl pdX6_of ⟨Nat.le_of_ble_eq_true rfl, Nat.le_of_ble_eq_true rfl⟩) (hP.sub [0, 1] rfl) hK xN_bl (fun U _ hW => XN_warm hW hX) (ci := 6) rfl rfl rfl hl.1 rfl rfl (Nat.le_of_ble_eq_true rfl) dX6_turnsOn_55 ⟨Nat.zero_le _, Nat.zero_le _⟩ (fun r6_ er6_ => ?_)
    obtain rfl : r6_ = P3 p 7 := er6_
    exact hret _ _ _ (t, P3, E3) _ _ dX6_turnsOn_58 hS hP hD (by rw [oOn, if_neg (by exact fun z => c5 z.1), eP3, eE3, f2, up_0, eP2, eP1, up_up, up_up]; rfl)
  · skip
    have c5 := bI_n0 c5
    refine lv_aload_n hx hb dX6_turnsOn_8 rfl (lv_at hl 0 rfl) ?_
    refine lv_iload_n hx hb dX6_turnsOn_9 rfl (lv_at hl 1 rfl) ?_
    refine lv_bipush (v := nI 8) hx hb dX6_turnsOn_10 (by decide) ?_
    refine callRi (As := [.int (nI p), .int (nI 8)]) ⟨hx, hb, hml, hown, hts⟩ (mX6_of l T D a qs fs t P hf p hp 8 (by decide)) (cwV 2 hts gX6_turnsOn_X6_of rfl rfl rfl pdX6_of ⟨Nat.le_of_ble_eq_true rfl, Nat.le_of_ble_eq_true rfl⟩) (hP.sub [0, 1] rfl) hK xN_bl (fun U _ hW => XN_warm hW hX) (ci := 6) rfl rfl rfl hl.1 rfl rfl (Nat.le_of_ble_eq_true rfl) dX6_turnsOn_12 ⟨Nat.zero_le _, Nat.zero_le _⟩ (fun r7_ er7_ => ?_)
    obtain rfl : r7_ = P p 8 := er7_
    refine lv_iload_n hx hb dX6_turnsOn_15 rfl (lv_at hl 2 rfl) ?_
    refine lv_icmp_ne (tgt := 22) hx hb dX6_turnsOn_16 (by decide) (fun c16 => ?_) (fun c16 => ?_)
    · skip
      refine lv_aload_n hx hb dX6_turnsOn_22 rfl (lv_at hl 0 rfl) ?_
      refine va_get (D := D) (ci := 6) (v := .ref qs) (C := RX6) (T := TX6) (N := 22) hx hb hts inwX6_turnsOn_X6 hown hK hP 0 rfl rfl 0 (by decide) (hts (.fieldLink RX6 7 "PlateSlabsModel" "s" "[I") (List.mem_of_getElem? (i := 1) rfl)) (fun _ h9 => h9) hf dX6_turnsOn_23 ?_
      refine lv_iload_n hx hb dX6_turnsOn_26 rfl (lv_at hl 1 rfl) ?_
      refine lv_bipush (v := nI 9) hx hb dX6_turnsOn_27 (by decide) ?_
      refine callSi (As := [.int (nI p), .int (nI 9)]) ⟨hx, hb, hml, hown, hts⟩ (mX6_at l T D p 9) (va_cwS 2 hts gX6_turnsOn_X6_at rfl rfl rfl (pdX6_at).2 ⟨Nat.le_of_ble_eq_true rfl, Nat.le_of_ble_eq_true rfl⟩) wP_nil hK xN_bl (fun U _ hW => XN_warm hW hX) hl.1 rfl rfl (Nat.le_of_ble_eq_true rfl) dX6_turnsOn_29 ⟨Nat.zero_le _, Nat.zero_le _⟩ (fun r8_ er8_ => ?_)
      obtain rfl : r8_ = nI (3 + 10 * p + 9) := er8_
      refine lv_iconst (v := 1) hx hb dX6_turnsOn_32 (by decide) ?_
      refine va_iast hx hb hK hP hD hS 1 0 rfl rfl (vp_in_nI (by omega) (by decide)) dX6_turnsOn_33 (fun H locs hP hD hS => ?_)
      rw [nI_clamp (show 3 + 10 * p + 9 < 2 ^ 31 by omega)] at hP hD
      have hP : va_P D vwCl [(a, .inr (6, fs)), (qs, .inl (T 0, 43, .inl (upd (mS t P) (3 + 10 * p + 9) 1))), (qe, .inl (T 1, 12, .inr (.inl (mE E))))] H := hP
      have hD : va_D A [(a, .inr (6, fs)), (qs, .inl (T 0, 43, .inl (upd (mS t P) (3 + 10 * p + 9) 1))), (qe, .inl (T 1, 12, .inr (.inl (mE E))))] := hD
      rw [mS_up t P (by decide)] at hP hD
      obtain ⟨P1, eP1⟩ : ∃ z, z = va_up P p (upd (P p) 9 1) := ⟨_, rfl⟩
      rw [← eP1] at hP hD
      have hP : va_P D vwCl [(a, .inr (6, fs)), (qs, .inl (T 0, 43, .inl (mS t P1))), (qe, .inl (T 1, 12, .inr (.inl (mE E))))] H := hP
      have hD : va_D A [(a, .inr (6, fs)), (qs, .inl (T 0, 43, .inl (mS t P1))), (qe, .inl (T 1, 12, .inr (.inl (mE E))))] := hD
      refine lv_aload_n hx hb dX6_turnsOn_34 rfl (lv_at hl 0 rfl) ?_
      refine va_get (D := D) (ci := 6) (v := .ref qs) (C := RX6) (T := TX6) (N := 22) hx hb hts inwX6_turnsOn_X6 hown hK hP 0 rfl rfl 0 (by decide) (hts (.fieldLink RX6 7 "PlateSlabsModel" "s" "[I") (List.mem_of_getElem? (i := 1) rfl)) (fun _ h9 => h9) hf dX6_turnsOn_35 ?_
      refine lv_iload_n hx hb dX6_turnsOn_38 rfl (lv_at hl 1 rfl) ?_
      refine lv_bipush (v := nI 8) hx hb dX6_turnsOn_39 (by decide) ?_
      refine callSi (As := [.int (nI p), .int (nI 8)]) ⟨hx, hb, hml, hown, hts⟩ (mX6_at l T D p 8) (va_cwS 2 hts gX6_turnsOn_X6_at rfl rfl rfl (pdX6_at).2 ⟨Nat.le_of_ble_eq_true rfl, Nat.le_of_ble_eq_true rfl⟩) wP_nil hK xN_bl (fun U _ hW => XN_warm hW hX) hl.1 rfl rfl (Nat.le_of_ble_eq_true rfl) dX6_turnsOn_41 ⟨Nat.zero_le _, Nat.zero_le _⟩ (fun r9_ er9_ => ?_)
      obtain rfl : r9_ = nI (3 + 10 * p + 8) := er9_
      refine lv_iload_n hx hb dX6_turnsOn_44 rfl (lv_at hl 2 rfl) ?_
      refine va_iast hx hb hK hP hD hS 1 0 rfl rfl (vp_in_nI (by omega) (by decide)) dX6_turnsOn_45 (fun H locs hP hD hS => ?_)
      rw [nI_clamp (show 3 + 10 * p + 8 < 2 ^ 31 by omega)] at hP hD
      have hP : va_P D vwCl [(a, .inr (6, fs)), (qs, .inl (T 0, 43, .inl (upd (mS t P1) (3 + 10 * p + 8) v))), (qe, .inl (T 1, 12, .inr (.inl (mE E))))] H := hP
      have hD : va_D A [(a, .inr (6, fs)), (qs, .inl (T 0, 43, .inl (upd (mS t P1) (3 + 10 * p + 8) v))), (qe, .inl (T 1, 12, .inr (.inl (mE E))))] := hD
      rw [mS_up t P1 (by decide)] at hP hD
      obtain ⟨P2, eP2⟩ : ∃ z, z = va_up P1 p (upd (P1 p) 8 v) := ⟨_, rfl⟩
      rw [← eP2] at hP hD
      have hP : va_P D vwCl [(a, .inr (6, fs)), (qs, .inl (T 0, 43, .inl (mS t P2))), (qe, .inl (T 1, 12, .inr (.inl (mE E))))] H := hP
      have hD : va_D A [(a, .inr (6, fs)), (qs, .inl (T 0, 43, .inl (mS t P2))), (qe, .inl (T 1, 12, .inr (.inl (mE E))))] := hD
      have f2 : P2 p = upd (upd (P p) 9 1) 8 v := by rw [eP2, up_0, eP1, up_0]
      refine lv_aload_n hx hb dX6_turnsOn_46 rfl (lv_at hl 0 rfl) ?_
      refine lv_iload_n hx hb dX6_turnsOn_47 rfl (lv_at hl 1 rfl) ?_
      refine callMv (As := [.int (nI p)]) (wr := []) ⟨hx, hb, hml, hown, hts⟩ (mX6_charges l T D a qs qe fs t P2 E hf he p hp) (cwV 1 hts gX6_turnsOn_X6_charges rfl rfl rfl pdX6_charges ⟨Nat.le_of_ble_eq_true rfl, Nat.le_of_ble_eq_true rfl⟩) hP hD hK hS hA xN_bl (fun U _ hW => XN_warm hW hX) (ci := 6) rfl rfl rfl hl.1 rfl rfl (Nat.le_of_ble_eq_true rfl) dX6_turnsOn_48 ⟨Nat.zero_le _, Nat.zero_le _⟩ (fun u11_ H locs eu11_ hP hD hS hkf => ?_)
      obtain ⟨P3, eP3⟩ : ∃ z : Nat → Nat → Int32, z = va_up P2 p (kHoldP (P2 p)) := ⟨_, rfl⟩
      obtain ⟨E3, eE3⟩ : ∃ z : Nat → Nat → Int64, z = va_up E p (kHoldE (P2 p) (E p)) := ⟨_, rfl⟩
      rw [← eP3, ← eE3] at hP hD
      have hP : va_P D vwCl [(a, .inr (6, fs)), (qs, .inl (T 0, 43, .inl (mS t P3))), (qe, .inl (T 1, 12, .inr (.inl (mE E3))))] H := hP
      have hD : va_D A [(a, .inr (6, fs)), (qs, .inl (T 0, 43, .inl (mS t P3))), (qe, .inl (T 1, 12, .inr (.inl (mE E3))))] := hD
      refine lv_aload_n hx hb dX6_turnsOn_51 rfl (lv_at hl 0 rfl) ?_
      refine lv_iload_n hx hb dX6_turnsOn_52 rfl (lv_at hl 1 rfl) ?_
      refine lv_bipush (v := nI 7) hx hb dX6_turnsOn_53 (by decide) ?_
      refine callRi (As := [.int (nI p), .int (nI 7)]) ⟨hx, hb, hml, hown, hts⟩ (mX6_of l T D a qs fs t P3 hf p hp 7 (by decide)) (cwV 2 hts gX6_turnsOn_X6_of rfl rfl rfl pdX6_of ⟨Nat.le_of_ble_eq_true rfl, Nat.le_of_ble_eq_true rfl⟩) (hP.sub [0, 1] rfl) hK xN_bl (fun U _ hW => XN_warm hW hX) (ci := 6) rfl rfl rfl hl.1 rfl rfl (Nat.le_of_ble_eq_true rfl) dX6_turnsOn_55 ⟨Nat.zero_le _, Nat.zero_le _⟩ (fun r12_ er12_ => ?_)
      obtain rfl : r12_ = P3 p 7 := er12_
      exact hret _ _ _ (t, P3, E3) _ _ dX6_turnsOn_58 hS hP hD (by rw [oOn, if_neg (by exact fun z => c16 z.2), eP3, eE3, f2, up_0, eP2, eP1, up_up, up_up]; rfl)
    · skip
      refine lv_bipush (v := (-5)) hx hb dX6_turnsOn_19 (by decide) ?_
      exact hret _ _ _ (t, P, E) _ _ dX6_turnsOn_21 hS hP hD (by rw [oOn, if_pos ⟨c5, c16⟩])

def rmX6_lays : Room := { frames := 5, cells := 0, slots := 0, locals := 108 }
set_option maxHeartbeats 4000000 in
set_option maxRecDepth 100000 in
theorem mX6_lays (l : Launch) (T : Nat → ClassId) (D : va_G) (a qs qe : Nat) (fs : List Value) (t : Nat → Int32) (P : Nat → Nat → Int32) (E : Nat → Nat → Int64) (hf : fs[0]? = some (.ref qs)) (he : fs[1]? = some (.ref qe)) (p : Nat) (hp : p < 4) (k : Nat) (hw : k < 10) (v : Int32) : MuI l yX6_lays wsX6_lays rmX6_lays T xN D [.ref a, .int (nI p), .int (nI k), .int v] [(a, .inr (6, fs)), (qs, .inl (T 0, 43, .inl (mS t P))), (qe, .inl (T 1, 12, .inr (.inl (mE E))))] (S := SG) (fun r u => (r, u) = oLay p k v (t, P, E)) (fun u => moN T a qs qe fs u.1 u.2.1 u.2.2) 0 0 := by
  refine met_mi (cc := cX6_lays) (maxL := 5) (by decide) rfl (Nat.le_of_ble_eq_true rfl) ?_
  intro p_ e s m args below meth c ls A Q hx hb hts hown hml hX hP hD hK hS hA hl hret
  have hl : lv_has ls 5 [(0, .ref a), (1, .int (nI p)), (2, .int (nI k)), (3, .int v)] := hl
  refine lv_aload_n hx hb dX6_lays_0 rfl (lv_at hl 0 rfl) ?_
  refine lv_iload_n hx hb dX6_lays_1 rfl (lv_at hl 1 rfl) ?_
  refine lv_iload_n hx hb dX6_lays_2 rfl (lv_at hl 2 rfl) ?_
  refine callRi (As := [.int (nI p), .int (nI k)]) ⟨hx, hb, hml, hown, hts⟩ (mX6_of l T D a qs fs t P hf p hp k (by exact hw)) (cwV 2 hts gX6_lays_X6_of rfl rfl rfl pdX6_of ⟨Nat.le_of_ble_eq_true rfl, Nat.le_of_ble_eq_true rfl⟩) (hP.sub [0, 1] rfl) hK xN_bl (fun U _ hW => XN_warm hW hX) (ci := 6) rfl rfl rfl hl.1 rfl rfl (Nat.le_of_ble_eq_true rfl) dX6_lays_3 ⟨Nat.zero_le _, Nat.zero_le _⟩ (fun r1_ er1_ => ?_)
  obtain rfl : r1_ = P p k := er1_
  refine lv_topi (fun x1_ ex1_ => ?_)
  refine lv_istore (lv' := [(4, .int x1_), (0, .ref a), (1, .int (nI p)), (2, .int (nI k)), (3, .int v)]) hx hb dX6_lays_6 hl (by decide) rfl (fun ls hl => ?_)
  refine lv_iload hx hb dX6_lays_8 (lv_at hl 0 rfl) ?_
  refine lv_iload_n hx hb dX6_lays_10 rfl (lv_at hl 4 rfl) ?_
  refine lv_icmp_ne (tgt := 17) hx hb dX6_lays_11 (by decide) (fun c11 => ?_) (fun c11 => ?_)
  · skip
    refine lv_aload_n hx hb dX6_lays_17 rfl (lv_at hl 1 rfl) ?_
    refine va_get (D := D) (ci := 6) (v := .ref qs) (C := RX6) (T := TX6) (N := 22) hx hb hts inwX6_lays_X6 hown hK hP 0 rfl rfl 0 (by decide) (hts (.fieldLink RX6 7 "PlateSlabsModel" "s" "[I") (List.mem_of_getElem? (i := 1) rfl)) (fun _ h9 => h9) hf dX6_lays_18 ?_
    refine lv_iload_n hx hb dX6_lays_21 rfl (lv_at hl 2 rfl) ?_
    refine lv_iload_n hx hb dX6_lays_22 rfl (lv_at hl 3 rfl) ?_
    refine callSi (As := [.int (nI p), .int (nI k)]) ⟨hx, hb, hml, hown, hts⟩ (mX6_at l T D p k) (va_cwS 2 hts gX6_lays_X6_at rfl rfl rfl (pdX6_at).2 ⟨Nat.le_of_ble_eq_true rfl, Nat.le_of_ble_eq_true rfl⟩) wP_nil hK xN_bl (fun U _ hW => XN_warm hW hX) hl.1 rfl rfl (Nat.le_of_ble_eq_true rfl) dX6_lays_23 ⟨Nat.zero_le _, Nat.zero_le _⟩ (fun r2_ er2_ => ?_)
    obtain rfl : r2_ = nI (3 + 10 * p + k) := er2_
    refine lv_iload_n hx hb dX6_lays_26 rfl (lv_at hl 4 rfl) ?_
    refine va_iast hx hb hK hP hD hS 1 0 rfl rfl (vp_in_nI (by omega) (by decide)) dX6_lays_27 (fun H locs hP hD hS => ?_)
    rw [nI_clamp (show 3 + 10 * p + k < 2 ^ 31 by omega)] at hP hD
    have hP : va_P D vwCl [(a, .inr (6, fs)), (qs, .inl (T 0, 43, .inl (upd (mS t P) (3 + 10 * p + k) v))), (qe, .inl (T 1, 12, .inr (.inl (mE E))))] H := hP
    have hD : va_D A [(a, .inr (6, fs)), (qs, .inl (T 0, 43, .inl (upd (mS t P) (3 + 10 * p + k) v))), (qe, .inl (T 1, 12, .inr (.inl (mE E))))] := hD
    rw [mS_up t P (by exact hw)] at hP hD
    obtain ⟨P1, eP1⟩ : ∃ z, z = va_up P p (upd (P p) k v) := ⟨_, rfl⟩
    rw [← eP1] at hP hD
    have hP : va_P D vwCl [(a, .inr (6, fs)), (qs, .inl (T 0, 43, .inl (mS t P1))), (qe, .inl (T 1, 12, .inr (.inl (mE E))))] H := hP
    have hD : va_D A [(a, .inr (6, fs)), (qs, .inl (T 0, 43, .inl (mS t P1))), (qe, .inl (T 1, 12, .inr (.inl (mE E))))] := hD
    have f1 : P1 p = upd (P p) k v := by rw [eP1, up_0]
    refine lv_aload_n hx hb dX6_lays_28 rfl (lv_at hl 1 rfl) ?_
    refine lv_iload_n hx hb dX6_lays_29 rfl (lv_at hl 2 rfl) ?_
    refine callMv (As := [.int (nI p)]) (wr := []) ⟨hx, hb, hml, hown, hts⟩ (mX6_charges l T D a qs qe fs t P1 E hf he p hp) (cwV 1 hts gX6_lays_X6_charges rfl rfl rfl pdX6_charges ⟨Nat.le_of_ble_eq_true rfl, Nat.le_of_ble_eq_true rfl⟩) hP hD hK hS hA xN_bl (fun U _ hW => XN_warm hW hX) (ci := 6) rfl rfl rfl hl.1 rfl rfl (Nat.le_of_ble_eq_true rfl) dX6_lays_30 ⟨Nat.zero_le _, Nat.zero_le _⟩ (fun u4_ H locs eu4_ hP hD hS hkf => ?_)
    obtain ⟨P3, eP3⟩ : ∃ z : Nat → Nat → Int32, z = va_up P1 p (kHoldP (P1 p)) := ⟨_, rfl⟩
    obtain ⟨E3, eE3⟩ : ∃ z : Nat → Nat → Int64, z = va_up E p (kHoldE (P1 p) (E p)) := ⟨_, rfl⟩
    rw [← eP3, ← eE3] at hP hD
    have hP : va_P D vwCl [(a, .inr (6, fs)), (qs, .inl (T 0, 43, .inl (mS t P3))), (qe, .inl (T 1, 12, .inr (.inl (mE E3))))] H := hP
    have hD : va_D A [(a, .inr (6, fs)), (qs, .inl (T 0, 43, .inl (mS t P3))), (qe, .inl (T 1, 12, .inr (.inl (mE E3))))] := hD
    refine lv_iload hx hb dX6_lays_33 (lv_at hl 0 rfl) ?_
    exact hret _ _ _ (t, P3, E3) _ _ dX6_lays_35 hS hP hD (by subst ex1_; rw [oLay, if_neg c11, eP3, eE3, f1, eP1, up_up])
  · skip
    refine lv_bipush (v := (-5)) hx hb dX6_lays_14 (by decide) ?_
    exact hret _ _ _ (t, P, E) _ _ dX6_lays_16 hS hP hD (by subst ex1_; rw [oLay, if_pos c11])

def rmX6_passes : Room := { frames := 7, cells := 0, slots := 0, locals := 159 }
set_option maxHeartbeats 4000000 in
set_option maxRecDepth 100000 in
theorem mX6_passes (l : Launch) (T : Nat → ClassId) (D : va_G) (a qs qe : Nat) (fs : List Value) (t : Nat → Int32) (P : Nat → Nat → Int32) (E : Nat → Nat → Int64) (hf : fs[0]? = some (.ref qs)) (he : fs[1]? = some (.ref qe)) (hk : ∀ p, p < 4 → kOk (P p)) (n : Nat) (hn : n < 1000) : MuI l yX6_passes wsX6_passes rmX6_passes T xN D [.ref a, .int (nI n)] [(a, .inr (6, fs)), (qs, .inl (T 0, 43, .inl (mS t P))), (qe, .inl (T 1, 12, .inr (.inl (mE E))))] (S := SG) (fun r u => (r, u) = oPass n (t, P, E)) (fun u => moN T a qs qe fs u.1 u.2.1 u.2.2) 0 0 := by
  refine met_mi (cc := cX6_passes) (maxL := 4) (by decide) rfl (Nat.le_of_ble_eq_true rfl) ?_
  intro p_ e s m args below meth c ls A Q hx hb hts hown hml hX hP hD hK hS hA hl hret
  have hl : lv_has ls 4 [(0, .ref a), (1, .int (nI n))] := hl
  refine lv_aload_n hx hb dX6_passes_0 rfl (lv_at hl 0 rfl) ?_
  refine va_get (D := D) (ci := 6) (v := .ref qs) (C := RX6) (T := TX6) (N := 22) hx hb hts inwX6_passes_X6 hown hK hP 0 rfl rfl 0 (by decide) (hts (.fieldLink RX6 7 "PlateSlabsModel" "s" "[I") (List.mem_of_getElem? (i := 1) rfl)) (fun _ h9 => h9) hf dX6_passes_1 ?_
  refine lv_iconst (v := 0) hx hb dX6_passes_4 (by decide) ?_
  refine va_iald hx hb hK hP 1 0 rfl rfl (in_lit (by decide)) dX6_passes_5 ?_
  refine lv_tpi (congrArg (fun z => (mS t P) z) (cl_0)) ?_
  refine lv_tpi (z := t 0) (mS_t t P (by decide)) ?_
  refine lv_iload_n hx hb dX6_passes_6 rfl (lv_at hl 1 rfl) ?_
  refine lv_iadd hx hb dX6_passes_7 ?_
  refine lv_ldc (v := 99999) hx hb hown (hts (.constant RX6 107 (99999)) (List.mem_of_getElem? (i := 2) rfl)) dX6_passes_8 ?_
  refine lv_icmp_le (tgt := 16) hx hb dX6_passes_10 (by decide) (fun c10 => ?_) (fun c10 => ?_)
  · skip
    refine lv_iconst (v := 0) hx hb dX6_passes_16 (by decide) ?_
    refine lv_istore_n (lv' := [(2, .int 0), (0, .ref a), (1, .int (nI n))]) hx hb dX6_passes_17 rfl hl (by decide) rfl (fun ls hl => ?_)
    refine lv_iconst (v := 0) hx hb dX6_passes_18 (by decide) ?_
    refine lv_istore_n (lv' := [(3, .int 0), (2, .int 0), (0, .ref a), (1, .int (nI n))]) hx hb dX6_passes_19 rfl hl (by decide) rfl (fun ls hl => ?_)
    have loop : ∀ (j : Nat) (i : Nat) (x2 : Int32) (x3 : Int32) (g : SG) (ls : Array Slot) (H : Heap) (locs : List Loc), (n + 1 ≤ i + j) → (i ≤ n) → (x3 = nI i) → (x2 = kLast i (t, P, E)) → (g = oTicks i (t, P, E)) → va_P D vwCl [(a, .inr (6, fs)), (qs, .inl (T 0, 43, .inl (mS g.1 g.2.1))), (qe, .inl (T 1, 12, .inr (.inl (mE g.2.2))))] H → va_D A [(a, .inr (6, fs)), (qs, .inl (T 0, 43, .inl (mS g.1 g.2.1))), (qe, .inl (T 1, 12, .inr (.inl (mE g.2.2))))] → va_S A s.heap H locs → lv_has ls 4 [(0, .ref a), (1, .int (nI n)), (2, .int x2), (3, .int x3)] → W p_ l e rmX6_passes s m args below meth c H locs 0 0 Q (F0 m 20 ls []) := by
      intro j
      induction j with
      | zero => intro i x2 x3 g ls H locs hm hi; exact absurd hm (by omega)
      | succ j ih =>
        intro i x2 x3 g ls H locs hm hi e3 e2 eg hP hD hS hl
        obtain ⟨t0, P0, E0⟩ := g
        have hk0 : ∀ q, q < 4 → kOk (P0 q) := by
          have z := kOk_ticks (g := (t, P, E)) hk i
          rw [← eg] at z
          exact z
        have hP : va_P D vwCl [(a, .inr (6, fs)), (qs, .inl (T 0, 43, .inl (mS t0 P0))), (qe, .inl (T 1, 12, .inr (.inl (mE E0))))] H := hP
        have hD : va_D A [(a, .inr (6, fs)), (qs, .inl (T 0, 43, .inl (mS t0 P0))), (qe, .inl (T 1, 12, .inr (.inl (mE E0))))] := hD
        skip
        refine lv_iload_n hx hb dX6_passes_20 rfl (lv_at hl 3 rfl) ?_
        refine lv_iload_n hx hb dX6_passes_21 rfl (lv_at hl 1 rfl) ?_
        refine lv_icmp_ge (tgt := 55) hx hb dX6_passes_22 (by decide) (fun c22 => ?_) (fun c22 => ?_)
        · skip
          have ei : i = n := by
            rw [e3] at c22
            have := (nI_leI (by omega) (by omega)).mp c22
            omega
          rw [ei] at eg e2
          refine lv_aload_n hx hb dX6_passes_55 rfl (lv_at hl 0 rfl) ?_
          refine va_get (D := D) (ci := 6) (v := .ref qs) (C := RX6) (T := TX6) (N := 22) hx hb hts inwX6_passes_X6 hown hK hP 0 rfl rfl 0 (by decide) (hts (.fieldLink RX6 7 "PlateSlabsModel" "s" "[I") (List.mem_of_getElem? (i := 1) rfl)) (fun _ h9 => h9) hf dX6_passes_56 ?_
          refine lv_iconst (v := 0) hx hb dX6_passes_59 (by decide) ?_
          refine lv_dup2_11 hx hb dX6_passes_60 rfl rfl ?_
          refine va_iald hx hb hK hP 1 0 rfl rfl (in_lit (by decide)) dX6_passes_61 ?_
          refine lv_tpi (congrArg (fun z => (mS t0 P0) z) (cl_0)) ?_
          refine lv_tpi (z := t0 0) (mS_t t0 P0 (by decide)) ?_
          refine lv_iload_n hx hb dX6_passes_62 rfl (lv_at hl 1 rfl) ?_
          refine lv_iadd hx hb dX6_passes_63 ?_
          refine va_iast hx hb hK hP hD hS 1 0 rfl rfl (in_lit (by decide)) dX6_passes_64 (fun H locs hP hD hS => ?_)
          rw [cl_0] at hP hD
          have hP : va_P D vwCl [(a, .inr (6, fs)), (qs, .inl (T 0, 43, .inl (upd (mS t0 P0) 0 ((t0 0) + (nI n))))), (qe, .inl (T 1, 12, .inr (.inl (mE E0))))] H := hP
          have hD : va_D A [(a, .inr (6, fs)), (qs, .inl (T 0, 43, .inl (upd (mS t0 P0) 0 ((t0 0) + (nI n))))), (qe, .inl (T 1, 12, .inr (.inl (mE E0))))] := hD
          rw [mS_upt t0 P0 (by decide)] at hP hD
          obtain ⟨t5, et5⟩ : ∃ z, z = upd t0 0 (t0 0 + nI n) := ⟨_, rfl⟩
          rw [← et5] at hP hD
          have hP : va_P D vwCl [(a, .inr (6, fs)), (qs, .inl (T 0, 43, .inl (mS t5 P0))), (qe, .inl (T 1, 12, .inr (.inl (mE E0))))] H := hP
          have hD : va_D A [(a, .inr (6, fs)), (qs, .inl (T 0, 43, .inl (mS t5 P0))), (qe, .inl (T 1, 12, .inr (.inl (mE E0))))] := hD
          refine lv_iload_n hx hb dX6_passes_65 rfl (lv_at hl 2 rfl) ?_
          exact hret _ _ _ (t5, P0, E0) _ _ dX6_passes_66 hS hP hD (by rw [oPass, if_neg (Int32.not_lt.mpr c10), ← eg, et5, e2])
        · skip
          have hlt : i < n := by
            rw [e3] at c22
            have := mt (nI_leI (a := n) (b := i) (by omega) (by omega)).mpr c22
            omega
          refine lv_aload_n hx hb dX6_passes_25 rfl (lv_at hl 0 rfl) ?_
          refine lv_iconst (v := nI 0) hx hb dX6_passes_26 (by decide) ?_
          refine callMi (As := [.int (nI 0)]) (wr := []) ⟨hx, hb, hml, hown, hts⟩ (mX6_tick l T D a qs qe fs t0 P0 E0 hf he hk0 0 (by decide)) (cwV 1 hts gX6_passes_X6_tick rfl rfl rfl pdX6_tick ⟨Nat.le_of_ble_eq_true rfl, Nat.le_of_ble_eq_true rfl⟩) hP hD hK hS hA xN_bl (fun U _ hW => XN_warm hW hX) (ci := 6) rfl rfl rfl hl.1 rfl rfl (Nat.le_of_ble_eq_true rfl) dX6_passes_27 ⟨Nat.zero_le _, Nat.zero_le _⟩ (fun r1_ u2_ H locs eu2_ hP hD hS hkf => ?_)
          obtain ⟨t1, et1⟩ : ∃ z : Nat → Int32, z = upd t0 2 (t0 2 + kMoved (P0 0)) := ⟨_, rfl⟩
          obtain ⟨P1, eP1⟩ : ∃ z : Nat → Nat → Int32, z = va_up P0 0 (kTickP (P0 0)) := ⟨_, rfl⟩
          obtain ⟨E1, eE1⟩ : ∃ z : Nat → Nat → Int64, z = va_up E0 0 (kTickE (P0 0) (E0 0)) := ⟨_, rfl⟩
          rw [← et1, ← eP1, ← eE1] at hP hD
          have hP : va_P D vwCl [(a, .inr (6, fs)), (qs, .inl (T 0, 43, .inl (mS t1 P1))), (qe, .inl (T 1, 12, .inr (.inl (mE E1))))] H := hP
          have hD : va_D A [(a, .inr (6, fs)), (qs, .inl (T 0, 43, .inl (mS t1 P1))), (qe, .inl (T 1, 12, .inr (.inl (mE E1))))] := hD
          obtain rfl : r1_ = kMoved (P0 0) := eu2_
          have hk1 : ∀ q, q < 4 → kOk (P1 q) := by rw [eP1]; exact kOk_up hk0 (kOk_tick (hk0 0 (by decide)))
          refine lv_aload_n hx hb dX6_passes_30 rfl (lv_at hl 0 rfl) ?_
          refine lv_iconst (v := nI 1) hx hb dX6_passes_31 (by decide) ?_
          refine callMi (As := [.int (nI 1)]) (wr := []) ⟨hx, hb, hml, hown, hts⟩ (mX6_tick l T D a qs qe fs t1 P1 E1 hf he hk1 1 (by decide)) (cwV 1 hts gX6_passes_X6_tick rfl rfl rfl pdX6_tick ⟨Nat.le_of_ble_eq_true rfl, Nat.le_of_ble_eq_true rfl⟩) hP hD hK hS hA xN_bl (fun U _ hW => XN_warm hW hX) (ci := 6) rfl rfl rfl hl.1 rfl rfl (Nat.le_of_ble_eq_true rfl) dX6_passes_32 ⟨Nat.zero_le _, Nat.zero_le _⟩ (fun r3_ u4_ H locs eu4_ hP hD hS hkf => ?_)
          obtain ⟨t2, et2⟩ : ∃ z : Nat → Int32, z = upd t1 2 (t1 2 + kMoved (P1 1)) := ⟨_, rfl⟩
          obtain ⟨P2, eP2⟩ : ∃ z : Nat → Nat → Int32, z = va_up P1 1 (kTickP (P1 1)) := ⟨_, rfl⟩
          obtain ⟨E2, eE2⟩ : ∃ z : Nat → Nat → Int64, z = va_up E1 1 (kTickE (P1 1) (E1 1)) := ⟨_, rfl⟩
          rw [← et2, ← eP2, ← eE2] at hP hD
          have hP : va_P D vwCl [(a, .inr (6, fs)), (qs, .inl (T 0, 43, .inl (mS t2 P2))), (qe, .inl (T 1, 12, .inr (.inl (mE E2))))] H := hP
          have hD : va_D A [(a, .inr (6, fs)), (qs, .inl (T 0, 43, .inl (mS t2 P2))), (qe, .inl (T 1, 12, .inr (.inl (mE E2))))] := hD
          obtain rfl : r3_ = kMoved (P1 1) := eu4_
          have hk2 : ∀ q, q < 4 → kOk (P2 q) := by rw [eP2]; exact kOk_up hk1 (kOk_tick (hk1 1 (by decide)))
          refine lv_iadd hx hb dX6_passes_35 ?_
          refine lv_aload_n hx hb dX6_passes_36 rfl (lv_at hl 0 rfl) ?_
          refine lv_iconst (v := nI 2) hx hb dX6_passes_37 (by decide) ?_
          refine callMi (As := [.int (nI 2)]) (wr := []) ⟨hx, hb, hml, hown, hts⟩ (mX6_tick l T D a qs qe fs t2 P2 E2 hf he hk2 2 (by decide)) (cwV 1 hts gX6_passes_X6_tick rfl rfl rfl pdX6_tick ⟨Nat.le_of_ble_eq_true rfl, Nat.le_of_ble_eq_true rfl⟩) hP hD hK hS hA xN_bl (fun U _ hW => XN_warm hW hX) (ci := 6) rfl rfl rfl hl.1 rfl rfl (Nat.le_of_ble_eq_true rfl) dX6_passes_38 ⟨Nat.zero_le _, Nat.zero_le _⟩ (fun r5_ u6_ H locs eu6_ hP hD hS hkf => ?_)
          obtain ⟨t3, et3⟩ : ∃ z : Nat → Int32, z = upd t2 2 (t2 2 + kMoved (P2 2)) := ⟨_, rfl⟩
          obtain ⟨P3, eP3⟩ : ∃ z : Nat → Nat → Int32, z = va_up P2 2 (kTickP (P2 2)) := ⟨_, rfl⟩
          obtain ⟨E3, eE3⟩ : ∃ z : Nat → Nat → Int64, z = va_up E2 2 (kTickE (P2 2) (E2 2)) := ⟨_, rfl⟩
          rw [← et3, ← eP3, ← eE3] at hP hD
          have hP : va_P D vwCl [(a, .inr (6, fs)), (qs, .inl (T 0, 43, .inl (mS t3 P3))), (qe, .inl (T 1, 12, .inr (.inl (mE E3))))] H := hP
          have hD : va_D A [(a, .inr (6, fs)), (qs, .inl (T 0, 43, .inl (mS t3 P3))), (qe, .inl (T 1, 12, .inr (.inl (mE E3))))] := hD
          obtain rfl : r5_ = kMoved (P2 2) := eu6_
          have hk3 : ∀ q, q < 4 → kOk (P3 q) := by rw [eP3]; exact kOk_up hk2 (kOk_tick (hk2 2 (by decide)))
          refine lv_iadd hx hb dX6_passes_41 ?_
          refine lv_aload_n hx hb dX6_passes_42 rfl (lv_at hl 0 rfl) ?_
          refine lv_iconst (v := nI 3) hx hb dX6_passes_43 (by decide) ?_
          refine callMi (As := [.int (nI 3)]) (wr := []) ⟨hx, hb, hml, hown, hts⟩ (mX6_tick l T D a qs qe fs t3 P3 E3 hf he hk3 3 (by decide)) (cwV 1 hts gX6_passes_X6_tick rfl rfl rfl pdX6_tick ⟨Nat.le_of_ble_eq_true rfl, Nat.le_of_ble_eq_true rfl⟩) hP hD hK hS hA xN_bl (fun U _ hW => XN_warm hW hX) (ci := 6) rfl rfl rfl hl.1 rfl rfl (Nat.le_of_ble_eq_true rfl) dX6_passes_44 ⟨Nat.zero_le _, Nat.zero_le _⟩ (fun r7_ u8_ H locs eu8_ hP hD hS hkf => ?_)
          obtain ⟨t4, et4⟩ : ∃ z : Nat → Int32, z = upd t3 2 (t3 2 + kMoved (P3 3)) := ⟨_, rfl⟩
          obtain ⟨P4, eP4⟩ : ∃ z : Nat → Nat → Int32, z = va_up P3 3 (kTickP (P3 3)) := ⟨_, rfl⟩
          obtain ⟨E4, eE4⟩ : ∃ z : Nat → Nat → Int64, z = va_up E3 3 (kTickE (P3 3) (E3 3)) := ⟨_, rfl⟩
          rw [← et4, ← eP4, ← eE4] at hP hD
          have hP : va_P D vwCl [(a, .inr (6, fs)), (qs, .inl (T 0, 43, .inl (mS t4 P4))), (qe, .inl (T 1, 12, .inr (.inl (mE E4))))] H := hP
          have hD : va_D A [(a, .inr (6, fs)), (qs, .inl (T 0, 43, .inl (mS t4 P4))), (qe, .inl (T 1, 12, .inr (.inl (mE E4))))] := hD
          obtain rfl : r7_ = kMoved (P3 3) := eu8_
          refine lv_iadd hx hb dX6_passes_47 ?_
          refine lv_topi (fun x3_ ex3_ => ?_)
          refine lv_istore_n (lv' := [(2, .int x3_), (0, .ref a), (1, .int (nI n)), (3, .int x3)]) hx hb dX6_passes_48 rfl hl (by decide) rfl (fun ls hl => ?_)
          obtain ⟨x4_, ex4_⟩ : ∃ y : Int32, y = x3 + 1 := ⟨_, rfl⟩
          refine lv_iinc (v := x4_) (lv' := [(3, .int x4_), (2, .int x3_), (0, .ref a), (1, .int (nI n))]) hx hb dX6_passes_49 hl (k := 3) rfl (by rw [ex4_]; rfl) (by decide) rfl (fun ls hl => ?_)
          refine lv_goto (tgt := 20) hx hb dX6_passes_52 (by decide) ?_
          have fm : kMoved (P0 0) + kMoved (P1 1) + kMoved (P2 2) + kMoved (P3 3) = kMv P0 := by rw [eP3, eP2, eP1]; rfl
          have ft : t4 = upd t0 2 (t0 2 + kMv P0) := by rw [← fm, et4, et3, et2, et1, upd_upd, upd_upd, upd_upd, upd_0, upd_0, upd_0, Int32.add_assoc, Int32.add_assoc, Int32.add_assoc, ← Int32.add_assoc (kMoved (P0 0)), ← Int32.add_assoc (kMoved (P0 0) + kMoved (P1 1))]
          have fP : P4 = kAll P0 := by rw [eP4, eP3, eP2, eP1]; rfl
          have fE : E4 = kAllE P0 E0 := by rw [eE4, eE3, eE2, eE1, eP3, eP2, eP1]; rfl
          exact ih (i + 1) _ _ (t4, P4, E4) ls _ _ (by omega) (by omega) (by rw [ex4_, e3, nI_1]) (by rw [ex3_, fm]; show kMv P0 = kMv (oTicks i (t, P, E)).2.1; rw [← eg]) (by show _ = oTick (oTicks i (t, P, E)); rw [← eg, ft, fP, fE]; rfl) hP hD hS (lv_sub hl [2, 3, 1, 0] rfl)
    exact loop (n + 1) 0 0 0 (t, P, E) _ _ _ (by omega) (Nat.zero_le _) rfl rfl rfl hP hD hS (lv_sub hl [2, 3, 1, 0] rfl)
  · skip
    refine lv_bipush (v := (-3)) hx hb dX6_passes_13 (by decide) ?_
    exact hret _ _ _ (t, P, E) _ _ dX6_passes_15 hS hP hD (by rw [oPass, if_pos (Int32.not_le.mp c10)])

def rmX6_couples : Room := { frames := 5, cells := 0, slots := 0, locals := 109 }
set_option maxHeartbeats 4000000 in
set_option maxRecDepth 100000 in
theorem mX6_couples (l : Launch) (T : Nat → ClassId) (D : va_G) (a qs qe : Nat) (fs : List Value) (t : Nat → Int32) (P : Nat → Nat → Int32) (E : Nat → Nat → Int64) (hf : fs[0]? = some (.ref qs)) (he : fs[1]? = some (.ref qe)) (hk : ∀ p, p < 4 → kOk (P p)) (p : Nat) (hp : p < 4) (q : Nat) (hq : q < 4) : MuI l yX6_couples wsX6_couples rmX6_couples T xN D [.ref a, .int (nI p), .int (nI q)] [(a, .inr (6, fs)), (qs, .inl (T 0, 43, .inl (mS t P))), (qe, .inl (T 1, 12, .inr (.inl (mE E))))] (S := SG) (fun r u => (r, u) = oCpl p q (t, P, E)) (fun u => moN T a qs qe fs u.1 u.2.1 u.2.2) 0 0 := by
  refine met_mi (cc := cX6_couples) (maxL := 11) (by decide) rfl (Nat.le_of_ble_eq_true rfl) ?_
  intro p_ e s m args below meth c ls A Q hx hb hts hown hml hX hP hD hK hS hA hl hret
  have hl : lv_has ls 11 [(0, .ref a), (1, .int (nI p)), (2, .int (nI q))] := hl
  refine lv_iload_n hx hb dX6_couples_0 rfl (lv_at hl 1 rfl) ?_
  refine lv_iload_n hx hb dX6_couples_1 rfl (lv_at hl 2 rfl) ?_
  refine lv_icmp_ne (tgt := 8) hx hb dX6_couples_2 (by decide) (fun c2 => ?_) (fun c2 => ?_)
  · skip
    have hpq : ¬ p = q := fun z => c2 (by rw [z])
    refine lv_aload_n hx hb dX6_couples_8 rfl (lv_at hl 0 rfl) ?_
    refine lv_iload_n hx hb dX6_couples_9 rfl (lv_at hl 1 rfl) ?_
    refine callRi (As := [.int (nI p)]) ⟨hx, hb, hml, hown, hts⟩ (mX6_isOn l T D a qs fs t P hf p hp ) (cwV 1 hts gX6_couples_X6_isOn rfl rfl rfl pdX6_isOn ⟨Nat.le_of_ble_eq_true rfl, Nat.le_of_ble_eq_true rfl⟩) (hP.sub [0, 1] rfl) hK xN_bl (fun U _ hW => XN_warm hW hX) (ci := 6) rfl rfl rfl hl.1 rfl rfl (Nat.le_of_ble_eq_true rfl) dX6_couples_10 ⟨Nat.zero_le _, Nat.zero_le _⟩ (fun r1_ er1_ => ?_)
    obtain rfl : r1_ = bI (P p 9 = 1) := er1_
    refine lv_if_ne (tgt := 24) hx hb dX6_couples_13 (by decide) (fun c13 => ?_) (fun c13 => ?_)
    · skip
      have c13 := bI_n0 c13
      refine lv_bipush (v := (-4)) hx hb dX6_couples_24 (by decide) ?_
      exact hret _ _ _ (t, P, E) _ _ dX6_couples_26 hS hP hD (by rw [oCpl, if_neg hpq, if_pos (by exact Or.inl c13)])
    · skip
      have c13 := bI_0 c13
      refine lv_aload_n hx hb dX6_couples_16 rfl (lv_at hl 0 rfl) ?_
      refine lv_iload_n hx hb dX6_couples_17 rfl (lv_at hl 2 rfl) ?_
      refine callRi (As := [.int (nI q)]) ⟨hx, hb, hml, hown, hts⟩ (mX6_isOn l T D a qs fs t P hf q hq ) (cwV 1 hts gX6_couples_X6_isOn rfl rfl rfl pdX6_isOn ⟨Nat.le_of_ble_eq_true rfl, Nat.le_of_ble_eq_true rfl⟩) (hP.sub [0, 1] rfl) hK xN_bl (fun U _ hW => XN_warm hW hX) (ci := 6) rfl rfl rfl hl.1 rfl rfl (Nat.le_of_ble_eq_true rfl) dX6_couples_18 ⟨Nat.zero_le _, Nat.zero_le _⟩ (fun r2_ er2_ => ?_)
      obtain rfl : r2_ = bI (P q 9 = 1) := er2_
      refine lv_if_eq (tgt := 27) hx hb dX6_couples_21 (by decide) (fun c21 => ?_) (fun c21 => ?_)
      · skip
        have c21 := bI_0 c21
        have hof : ¬ (P p 9 = 1 ∨ P q 9 = 1) := fun z => z.elim c13 c21
        refine lv_aload_n hx hb dX6_couples_27 rfl (lv_at hl 0 rfl) ?_
        refine lv_iload_n hx hb dX6_couples_28 rfl (lv_at hl 1 rfl) ?_
        refine lv_bipush (v := nI 7) hx hb dX6_couples_29 (by decide) ?_
        refine callRi (As := [.int (nI p), .int (nI 7)]) ⟨hx, hb, hml, hown, hts⟩ (mX6_of l T D a qs fs t P hf p hp 7 (by decide)) (cwV 2 hts gX6_couples_X6_of rfl rfl rfl pdX6_of ⟨Nat.le_of_ble_eq_true rfl, Nat.le_of_ble_eq_true rfl⟩) (hP.sub [0, 1] rfl) hK xN_bl (fun U _ hW => XN_warm hW hX) (ci := 6) rfl rfl rfl hl.1 rfl rfl (Nat.le_of_ble_eq_true rfl) dX6_couples_31 ⟨Nat.zero_le _, Nat.zero_le _⟩ (fun r3_ er3_ => ?_)
        obtain rfl : r3_ = P p 7 := er3_
        refine lv_aload_n hx hb dX6_couples_34 rfl (lv_at hl 0 rfl) ?_
        refine lv_iload_n hx hb dX6_couples_35 rfl (lv_at hl 2 rfl) ?_
        refine lv_bipush (v := nI 7) hx hb dX6_couples_36 (by decide) ?_
        refine callRi (As := [.int (nI q), .int (nI 7)]) ⟨hx, hb, hml, hown, hts⟩ (mX6_of l T D a qs fs t P hf q hq 7 (by decide)) (cwV 2 hts gX6_couples_X6_of rfl rfl rfl pdX6_of ⟨Nat.le_of_ble_eq_true rfl, Nat.le_of_ble_eq_true rfl⟩) (hP.sub [0, 1] rfl) hK xN_bl (fun U _ hW => XN_warm hW hX) (ci := 6) rfl rfl rfl hl.1 rfl rfl (Nat.le_of_ble_eq_true rfl) dX6_couples_38 ⟨Nat.zero_le _, Nat.zero_le _⟩ (fun r4_ er4_ => ?_)
        obtain rfl : r4_ = P q 7 := er4_
        refine lv_iadd hx hb dX6_couples_41 ?_
        refine lv_i2l hx hb dX6_couples_42 rfl ?_
        refine lv_topl (fun x3_ ex3_ => ?_)
        refine lv_lstore_n (lv' := [(3, .long x3_), (0, .ref a), (1, .int (nI p)), (2, .int (nI q))]) hx hb dX6_couples_43 rfl hl (by decide) rfl (fun ls hl => ?_)
        refine lv_lload_n hx hb dX6_couples_44 rfl (lv_at hl 0 rfl) ?_
        refine lv_aload_n hx hb dX6_couples_45 rfl (lv_at hl 1 rfl) ?_
        refine lv_iload_n hx hb dX6_couples_46 rfl (lv_at hl 2 rfl) ?_
        refine callRi (As := [.int (nI p)]) ⟨hx, hb, hml, hown, hts⟩ (mX6_capacityNow l T D a qs fs t P hf p hp ) (cwV 1 hts gX6_couples_X6_capacityNow rfl rfl rfl pdX6_capacityNow ⟨Nat.le_of_ble_eq_true rfl, Nat.le_of_ble_eq_true rfl⟩) (hP.sub [0, 1] rfl) hK xN_bl (fun U _ hW => XN_warm hW hX) (ci := 6) rfl rfl rfl hl.1 rfl rfl (Nat.le_of_ble_eq_true rfl) dX6_couples_47 ⟨Nat.zero_le _, Nat.zero_le _⟩ (fun r5_ er5_ => ?_)
        obtain rfl : r5_ = kCap (P p) (P p 6) := er5_
        refine lv_i2l hx hb dX6_couples_50 rfl ?_
        refine lv_lmul hx hb dX6_couples_51 ?_
        refine lv_aload_n hx hb dX6_couples_52 rfl (lv_at hl 1 rfl) ?_
        refine lv_iload_n hx hb dX6_couples_53 rfl (lv_at hl 2 rfl) ?_
        refine callRi (As := [.int (nI p)]) ⟨hx, hb, hml, hown, hts⟩ (mX6_capacityNow l T D a qs fs t P hf p hp ) (cwV 1 hts gX6_couples_X6_capacityNow rfl rfl rfl pdX6_capacityNow ⟨Nat.le_of_ble_eq_true rfl, Nat.le_of_ble_eq_true rfl⟩) (hP.sub [0, 1] rfl) hK xN_bl (fun U _ hW => XN_warm hW hX) (ci := 6) rfl rfl rfl hl.1 rfl rfl (Nat.le_of_ble_eq_true rfl) dX6_couples_54 ⟨Nat.zero_le _, Nat.zero_le _⟩ (fun r6_ er6_ => ?_)
        obtain rfl : r6_ = kCap (P p) (P p 6) := er6_
        refine lv_aload_n hx hb dX6_couples_57 rfl (lv_at hl 1 rfl) ?_
        refine lv_iload_n hx hb dX6_couples_58 rfl (lv_at hl 3 rfl) ?_
        refine callRi (As := [.int (nI q)]) ⟨hx, hb, hml, hown, hts⟩ (mX6_capacityNow l T D a qs fs t P hf q hq ) (cwV 1 hts gX6_couples_X6_capacityNow rfl rfl rfl pdX6_capacityNow ⟨Nat.le_of_ble_eq_true rfl, Nat.le_of_ble_eq_true rfl⟩) (hP.sub [0, 1] rfl) hK xN_bl (fun U _ hW => XN_warm hW hX) (ci := 6) rfl rfl rfl hl.1 rfl rfl (Nat.le_of_ble_eq_true rfl) dX6_couples_59 ⟨Nat.zero_le _, Nat.zero_le _⟩ (fun r7_ er7_ => ?_)
        obtain rfl : r7_ = kCap (P q) (P q 6) := er7_
        refine lv_iadd hx hb dX6_couples_62 ?_
        refine lv_i2l hx hb dX6_couples_63 rfl ?_
        refine lv_ldiv hx hb dX6_couples_64 (kCap_ne2 (hk p hp) (hk q hq)) ?_
        refine lv_l2i hx hb dX6_couples_65 rfl ?_
        refine lv_topi (fun x5_ ex5_ => ?_)
        refine lv_istore (lv' := [(5, .int x5_), (3, .long x3_), (0, .ref a), (1, .int (nI p)), (2, .int (nI q))]) hx hb dX6_couples_66 hl (by decide) rfl (fun ls hl => ?_)
        have f5 : x5_ = kMine (P p) (P q) := by rw [ex5_, ex3_]; rfl
        refine lv_lload_n hx hb dX6_couples_68 rfl (lv_at hl 1 rfl) ?_
        refine lv_l2i hx hb dX6_couples_69 rfl ?_
        refine lv_iload hx hb dX6_couples_70 (lv_at hl 0 rfl) ?_
        refine lv_isub hx hb dX6_couples_72 ?_
        refine lv_topi (fun x6_ ex6_ => ?_)
        refine lv_istore (lv' := [(6, .int x6_), (5, .int x5_), (3, .long x3_), (0, .ref a), (1, .int (nI p)), (2, .int (nI q))]) hx hb dX6_couples_73 hl (by decide) rfl (fun ls hl => ?_)
        have f6 : x6_ = kRest (P p) (P q) := by rw [ex6_, f5, ex3_]; rfl
        refine lv_iload hx hb dX6_couples_75 (lv_at hl 1 rfl) ?_
        refine lv_ldc (v := 200000) hx hb hown (hts (.constant RX6 111 (200000)) (List.mem_of_getElem? (i := 1) rfl)) dX6_couples_77 ?_
        refine lv_icmp_gt (tgt := 89) hx hb dX6_couples_79 (by decide) (fun c79 => ?_) (fun c79 => ?_)
        · skip
          refine lv_bipush (v := (-3)) hx hb dX6_couples_89 (by decide) ?_
          exact hret _ _ _ (t, P, E) _ _ dX6_couples_91 hS hP hD (by rw [oCpl, if_neg hpq, if_neg hof, if_pos (by rw [← f5, ← f6]; exact Or.inl c79)])
        · skip
          refine lv_iload hx hb dX6_couples_82 (lv_at hl 0 rfl) ?_
          refine lv_ldc (v := 200000) hx hb hown (hts (.constant RX6 111 (200000)) (List.mem_of_getElem? (i := 1) rfl)) dX6_couples_84 ?_
          refine lv_icmp_le (tgt := 92) hx hb dX6_couples_86 (by decide) (fun c86 => ?_) (fun c86 => ?_)
          · skip
            have hfu : ¬ (200000 < kMine (P p) (P q) ∨ 200000 < kRest (P p) (P q)) := by
              rw [← f5, ← f6]
              exact fun z => z.elim c79 (fun z2 => absurd z2 (Int32.not_lt.mpr c86))
            refine lv_iload hx hb dX6_couples_92 (lv_at hl 1 rfl) ?_
            refine lv_aload_n hx hb dX6_couples_94 rfl (lv_at hl 3 rfl) ?_
            refine lv_iload_n hx hb dX6_couples_95 rfl (lv_at hl 4 rfl) ?_
            refine lv_bipush (v := nI 7) hx hb dX6_couples_96 (by decide) ?_
            refine callRi (As := [.int (nI p), .int (nI 7)]) ⟨hx, hb, hml, hown, hts⟩ (mX6_of l T D a qs fs t P hf p hp 7 (by decide)) (cwV 2 hts gX6_couples_X6_of rfl rfl rfl pdX6_of ⟨Nat.le_of_ble_eq_true rfl, Nat.le_of_ble_eq_true rfl⟩) (hP.sub [0, 1] rfl) hK xN_bl (fun U _ hW => XN_warm hW hX) (ci := 6) rfl rfl rfl hl.1 rfl rfl (Nat.le_of_ble_eq_true rfl) dX6_couples_98 ⟨Nat.zero_le _, Nat.zero_le _⟩ (fun r8_ er8_ => ?_)
            obtain rfl : r8_ = P p 7 := er8_
            refine lv_icmp_ne (tgt := 107) hx hb dX6_couples_101 (by decide) (fun c101 => ?_) (fun c101 => ?_)
            · skip
              have hnm : ¬ kMine (P p) (P q) = P p 7 := by
                rw [← f5]
                exact c101
              refine lv_aload_n hx hb dX6_couples_107 rfl (lv_at hl 3 rfl) ?_
              refine lv_iload_n hx hb dX6_couples_108 rfl (lv_at hl 4 rfl) ?_
              refine callRl (As := [.int (nI p)]) ⟨hx, hb, hml, hown, hts⟩ (mX6_stored l T D a qs fs t P hf p hp (hk p hp)) (cwV 1 hts gX6_couples_X6_stored rfl rfl rfl pdX6_stored ⟨Nat.le_of_ble_eq_true rfl, Nat.le_of_ble_eq_true rfl⟩) (hP.sub [0, 1] rfl) hK xN_bl (fun U _ hW => XN_warm hW hX) (ci := 6) rfl rfl rfl hl.1 rfl rfl (Nat.le_of_ble_eq_true rfl) dX6_couples_109 ⟨Nat.zero_le _, Nat.zero_le _⟩ (fun r9_ er9_ => ?_)
              obtain rfl : r9_ = kStored (P p) := er9_
              refine lv_aload_n hx hb dX6_couples_112 rfl (lv_at hl 3 rfl) ?_
              refine lv_iload_n hx hb dX6_couples_113 rfl (lv_at hl 5 rfl) ?_
              refine callRl (As := [.int (nI q)]) ⟨hx, hb, hml, hown, hts⟩ (mX6_stored l T D a qs fs t P hf q hq (hk q hq)) (cwV 1 hts gX6_couples_X6_stored rfl rfl rfl pdX6_stored ⟨Nat.le_of_ble_eq_true rfl, Nat.le_of_ble_eq_true rfl⟩) (hP.sub [0, 1] rfl) hK xN_bl (fun U _ hW => XN_warm hW hX) (ci := 6) rfl rfl rfl hl.1 rfl rfl (Nat.le_of_ble_eq_true rfl) dX6_couples_114 ⟨Nat.zero_le _, Nat.zero_le _⟩ (fun r10_ er10_ => ?_)
              obtain rfl : r10_ = kStored (P q) := er10_
              refine lv_ladd hx hb dX6_couples_117 ?_
              refine lv_topl (fun x7_ ex7_ => ?_)
              refine lv_lstore (lv' := [(7, .long x7_), (6, .int x6_), (5, .int x5_), (3, .long x3_), (0, .ref a), (1, .int (nI p)), (2, .int (nI q))]) hx hb dX6_couples_118 hl (by decide) rfl (fun ls hl => ?_)
              refine lv_aload_n hx hb dX6_couples_120 rfl (lv_at hl 4 rfl) ?_
              refine va_get (D := D) (ci := 6) (v := .ref qs) (C := RX6) (T := TX6) (N := 22) hx hb hts inwX6_couples_X6 hown hK hP 0 rfl rfl 0 (by decide) (hts (.fieldLink RX6 7 "PlateSlabsModel" "s" "[I") (List.mem_of_getElem? (i := 2) rfl)) (fun _ h9 => h9) hf dX6_couples_121 ?_
              refine lv_iload_n hx hb dX6_couples_124 rfl (lv_at hl 5 rfl) ?_
              refine lv_bipush (v := nI 7) hx hb dX6_couples_125 (by decide) ?_
              refine callSi (As := [.int (nI p), .int (nI 7)]) ⟨hx, hb, hml, hown, hts⟩ (mX6_at l T D p 7) (va_cwS 2 hts gX6_couples_X6_at rfl rfl rfl (pdX6_at).2 ⟨Nat.le_of_ble_eq_true rfl, Nat.le_of_ble_eq_true rfl⟩) wP_nil hK xN_bl (fun U _ hW => XN_warm hW hX) hl.1 rfl rfl (Nat.le_of_ble_eq_true rfl) dX6_couples_127 ⟨Nat.zero_le _, Nat.zero_le _⟩ (fun r11_ er11_ => ?_)
              obtain rfl : r11_ = nI (3 + 10 * p + 7) := er11_
              refine lv_iload hx hb dX6_couples_130 (lv_at hl 2 rfl) ?_
              refine va_iast hx hb hK hP hD hS 1 0 rfl rfl (vp_in_nI (by omega) (by decide)) dX6_couples_132 (fun H locs hP hD hS => ?_)
              rw [nI_clamp (show 3 + 10 * p + 7 < 2 ^ 31 by omega)] at hP hD
              have hP : va_P D vwCl [(a, .inr (6, fs)), (qs, .inl (T 0, 43, .inl (upd (mS t P) (3 + 10 * p + 7) x5_))), (qe, .inl (T 1, 12, .inr (.inl (mE E))))] H := hP
              have hD : va_D A [(a, .inr (6, fs)), (qs, .inl (T 0, 43, .inl (upd (mS t P) (3 + 10 * p + 7) x5_))), (qe, .inl (T 1, 12, .inr (.inl (mE E))))] := hD
              rw [mS_up t P (by decide)] at hP hD
              obtain ⟨P1, eP1⟩ : ∃ z, z = va_up P p (upd (P p) 7 x5_) := ⟨_, rfl⟩
              rw [← eP1] at hP hD
              have hP : va_P D vwCl [(a, .inr (6, fs)), (qs, .inl (T 0, 43, .inl (mS t P1))), (qe, .inl (T 1, 12, .inr (.inl (mE E))))] H := hP
              have hD : va_D A [(a, .inr (6, fs)), (qs, .inl (T 0, 43, .inl (mS t P1))), (qe, .inl (T 1, 12, .inr (.inl (mE E))))] := hD
              have f1p : P1 p = upd (P p) 7 x5_ := by rw [eP1, up_0]
              have f1q : P1 q = P q := by rw [eP1, up_n (fun z => hpq z.symm)]
              refine lv_aload_n hx hb dX6_couples_133 rfl (lv_at hl 4 rfl) ?_
              refine va_get (D := D) (ci := 6) (v := .ref qs) (C := RX6) (T := TX6) (N := 22) hx hb hts inwX6_couples_X6 hown hK hP 0 rfl rfl 0 (by decide) (hts (.fieldLink RX6 7 "PlateSlabsModel" "s" "[I") (List.mem_of_getElem? (i := 2) rfl)) (fun _ h9 => h9) hf dX6_couples_134 ?_
              refine lv_iload_n hx hb dX6_couples_137 rfl (lv_at hl 6 rfl) ?_
              refine lv_bipush (v := nI 7) hx hb dX6_couples_138 (by decide) ?_
              refine callSi (As := [.int (nI q), .int (nI 7)]) ⟨hx, hb, hml, hown, hts⟩ (mX6_at l T D q 7) (va_cwS 2 hts gX6_couples_X6_at rfl rfl rfl (pdX6_at).2 ⟨Nat.le_of_ble_eq_true rfl, Nat.le_of_ble_eq_true rfl⟩) wP_nil hK xN_bl (fun U _ hW => XN_warm hW hX) hl.1 rfl rfl (Nat.le_of_ble_eq_true rfl) dX6_couples_140 ⟨Nat.zero_le _, Nat.zero_le _⟩ (fun r12_ er12_ => ?_)
              obtain rfl : r12_ = nI (3 + 10 * q + 7) := er12_
              refine lv_iload hx hb dX6_couples_143 (lv_at hl 1 rfl) ?_
              refine va_iast hx hb hK hP hD hS 1 0 rfl rfl (vp_in_nI (by omega) (by decide)) dX6_couples_145 (fun H locs hP hD hS => ?_)
              rw [nI_clamp (show 3 + 10 * q + 7 < 2 ^ 31 by omega)] at hP hD
              have hP : va_P D vwCl [(a, .inr (6, fs)), (qs, .inl (T 0, 43, .inl (upd (mS t P1) (3 + 10 * q + 7) x6_))), (qe, .inl (T 1, 12, .inr (.inl (mE E))))] H := hP
              have hD : va_D A [(a, .inr (6, fs)), (qs, .inl (T 0, 43, .inl (upd (mS t P1) (3 + 10 * q + 7) x6_))), (qe, .inl (T 1, 12, .inr (.inl (mE E))))] := hD
              rw [mS_up t P1 (by decide)] at hP hD
              obtain ⟨P2, eP2⟩ : ∃ z, z = va_up P1 q (upd (P1 q) 7 x6_) := ⟨_, rfl⟩
              rw [← eP2] at hP hD
              have hP : va_P D vwCl [(a, .inr (6, fs)), (qs, .inl (T 0, 43, .inl (mS t P2))), (qe, .inl (T 1, 12, .inr (.inl (mE E))))] H := hP
              have hD : va_D A [(a, .inr (6, fs)), (qs, .inl (T 0, 43, .inl (mS t P2))), (qe, .inl (T 1, 12, .inr (.inl (mE E))))] := hD
              have f2p : P2 p = upd (P p) 7 x5_ := by rw [eP2, up_n hpq, f1p]
              have f2q : P2 q = upd (P q) 7 x6_ := by rw [eP2, up_0, f1q]
              have hx5 : 0 ≤ x5_.toInt ∧ x5_.toInt ≤ 200000 := by
                rw [f5]
                exact kMine_bd (hk p hp) (hk q hq) hfu
              have hx6 : 0 ≤ x6_.toInt ∧ x6_.toInt ≤ 200000 := by
                rw [f6]
                exact kRest_bd (hk p hp) (hk q hq) hfu
              have hk2p : kOk (P2 p) := by rw [f2p]; exact kOk_u7 (hk p hp) hx5
              have hk2q : kOk (P2 q) := by rw [f2q]; exact kOk_u7 (hk q hq) hx6
              refine lv_lload hx hb dX6_couples_146 (lv_at hl 0 rfl) ?_
              refine lv_aload_n hx hb dX6_couples_148 rfl (lv_at hl 4 rfl) ?_
              refine lv_iload_n hx hb dX6_couples_149 rfl (lv_at hl 5 rfl) ?_
              refine callRl (As := [.int (nI p)]) ⟨hx, hb, hml, hown, hts⟩ (mX6_stored l T D a qs fs t P2 hf p hp hk2p) (cwV 1 hts gX6_couples_X6_stored rfl rfl rfl pdX6_stored ⟨Nat.le_of_ble_eq_true rfl, Nat.le_of_ble_eq_true rfl⟩) (hP.sub [0, 1] rfl) hK xN_bl (fun U _ hW => XN_warm hW hX) (ci := 6) rfl rfl rfl hl.1 rfl rfl (Nat.le_of_ble_eq_true rfl) dX6_couples_150 ⟨Nat.zero_le _, Nat.zero_le _⟩ (fun r13_ er13_ => ?_)
              obtain rfl : r13_ = kStored (P2 p) := er13_
              refine lv_lsub hx hb dX6_couples_153 ?_
              refine lv_aload_n hx hb dX6_couples_154 rfl (lv_at hl 4 rfl) ?_
              refine lv_iload_n hx hb dX6_couples_155 rfl (lv_at hl 6 rfl) ?_
              refine callRl (As := [.int (nI q)]) ⟨hx, hb, hml, hown, hts⟩ (mX6_stored l T D a qs fs t P2 hf q hq hk2q) (cwV 1 hts gX6_couples_X6_stored rfl rfl rfl pdX6_stored ⟨Nat.le_of_ble_eq_true rfl, Nat.le_of_ble_eq_true rfl⟩) (hP.sub [0, 1] rfl) hK xN_bl (fun U _ hW => XN_warm hW hX) (ci := 6) rfl rfl rfl hl.1 rfl rfl (Nat.le_of_ble_eq_true rfl) dX6_couples_156 ⟨Nat.zero_le _, Nat.zero_le _⟩ (fun r14_ er14_ => ?_)
              obtain rfl : r14_ = kStored (P2 q) := er14_
              refine lv_lsub hx hb dX6_couples_159 ?_
              refine lv_topl (fun x9_ ex9_ => ?_)
              refine lv_lstore (lv' := [(9, .long x9_), (7, .long x7_), (6, .int x6_), (5, .int x5_), (3, .long x3_), (0, .ref a), (1, .int (nI p)), (2, .int (nI q))]) hx hb dX6_couples_160 hl (by decide) rfl (fun ls hl => ?_)
              have f9 : x9_ = kLoss (P p) (P q) := by rw [ex9_, ex7_, f2p, f2q, f5, f6]; rfl
              refine lv_aload_n hx hb dX6_couples_162 rfl (lv_at hl 5 rfl) ?_
              refine va_get (D := D) (ci := 6) (v := .ref qe) (C := RX6) (T := TX6) (N := 22) hx hb hts inwX6_couples_X6 hown hK hP 0 rfl rfl 1 (by decide) (hts (.fieldLink RX6 13 "PlateSlabsModel" "e" "[J") (List.mem_of_getElem? (i := 3) rfl)) (fun _ h9 => h9) he dX6_couples_163 ?_
              refine lv_iconst (v := nI 3) hx hb dX6_couples_166 (by decide) ?_
              refine lv_iload_n hx hb dX6_couples_167 rfl (lv_at hl 6 rfl) ?_
              refine lv_imul hx hb dX6_couples_168 ?_
              refine lv_iconst (v := nI 2) hx hb dX6_couples_169 (by decide) ?_
              refine lv_iadd hx hb dX6_couples_170 ?_
              refine lv_tpi (z := nI (3 * p + 2)) (by rw [pk_mul, nI_add]) ?_
              refine lv_dup2_11 hx hb dX6_couples_171 rfl rfl ?_
              refine va_lald hx hb hK hP 2 1 rfl rfl (vp_in_nI (by omega) (by decide)) dX6_couples_172 ?_
              refine lv_tpl (congrArg (fun z => (mE E) z) (nI_clamp (by omega))) ?_
              refine lv_tpl (z := E p 2) (mE_at E (by decide)) ?_
              refine lv_lload hx hb dX6_couples_173 (lv_at hl 0 rfl) ?_
              refine callSl (As := [.long x9_]) ⟨hx, hb, hml, hown, hts⟩ (mX6_half l T D x9_) (va_cwS 1 hts gX6_couples_X6_half rfl rfl rfl (pdX6_half).2 ⟨Nat.le_of_ble_eq_true rfl, Nat.le_of_ble_eq_true rfl⟩) wP_nil hK xN_bl (fun U _ hW => XN_warm hW hX) hl.1 rfl rfl (Nat.le_of_ble_eq_true rfl) dX6_couples_175 ⟨Nat.zero_le _, Nat.zero_le _⟩ (fun r15_ er15_ => ?_)
              obtain rfl : r15_ = kHalf x9_ := er15_
              refine lv_ladd hx hb dX6_couples_178 ?_
              refine va_last hx hb hK hP hD hS 2 1 rfl rfl (vp_in_nI (by omega) (by decide)) dX6_couples_179 (fun H locs hP hD hS => ?_)
              rw [nI_clamp (show 3 * p + 2 < 2 ^ 31 by omega)] at hP hD
              have hP : va_P D vwCl [(a, .inr (6, fs)), (qs, .inl (T 0, 43, .inl (mS t P2))), (qe, .inl (T 1, 12, .inr (.inl (vp_updL (mE E) (3 * p + 2) ((E p 2) + (kHalf x9_))))))] H := hP
              have hD : va_D A [(a, .inr (6, fs)), (qs, .inl (T 0, 43, .inl (mS t P2))), (qe, .inl (T 1, 12, .inr (.inl (vp_updL (mE E) (3 * p + 2) ((E p 2) + (kHalf x9_))))))] := hD
              rw [mE_up E (by decide)] at hP hD
              obtain ⟨E1, eE1⟩ : ∃ z, z = va_up E p (vp_updL (E p) 2 (E p 2 + kHalf x9_)) := ⟨_, rfl⟩
              rw [← eE1] at hP hD
              have hP : va_P D vwCl [(a, .inr (6, fs)), (qs, .inl (T 0, 43, .inl (mS t P2))), (qe, .inl (T 1, 12, .inr (.inl (mE E1))))] H := hP
              have hD : va_D A [(a, .inr (6, fs)), (qs, .inl (T 0, 43, .inl (mS t P2))), (qe, .inl (T 1, 12, .inr (.inl (mE E1))))] := hD
              have g1q : E1 q = E q := by rw [eE1, up_n (fun z => hpq z.symm)]
              refine lv_aload_n hx hb dX6_couples_180 rfl (lv_at hl 5 rfl) ?_
              refine va_get (D := D) (ci := 6) (v := .ref qe) (C := RX6) (T := TX6) (N := 22) hx hb hts inwX6_couples_X6 hown hK hP 0 rfl rfl 1 (by decide) (hts (.fieldLink RX6 13 "PlateSlabsModel" "e" "[J") (List.mem_of_getElem? (i := 3) rfl)) (fun _ h9 => h9) he dX6_couples_181 ?_
              refine lv_iconst (v := nI 3) hx hb dX6_couples_184 (by decide) ?_
              refine lv_iload_n hx hb dX6_couples_185 rfl (lv_at hl 7 rfl) ?_
              refine lv_imul hx hb dX6_couples_186 ?_
              refine lv_iconst (v := nI 2) hx hb dX6_couples_187 (by decide) ?_
              refine lv_iadd hx hb dX6_couples_188 ?_
              refine lv_tpi (z := nI (3 * q + 2)) (by rw [pk_mul, nI_add]) ?_
              refine lv_dup2_11 hx hb dX6_couples_189 rfl rfl ?_
              refine va_lald hx hb hK hP 2 1 rfl rfl (vp_in_nI (by omega) (by decide)) dX6_couples_190 ?_
              refine lv_tpl (congrArg (fun z => (mE E1) z) (nI_clamp (by omega))) ?_
              refine lv_tpl (z := E1 q 2) (mE_at E1 (by decide)) ?_
              refine lv_lload hx hb dX6_couples_191 (lv_at hl 0 rfl) ?_
              refine lv_lload hx hb dX6_couples_193 (lv_at hl 0 rfl) ?_
              refine callSl (As := [.long x9_]) ⟨hx, hb, hml, hown, hts⟩ (mX6_half l T D x9_) (va_cwS 1 hts gX6_couples_X6_half rfl rfl rfl (pdX6_half).2 ⟨Nat.le_of_ble_eq_true rfl, Nat.le_of_ble_eq_true rfl⟩) wP_nil hK xN_bl (fun U _ hW => XN_warm hW hX) hl.1 rfl rfl (Nat.le_of_ble_eq_true rfl) dX6_couples_195 ⟨Nat.zero_le _, Nat.zero_le _⟩ (fun r16_ er16_ => ?_)
              obtain rfl : r16_ = kHalf x9_ := er16_
              refine lv_lsub hx hb dX6_couples_198 ?_
              refine lv_ladd hx hb dX6_couples_199 ?_
              refine va_last hx hb hK hP hD hS 2 1 rfl rfl (vp_in_nI (by omega) (by decide)) dX6_couples_200 (fun H locs hP hD hS => ?_)
              rw [nI_clamp (show 3 * q + 2 < 2 ^ 31 by omega)] at hP hD
              have hP : va_P D vwCl [(a, .inr (6, fs)), (qs, .inl (T 0, 43, .inl (mS t P2))), (qe, .inl (T 1, 12, .inr (.inl (vp_updL (mE E1) (3 * q + 2) ((E1 q 2) + (x9_ - (kHalf x9_)))))))] H := hP
              have hD : va_D A [(a, .inr (6, fs)), (qs, .inl (T 0, 43, .inl (mS t P2))), (qe, .inl (T 1, 12, .inr (.inl (vp_updL (mE E1) (3 * q + 2) ((E1 q 2) + (x9_ - (kHalf x9_)))))))] := hD
              rw [mE_up E1 (by decide)] at hP hD
              obtain ⟨E2, eE2⟩ : ∃ z, z = va_up E1 q (vp_updL (E1 q) 2 (E1 q 2 + (x9_ - kHalf x9_))) := ⟨_, rfl⟩
              rw [← eE2] at hP hD
              have hP : va_P D vwCl [(a, .inr (6, fs)), (qs, .inl (T 0, 43, .inl (mS t P2))), (qe, .inl (T 1, 12, .inr (.inl (mE E2))))] H := hP
              have hD : va_D A [(a, .inr (6, fs)), (qs, .inl (T 0, 43, .inl (mS t P2))), (qe, .inl (T 1, 12, .inr (.inl (mE E2))))] := hD
              refine lv_aload_n hx hb dX6_couples_201 rfl (lv_at hl 5 rfl) ?_
              refine va_get (D := D) (ci := 6) (v := .ref qs) (C := RX6) (T := TX6) (N := 22) hx hb hts inwX6_couples_X6 hown hK hP 0 rfl rfl 0 (by decide) (hts (.fieldLink RX6 7 "PlateSlabsModel" "s" "[I") (List.mem_of_getElem? (i := 2) rfl)) (fun _ h9 => h9) hf dX6_couples_202 ?_
              refine lv_iconst (v := 1) hx hb dX6_couples_205 (by decide) ?_
              refine lv_dup2_11 hx hb dX6_couples_206 rfl rfl ?_
              refine va_iald hx hb hK hP 1 0 rfl rfl (in_lit (by decide)) dX6_couples_207 ?_
              refine lv_tpi (congrArg (fun z => (mS t P2) z) (cl_1)) ?_
              refine lv_tpi (z := t 1) (mS_t t P2 (by decide)) ?_
              refine lv_iconst (v := 1) hx hb dX6_couples_208 (by decide) ?_
              refine lv_iadd hx hb dX6_couples_209 ?_
              refine va_iast hx hb hK hP hD hS 1 0 rfl rfl (in_lit (by decide)) dX6_couples_210 (fun H locs hP hD hS => ?_)
              rw [cl_1] at hP hD
              have hP : va_P D vwCl [(a, .inr (6, fs)), (qs, .inl (T 0, 43, .inl (upd (mS t P2) 1 ((t 1) + 1)))), (qe, .inl (T 1, 12, .inr (.inl (mE E2))))] H := hP
              have hD : va_D A [(a, .inr (6, fs)), (qs, .inl (T 0, 43, .inl (upd (mS t P2) 1 ((t 1) + 1)))), (qe, .inl (T 1, 12, .inr (.inl (mE E2))))] := hD
              rw [mS_upt t P2 (by decide)] at hP hD
              obtain ⟨t1, et1⟩ : ∃ z, z = upd t 1 (t 1 + 1) := ⟨_, rfl⟩
              rw [← et1] at hP hD
              have hP : va_P D vwCl [(a, .inr (6, fs)), (qs, .inl (T 0, 43, .inl (mS t1 P2))), (qe, .inl (T 1, 12, .inr (.inl (mE E2))))] H := hP
              have hD : va_D A [(a, .inr (6, fs)), (qs, .inl (T 0, 43, .inl (mS t1 P2))), (qe, .inl (T 1, 12, .inr (.inl (mE E2))))] := hD
              refine lv_iload hx hb dX6_couples_211 (lv_at hl 3 rfl) ?_
              exact hret _ _ _ (t1, P2, E2) _ _ dX6_couples_213 hS hP hD (by rw [oCpl, if_neg hpq, if_neg hof, if_neg hfu, if_neg hnm, ← f5, ← f6, ← f9, et1, eE2, g1q, eE1, eP2, f1q, eP1])
            · skip
              refine lv_bipush (v := (-5)) hx hb dX6_couples_104 (by decide) ?_
              exact hret _ _ _ (t, P, E) _ _ dX6_couples_106 hS hP hD (by rw [oCpl, if_neg hpq, if_neg hof, if_neg hfu, if_pos (by rw [← f5]; exact c101)])
          · skip
            refine lv_bipush (v := (-3)) hx hb dX6_couples_89 (by decide) ?_
            exact hret _ _ _ (t, P, E) _ _ dX6_couples_91 hS hP hD (by rw [oCpl, if_neg hpq, if_neg hof, if_pos (by rw [← f5, ← f6]; exact Or.inr (Int32.not_le.mp c86))])
      · skip
        have c21 := bI_n0 c21
        refine lv_bipush (v := (-4)) hx hb dX6_couples_24 (by decide) ?_
        exact hret _ _ _ (t, P, E) _ _ dX6_couples_26 hS hP hD (by rw [oCpl, if_neg hpq, if_pos (by exact Or.inr c21)])
  · skip
    obtain rfl : p = q := by
      exact (nI_eq (by omega) (by omega)).mp c2
    refine lv_bipush (v := (-2)) hx hb dX6_couples_5 (by decide) ?_
    exact hret _ _ _ (t, P, E) _ _ dX6_couples_7 hS hP hD (by rw [oCpl, if_pos rfl])
end

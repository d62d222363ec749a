-- ===== PART A: goes FIRST, ahead of the names: the tables' words, and 'selects' of the private methods out of them =====
/-- a private method of a class that the tables say can be made, by its rows of tables_1 -/
def lw_okq (q : MethodName × Nat) : Prop := (q.1.cls ≠ "java/lang/invoke/MethodHandle" ∧ q.1.cls ≠ "java/lang/invoke/VarHandle") ∧ Cond.instantiable q.1.cls q.2 ∈ tables_1 ∧ Cond.privateMethod q.1 ∈ tables_1 ∧ Cond.instanceMethod q.1 ∈ tables_1
theorem lw_p0 : lw_okq (⟨"EggHouse", "ofAllBarns", "(I)I"⟩, 11) := ⟨⟨by decide +kernel, by decide +kernel⟩, List.mem_of_getElem? (i := 18) (by decide +kernel), List.mem_of_getElem? (i := 175) (by decide +kernel), List.mem_of_getElem? (i := 176) (by decide +kernel)⟩
theorem lw_p1 : lw_okq (⟨"java/util/ArrayList", "add", "(Ljava/lang/Object;[Ljava/lang/Object;I)V"⟩, 3) := ⟨⟨by decide +kernel, by decide +kernel⟩, List.mem_of_getElem? (i := 26) (by decide +kernel), List.mem_of_getElem? (i := 226) (by decide +kernel), List.mem_of_getElem? (i := 227) (by decide +kernel)⟩
theorem lw_p2 : lw_okq (⟨"java/util/ArrayList", "grow", "()[Ljava/lang/Object;"⟩, 3) := ⟨⟨by decide +kernel, by decide +kernel⟩, List.mem_of_getElem? (i := 26) (by decide +kernel), List.mem_of_getElem? (i := 230) (by decide +kernel), List.mem_of_getElem? (i := 231) (by decide +kernel)⟩
theorem lw_p3 : lw_okq (⟨"java/util/ArrayList", "grow", "(I)[Ljava/lang/Object;"⟩, 3) := ⟨⟨by decide +kernel, by decide +kernel⟩, List.mem_of_getElem? (i := 26) (by decide +kernel), List.mem_of_getElem? (i := 234) (by decide +kernel), List.mem_of_getElem? (i := 235) (by decide +kernel)⟩
theorem lw_p4 : lw_okq (⟨"EggHouse", "passOneTick", "()V"⟩, 11) := ⟨⟨by decide +kernel, by decide +kernel⟩, List.mem_of_getElem? (i := 18) (by decide +kernel), List.mem_of_getElem? (i := 280) (by decide +kernel), List.mem_of_getElem? (i := 281) (by decide +kernel)⟩
theorem lw_p5 : lw_okq (⟨"EggHouse", "moveLine", "()V"⟩, 11) := ⟨⟨by decide +kernel, by decide +kernel⟩, List.mem_of_getElem? (i := 18) (by decide +kernel), List.mem_of_getElem? (i := 284) (by decide +kernel), List.mem_of_getElem? (i := 285) (by decide +kernel)⟩
theorem lw_p6 : lw_okq (⟨"EggHouse", "weigh", "()V"⟩, 11) := ⟨⟨by decide +kernel, by decide +kernel⟩, List.mem_of_getElem? (i := 18) (by decide +kernel), List.mem_of_getElem? (i := 288) (by decide +kernel), List.mem_of_getElem? (i := 289) (by decide +kernel)⟩
theorem lw_p7 : lw_okq (⟨"EggHouse", "look", "()V"⟩, 11) := ⟨⟨by decide +kernel, by decide +kernel⟩, List.mem_of_getElem? (i := 18) (by decide +kernel), List.mem_of_getElem? (i := 292) (by decide +kernel), List.mem_of_getElem? (i := 293) (by decide +kernel)⟩
theorem lw_p8 : lw_okq (⟨"EggHouse", "askCracked", "(LEggHouse$Egg;)I"⟩, 11) := ⟨⟨by decide +kernel, by decide +kernel⟩, List.mem_of_getElem? (i := 18) (by decide +kernel), List.mem_of_getElem? (i := 296) (by decide +kernel), List.mem_of_getElem? (i := 297) (by decide +kernel)⟩
theorem lw_p9 : lw_okq (⟨"EggHouse", "askBloody", "(LEggHouse$Egg;)I"⟩, 11) := ⟨⟨by decide +kernel, by decide +kernel⟩, List.mem_of_getElem? (i := 18) (by decide +kernel), List.mem_of_getElem? (i := 307) (by decide +kernel), List.mem_of_getElem? (i := 308) (by decide +kernel)⟩
theorem lw_p10 : lw_okq (⟨"EggHouse", "askDirty", "(LEggHouse$Egg;)I"⟩, 11) := ⟨⟨by decide +kernel, by decide +kernel⟩, List.mem_of_getElem? (i := 18) (by decide +kernel), List.mem_of_getElem? (i := 312) (by decide +kernel), List.mem_of_getElem? (i := 313) (by decide +kernel)⟩
theorem lw_p11 : lw_okq (⟨"EggHouse", "askSound", "()I"⟩, 11) := ⟨⟨by decide +kernel, by decide +kernel⟩, List.mem_of_getElem? (i := 18) (by decide +kernel), List.mem_of_getElem? (i := 317) (by decide +kernel), List.mem_of_getElem? (i := 318) (by decide +kernel)⟩
theorem lw_p12 : lw_okq (⟨"EggHouse", "startWash", "(LEggHouse$Egg;)V"⟩, 11) := ⟨⟨by decide +kernel, by decide +kernel⟩, List.mem_of_getElem? (i := 18) (by decide +kernel), List.mem_of_getElem? (i := 321) (by decide +kernel), List.mem_of_getElem? (i := 322) (by decide +kernel)⟩
theorem lw_p13 : lw_okq (⟨"EggHouse", "letTake", "(LEggHouse$Packer;)V"⟩, 11) := ⟨⟨by decide +kernel, by decide +kernel⟩, List.mem_of_getElem? (i := 18) (by decide +kernel), List.mem_of_getElem? (i := 325) (by decide +kernel), List.mem_of_getElem? (i := 326) (by decide +kernel)⟩
theorem lw_p14 : lw_okq (⟨"EggHouse", "takes", "(LEggHouse$Packer;LEggHouse$Egg;)Z"⟩, 11) := ⟨⟨by decide +kernel, by decide +kernel⟩, List.mem_of_getElem? (i := 18) (by decide +kernel), List.mem_of_getElem? (i := 329) (by decide +kernel), List.mem_of_getElem? (i := 330) (by decide +kernel)⟩
theorem lw_p15 : lw_okq (⟨"EggHouse", "closeTray", "(LEggHouse$Packer;)V"⟩, 11) := ⟨⟨by decide +kernel, by decide +kernel⟩, List.mem_of_getElem? (i := 18) (by decide +kernel), List.mem_of_getElem? (i := 344) (by decide +kernel), List.mem_of_getElem? (i := 345) (by decide +kernel)⟩
def lw_privs_1 : List (MethodName × Nat) := [(⟨"EggHouse", "ofAllBarns", "(I)I"⟩, 11), (⟨"java/util/ArrayList", "add", "(Ljava/lang/Object;[Ljava/lang/Object;I)V"⟩, 3), (⟨"java/util/ArrayList", "grow", "()[Ljava/lang/Object;"⟩, 3), (⟨"java/util/ArrayList", "grow", "(I)[Ljava/lang/Object;"⟩, 3), (⟨"EggHouse", "passOneTick", "()V"⟩, 11), (⟨"EggHouse", "moveLine", "()V"⟩, 11), (⟨"EggHouse", "weigh", "()V"⟩, 11), (⟨"EggHouse", "look", "()V"⟩, 11), (⟨"EggHouse", "askCracked", "(LEggHouse$Egg;)I"⟩, 11), (⟨"EggHouse", "askBloody", "(LEggHouse$Egg;)I"⟩, 11), (⟨"EggHouse", "askDirty", "(LEggHouse$Egg;)I"⟩, 11), (⟨"EggHouse", "askSound", "()I"⟩, 11), (⟨"EggHouse", "startWash", "(LEggHouse$Egg;)V"⟩, 11), (⟨"EggHouse", "letTake", "(LEggHouse$Packer;)V"⟩, 11), (⟨"EggHouse", "takes", "(LEggHouse$Packer;LEggHouse$Egg;)Z"⟩, 11), (⟨"EggHouse", "closeTray", "(LEggHouse$Packer;)V"⟩, 11)]
theorem lw_r1 : ∀ q ∈ lw_privs_1, lw_okq q := List.forall_mem_cons.mpr ⟨lw_p0, List.forall_mem_cons.mpr ⟨lw_p1, List.forall_mem_cons.mpr ⟨lw_p2, List.forall_mem_cons.mpr ⟨lw_p3, List.forall_mem_cons.mpr ⟨lw_p4, List.forall_mem_cons.mpr ⟨lw_p5, List.forall_mem_cons.mpr ⟨lw_p6, List.forall_mem_cons.mpr ⟨lw_p7, List.forall_mem_cons.mpr ⟨lw_p8, List.forall_mem_cons.mpr ⟨lw_p9, List.forall_mem_cons.mpr ⟨lw_p10, List.forall_mem_cons.mpr ⟨lw_p11, List.forall_mem_cons.mpr ⟨lw_p12, List.forall_mem_cons.mpr ⟨lw_p13, List.forall_mem_cons.mpr ⟨lw_p14, List.forall_mem_cons.mpr ⟨lw_p15, fun _ h => absurd h List.not_mem_nil⟩⟩⟩⟩⟩⟩⟩⟩⟩⟩⟩⟩⟩⟩⟩⟩
theorem lw_p16 : lw_okq (⟨"EggHouse", "bringWashed", "()V"⟩, 11) := ⟨⟨by decide +kernel, by decide +kernel⟩, List.mem_of_getElem? (i := 18) (by decide +kernel), List.mem_of_getElem? (i := 350) (by decide +kernel), List.mem_of_getElem? (i := 351) (by decide +kernel)⟩
theorem lw_p17 : lw_okq (⟨"java/util/ArrayList", "fastRemove", "([Ljava/lang/Object;I)V"⟩, 3) := ⟨⟨by decide +kernel, by decide +kernel⟩, List.mem_of_getElem? (i := 26) (by decide +kernel), List.mem_of_getElem? (i := 376) (by decide +kernel), List.mem_of_getElem? (i := 377) (by decide +kernel)⟩
theorem lw_p18 : lw_okq (⟨"EggHouse", "feedLine", "()V"⟩, 11) := ⟨⟨by decide +kernel, by decide +kernel⟩, List.mem_of_getElem? (i := 18) (by decide +kernel), List.mem_of_getElem? (i := 381) (by decide +kernel), List.mem_of_getElem? (i := 382) (by decide +kernel)⟩
theorem lw_p19 : lw_okq (⟨"EggHouse", "eggsOnLine", "()I"⟩, 11) := ⟨⟨by decide +kernel, by decide +kernel⟩, List.mem_of_getElem? (i := 18) (by decide +kernel), List.mem_of_getElem? (i := 418) (by decide +kernel), List.mem_of_getElem? (i := 419) (by decide +kernel)⟩
theorem lw_p20 : lw_okq (⟨"EggHouse", "eggsInTrays", "()I"⟩, 11) := ⟨⟨by decide +kernel, by decide +kernel⟩, List.mem_of_getElem? (i := 18) (by decide +kernel), List.mem_of_getElem? (i := 422) (by decide +kernel), List.mem_of_getElem? (i := 423) (by decide +kernel)⟩
theorem lw_p21 : lw_okq (⟨"EggHouse", "isPack", "(I)Z"⟩, 11) := ⟨⟨by decide +kernel, by decide +kernel⟩, List.mem_of_getElem? (i := 18) (by decide +kernel), List.mem_of_getElem? (i := 434) (by decide +kernel), List.mem_of_getElem? (i := 435) (by decide +kernel)⟩
theorem lw_p22 : lw_okq (⟨"EggHouse", "bestSet", "()I"⟩, 11) := ⟨⟨by decide +kernel, by decide +kernel⟩, List.mem_of_getElem? (i := 18) (by decide +kernel), List.mem_of_getElem? (i := 476) (by decide +kernel), List.mem_of_getElem? (i := 477) (by decide +kernel)⟩
theorem lw_p23 : lw_okq (⟨"EggHouse", "freeByGrade", "()[I"⟩, 11) := ⟨⟨by decide +kernel, by decide +kernel⟩, List.mem_of_getElem? (i := 18) (by decide +kernel), List.mem_of_getElem? (i := 480) (by decide +kernel), List.mem_of_getElem? (i := 481) (by decide +kernel)⟩
theorem lw_p24 : lw_okq (⟨"EggHouse", "worthOf", "(I)I"⟩, 11) := ⟨⟨by decide +kernel, by decide +kernel⟩, List.mem_of_getElem? (i := 18) (by decide +kernel), List.mem_of_getElem? (i := 485) (by decide +kernel), List.mem_of_getElem? (i := 486) (by decide +kernel)⟩
theorem lw_p25 : lw_okq (⟨"EggHouse", "canServe", "(I[I)Z"⟩, 11) := ⟨⟨by decide +kernel, by decide +kernel⟩, List.mem_of_getElem? (i := 18) (by decide +kernel), List.mem_of_getElem? (i := 492) (by decide +kernel), List.mem_of_getElem? (i := 493) (by decide +kernel)⟩
theorem lw_p26 : lw_okq (⟨"EggHouse", "wantedOf", "(II)I"⟩, 11) := ⟨⟨by decide +kernel, by decide +kernel⟩, List.mem_of_getElem? (i := 18) (by decide +kernel), List.mem_of_getElem? (i := 496) (by decide +kernel), List.mem_of_getElem? (i := 497) (by decide +kernel)⟩
theorem lw_p27 : lw_okq (⟨"EggHouse", "sellTo", "(I)I"⟩, 11) := ⟨⟨by decide +kernel, by decide +kernel⟩, List.mem_of_getElem? (i := 18) (by decide +kernel), List.mem_of_getElem? (i := 504) (by decide +kernel), List.mem_of_getElem? (i := 505) (by decide +kernel)⟩
theorem lw_p28 : lw_okq (⟨"EggHouse", "packsSold", "()I"⟩, 11) := ⟨⟨by decide +kernel, by decide +kernel⟩, List.mem_of_getElem? (i := 18) (by decide +kernel), List.mem_of_getElem? (i := 532) (by decide +kernel), List.mem_of_getElem? (i := 533) (by decide +kernel)⟩
theorem lw_p29 : lw_okq (⟨"EggHouse", "packsHeld", "()I"⟩, 11) := ⟨⟨by decide +kernel, by decide +kernel⟩, List.mem_of_getElem? (i := 18) (by decide +kernel), List.mem_of_getElem? (i := 536) (by decide +kernel), List.mem_of_getElem? (i := 537) (by decide +kernel)⟩
theorem lw_p30 : lw_okq (⟨"EggHouseModel", "oneTick", "()V"⟩, 38) := ⟨⟨by decide +kernel, by decide +kernel⟩, List.mem_of_getElem? (i := 544) (by decide +kernel), List.mem_of_getElem? (i := 677) (by decide +kernel), List.mem_of_getElem? (i := 678) (by decide +kernel)⟩
theorem lw_p31 : lw_okq (⟨"EggHouseModel", "looks", "()V"⟩, 38) := ⟨⟨by decide +kernel, by decide +kernel⟩, List.mem_of_getElem? (i := 544) (by decide +kernel), List.mem_of_getElem? (i := 681) (by decide +kernel), List.mem_of_getElem? (i := 682) (by decide +kernel)⟩
def lw_privs_2 : List (MethodName × Nat) := [(⟨"EggHouse", "bringWashed", "()V"⟩, 11), (⟨"java/util/ArrayList", "fastRemove", "([Ljava/lang/Object;I)V"⟩, 3), (⟨"EggHouse", "feedLine", "()V"⟩, 11), (⟨"EggHouse", "eggsOnLine", "()I"⟩, 11), (⟨"EggHouse", "eggsInTrays", "()I"⟩, 11), (⟨"EggHouse", "isPack", "(I)Z"⟩, 11), (⟨"EggHouse", "bestSet", "()I"⟩, 11), (⟨"EggHouse", "freeByGrade", "()[I"⟩, 11), (⟨"EggHouse", "worthOf", "(I)I"⟩, 11), (⟨"EggHouse", "canServe", "(I[I)Z"⟩, 11), (⟨"EggHouse", "wantedOf", "(II)I"⟩, 11), (⟨"EggHouse", "sellTo", "(I)I"⟩, 11), (⟨"EggHouse", "packsSold", "()I"⟩, 11), (⟨"EggHouse", "packsHeld", "()I"⟩, 11), (⟨"EggHouseModel", "oneTick", "()V"⟩, 38), (⟨"EggHouseModel", "looks", "()V"⟩, 38)]
theorem lw_r2 : ∀ q ∈ lw_privs_2, lw_okq q := List.forall_mem_cons.mpr ⟨lw_p16, List.forall_mem_cons.mpr ⟨lw_p17, List.forall_mem_cons.mpr ⟨lw_p18, List.forall_mem_cons.mpr ⟨lw_p19, List.forall_mem_cons.mpr ⟨lw_p20, List.forall_mem_cons.mpr ⟨lw_p21, List.forall_mem_cons.mpr ⟨lw_p22, List.forall_mem_cons.mpr ⟨lw_p23, List.forall_mem_cons.mpr ⟨lw_p24, List.forall_mem_cons.mpr ⟨lw_p25, List.forall_mem_cons.mpr ⟨lw_p26, List.forall_mem_cons.mpr ⟨lw_p27, List.forall_mem_cons.mpr ⟨lw_p28, List.forall_mem_cons.mpr ⟨lw_p29, List.forall_mem_cons.mpr ⟨lw_p30, List.forall_mem_cons.mpr ⟨lw_p31, fun _ h => absurd h List.not_mem_nil⟩⟩⟩⟩⟩⟩⟩⟩⟩⟩⟩⟩⟩⟩⟩⟩
theorem lw_p32 : lw_okq (⟨"EggHouseModel", "whereTo", "(I)I"⟩, 38) := ⟨⟨by decide +kernel, by decide +kernel⟩, List.mem_of_getElem? (i := 544) (by decide +kernel), List.mem_of_getElem? (i := 685) (by decide +kernel), List.mem_of_getElem? (i := 686) (by decide +kernel)⟩
theorem lw_p33 : lw_okq (⟨"EggHouseModel", "takes", "(I)V"⟩, 38) := ⟨⟨by decide +kernel, by decide +kernel⟩, List.mem_of_getElem? (i := 544) (by decide +kernel), List.mem_of_getElem? (i := 695) (by decide +kernel), List.mem_of_getElem? (i := 696) (by decide +kernel)⟩
theorem lw_p34 : lw_okq (⟨"EggHouseModel", "packs", "(I)V"⟩, 38) := ⟨⟨by decide +kernel, by decide +kernel⟩, List.mem_of_getElem? (i := 544) (by decide +kernel), List.mem_of_getElem? (i := 702) (by decide +kernel), List.mem_of_getElem? (i := 703) (by decide +kernel)⟩
theorem lw_p35 : lw_okq (⟨"EggHouseModel", "dries", "()V"⟩, 38) := ⟨⟨by decide +kernel, by decide +kernel⟩, List.mem_of_getElem? (i := 544) (by decide +kernel), List.mem_of_getElem? (i := 706) (by decide +kernel), List.mem_of_getElem? (i := 707) (by decide +kernel)⟩
theorem lw_p36 : lw_okq (⟨"EggHouseModel", "allBarns", "(I)I"⟩, 38) := ⟨⟨by decide +kernel, by decide +kernel⟩, List.mem_of_getElem? (i := 544) (by decide +kernel), List.mem_of_getElem? (i := 737) (by decide +kernel), List.mem_of_getElem? (i := 738) (by decide +kernel)⟩
theorem lw_p37 : lw_okq (⟨"EggHouseModel", "isPack", "(I)Z"⟩, 38) := ⟨⟨by decide +kernel, by decide +kernel⟩, List.mem_of_getElem? (i := 544) (by decide +kernel), List.mem_of_getElem? (i := 749) (by decide +kernel), List.mem_of_getElem? (i := 750) (by decide +kernel)⟩
theorem lw_p38 : lw_okq (⟨"EggHouseModel", "freeOf", "(I)I"⟩, 38) := ⟨⟨by decide +kernel, by decide +kernel⟩, List.mem_of_getElem? (i := 544) (by decide +kernel), List.mem_of_getElem? (i := 757) (by decide +kernel), List.mem_of_getElem? (i := 758) (by decide +kernel)⟩
theorem lw_p39 : lw_okq (⟨"EggHouseModel", "isFree", "(I)Z"⟩, 38) := ⟨⟨by decide +kernel, by decide +kernel⟩, List.mem_of_getElem? (i := 544) (by decide +kernel), List.mem_of_getElem? (i := 761) (by decide +kernel), List.mem_of_getElem? (i := 762) (by decide +kernel)⟩
theorem lw_p40 : lw_okq (⟨"EggHouseModel", "bestSet", "()I"⟩, 38) := ⟨⟨by decide +kernel, by decide +kernel⟩, List.mem_of_getElem? (i := 544) (by decide +kernel), List.mem_of_getElem? (i := 773) (by decide +kernel), List.mem_of_getElem? (i := 774) (by decide +kernel)⟩
theorem lw_p41 : lw_okq (⟨"EggHouseModel", "canServe", "(I)Z"⟩, 38) := ⟨⟨by decide +kernel, by decide +kernel⟩, List.mem_of_getElem? (i := 544) (by decide +kernel), List.mem_of_getElem? (i := 777) (by decide +kernel), List.mem_of_getElem? (i := 778) (by decide +kernel)⟩
theorem lw_p42 : lw_okq (⟨"EggHouseModel", "worthOf", "(I)I"⟩, 38) := ⟨⟨by decide +kernel, by decide +kernel⟩, List.mem_of_getElem? (i := 544) (by decide +kernel), List.mem_of_getElem? (i := 781) (by decide +kernel), List.mem_of_getElem? (i := 782) (by decide +kernel)⟩
theorem lw_p43 : lw_okq (⟨"EggHouseModel", "doubts", "(IIIZ)I"⟩, 38) := ⟨⟨by decide +kernel, by decide +kernel⟩, List.mem_of_getElem? (i := 544) (by decide +kernel), List.mem_of_getElem? (i := 797) (by decide +kernel), List.mem_of_getElem? (i := 798) (by decide +kernel)⟩
def lw_privs_3 : List (MethodName × Nat) := [(⟨"EggHouseModel", "whereTo", "(I)I"⟩, 38), (⟨"EggHouseModel", "takes", "(I)V"⟩, 38), (⟨"EggHouseModel", "packs", "(I)V"⟩, 38), (⟨"EggHouseModel", "dries", "()V"⟩, 38), (⟨"EggHouseModel", "allBarns", "(I)I"⟩, 38), (⟨"EggHouseModel", "isPack", "(I)Z"⟩, 38), (⟨"EggHouseModel", "freeOf", "(I)I"⟩, 38), (⟨"EggHouseModel", "isFree", "(I)Z"⟩, 38), (⟨"EggHouseModel", "bestSet", "()I"⟩, 38), (⟨"EggHouseModel", "canServe", "(I)Z"⟩, 38), (⟨"EggHouseModel", "worthOf", "(I)I"⟩, 38), (⟨"EggHouseModel", "doubts", "(IIIZ)I"⟩, 38)]
theorem lw_r3 : ∀ q ∈ lw_privs_3, lw_okq q := List.forall_mem_cons.mpr ⟨lw_p32, List.forall_mem_cons.mpr ⟨lw_p33, List.forall_mem_cons.mpr ⟨lw_p34, List.forall_mem_cons.mpr ⟨lw_p35, List.forall_mem_cons.mpr ⟨lw_p36, List.forall_mem_cons.mpr ⟨lw_p37, List.forall_mem_cons.mpr ⟨lw_p38, List.forall_mem_cons.mpr ⟨lw_p39, List.forall_mem_cons.mpr ⟨lw_p40, List.forall_mem_cons.mpr ⟨lw_p41, List.forall_mem_cons.mpr ⟨lw_p42, List.forall_mem_cons.mpr ⟨lw_p43, fun _ h => absurd h List.not_mem_nil⟩⟩⟩⟩⟩⟩⟩⟩⟩⟩⟩⟩
def lw_privs : List (MethodName × Nat) := lw_privs_1 ++ (lw_privs_2 ++ (lw_privs_3))
def lw_tbl : List Cond := k2_sels lw_privs ++ tables_1
theorem lw_privs_ok : ∀ q ∈ lw_privs, lw_okq q := by
  show ∀ q ∈ lw_privs_1 ++ (lw_privs_2 ++ (lw_privs_3)), lw_okq q
  exact List.forall_mem_append.mpr ⟨lw_r1, List.forall_mem_append.mpr ⟨lw_r2, lw_r3⟩⟩
-- ===== end of PART A; then your names; then what follows =====
def RX0 : String := "EggHouse$Egg"
def TX0 : u_T := fun k => match k with
  | 0 => ("EggHouse$Egg", "number", "I", true)
  | 1 => ("EggHouse$Egg", "barn", "I", true)
  | 2 => ("EggHouse$Egg", "weight", "I", true)
  | 3 => ("EggHouse$Egg", "taps", "I", true)
  | 4 => ("EggHouse$Egg", "blood", "I", true)
  | 5 => ("EggHouse$Egg", "dirt", "I", false)
  | 6 => ("EggHouse$Egg", "scaleTold", "I", false)
  | 7 => ("EggHouse$Egg", "weighedAt", "I", false)
  | _ => ("EggHouse$Egg", "washedAt", "I", false)
def tyX0 : Nat → FieldType := fun k => match k with
  | 0 => .int
  | 1 => .int
  | 2 => .int
  | 3 => .int
  | 4 => .int
  | 5 => .int
  | 6 => .int
  | 7 => .int
  | _ => .int
abbrev wsX00 : List Cond := u_ws RX0 TX0 9
theorem nmX0 : ∀ a, a < 9 → ∀ b, b < 9 → a ≠ b → (TX0 a).2.1 ≠ (TX0 b).2.1 := by decide +kernel
theorem tyX0_ok : ∀ k, k < 9 → parseFieldDescriptor (TX0 k).2.2.1 = some (tyX0 k) := by decide +kernel
abbrev cX0_init : ByteArray := prog_2_method_1_code
def yX0_init : MethodName := ⟨RX0, "<init>", "(IIIIII)V"⟩
def RX1 : String := "EggHouse$Order"
def TX1 : u_T := fun k => match k with
  | 0 => ("EggHouse$Order", "grade", "I", true)
  | 1 => ("EggHouse$Order", "wanted", "I", true)
  | 2 => ("EggHouse$Order", "worth", "I", true)
  | _ => ("EggHouse$Order", "served", "Z", false)
def tyX1 : Nat → FieldType := fun k => match k with
  | 0 => .int
  | 1 => .int
  | 2 => .int
  | _ => .boolean
abbrev wsX10 : List Cond := u_ws RX1 TX1 4
theorem nmX1 : ∀ a, a < 4 → ∀ b, b < 4 → a ≠ b → (TX1 a).2.1 ≠ (TX1 b).2.1 := by decide +kernel
theorem tyX1_ok : ∀ k, k < 4 → parseFieldDescriptor (TX1 k).2.2.1 = some (tyX1 k) := by decide +kernel
abbrev cX1_init : ByteArray := prog_3_method_1_code
def yX1_init : MethodName := ⟨RX1, "<init>", "(III)V"⟩
def RX2 : String := "EggHouse$Pack"
def TX2 : u_T := fun k => match k with
  | 0 => ("EggHouse$Pack", "grade", "I", false)
  | 1 => ("EggHouse$Pack", "eggs", "I", false)
  | 2 => ("EggHouse$Pack", "barns", "I", false)
  | 3 => ("EggHouse$Pack", "firstTick", "I", false)
  | 4 => ("EggHouse$Pack", "lastTick", "I", false)
  | 5 => ("EggHouse$Pack", "weights", "I", false)
  | 6 => ("EggHouse$Pack", "scaleTolds", "I", false)
  | 7 => ("EggHouse$Pack", "soldTo", "I", false)
  | _ => ("EggHouse$Pack", "held", "Z", false)
def tyX2 : Nat → FieldType := fun k => match k with
  | 0 => .int
  | 1 => .int
  | 2 => .int
  | 3 => .int
  | 4 => .int
  | 5 => .int
  | 6 => .int
  | 7 => .int
  | _ => .boolean
abbrev wsX20 : List Cond := u_ws RX2 TX2 9
theorem nmX2 : ∀ a, a < 9 → ∀ b, b < 9 → a ≠ b → (TX2 a).2.1 ≠ (TX2 b).2.1 := by decide +kernel
theorem tyX2_ok : ∀ k, k < 9 → parseFieldDescriptor (TX2 k).2.2.1 = some (tyX2 k) := by decide +kernel
abbrev cX2_init : ByteArray := prog_4_method_1_code
def yX2_init : MethodName := ⟨RX2, "<init>", "()V"⟩
abbrev cX2_lay : ByteArray := prog_4_method_2_code
def yX2_lay : MethodName := ⟨RX2, "lay", "(LEggHouse$Egg;)V"⟩
abbrev cX2_isFreeOf : ByteArray := prog_4_method_3_code
def yX2_isFreeOf : MethodName := ⟨RX2, "isFreeOf", "(I)Z"⟩
abbrev cX2_holdIf : ByteArray := prog_4_method_4_code
def yX2_holdIf : MethodName := ⟨RX2, "holdIf", "(Z)V"⟩
def RX3 : String := "EggHouse$Packer"
def TX3 : u_T := fun k => match k with
  | 0 => ("EggHouse$Packer", "place", "I", true)
  | 1 => ("EggHouse$Packer", "grade", "I", false)
  | 2 => ("EggHouse$Packer", "isOn", "Z", false)
  | 3 => ("EggHouse$Packer", "busy", "I", false)
  | _ => ("EggHouse$Packer", "tray", "LEggHouse$Pack;", false)
def tyX3 : Nat → FieldType := fun k => match k with
  | 0 => .int
  | 1 => .int
  | 2 => .boolean
  | 3 => .int
  | _ => .object "EggHouse$Pack"
abbrev wsX30 : List Cond := u_ws RX3 TX3 5
theorem nmX3 : ∀ a, a < 5 → ∀ b, b < 5 → a ≠ b → (TX3 a).2.1 ≠ (TX3 b).2.1 := by decide +kernel
theorem tyX3_ok : ∀ k, k < 5 → parseFieldDescriptor (TX3 k).2.2.1 = some (tyX3 k) := by decide +kernel
abbrev cX3_init : ByteArray := prog_5_method_1_code
def yX3_init : MethodName := ⟨RX3, "<init>", "(II)V"⟩
def RX4 : String := "EggHouse"
def TX4 : u_T := fun k => match k with
  | 0 => ("EggHouse", "queue", "Ljava/util/ArrayList;", true)
  | 1 => ("EggHouse", "wash", "Ljava/util/ArrayList;", true)
  | 2 => ("EggHouse", "line", "[LEggHouse$Egg;", true)
  | 3 => ("EggHouse", "packers", "[LEggHouse$Packer;", true)
  | 4 => ("EggHouse", "packs", "Ljava/util/ArrayList;", true)
  | 5 => ("EggHouse", "orders", "Ljava/util/ArrayList;", true)
  | 6 => ("EggHouse", "byBarn", "[[I", true)
  | 7 => ("EggHouse", "tickNumber", "I", false)
  | 8 => ("EggHouse", "driftNow", "I", false)
  | 9 => ("EggHouse", "washedEver", "I", false)
  | _ => ("EggHouse", "traceSum", "J", false)
def tyX4 : Nat → FieldType := fun k => match k with
  | 0 => .object "java/util/ArrayList"
  | 1 => .object "java/util/ArrayList"
  | 2 => .array (.object "EggHouse$Egg")
  | 3 => .array (.object "EggHouse$Packer")
  | 4 => .object "java/util/ArrayList"
  | 5 => .object "java/util/ArrayList"
  | 6 => .array (.array .int)
  | 7 => .int
  | 8 => .int
  | 9 => .int
  | _ => .long
abbrev wsX40 : List Cond := u_ws RX4 TX4 11
theorem nmX4 : ∀ a, a < 11 → ∀ b, b < 11 → a ≠ b → (TX4 a).2.1 ≠ (TX4 b).2.1 := by decide +kernel
theorem tyX4_ok : ∀ k, k < 11 → parseFieldDescriptor (TX4 k).2.2.1 = some (tyX4 k) := by decide +kernel
abbrev cX4_init : ByteArray := prog_1_method_1_code
def yX4_init : MethodName := ⟨RX4, "<init>", "()V"⟩
abbrev cX4_egg : ByteArray := prog_1_method_2_code
def yX4_egg : MethodName := ⟨RX4, "egg", "(IIIII)I"⟩
abbrev cX4_tick : ByteArray := prog_1_method_3_code
def yX4_tick : MethodName := ⟨RX4, "tick", "(I)I"⟩
abbrev cX4_drift : ByteArray := prog_1_method_4_code
def yX4_drift : MethodName := ⟨RX4, "drift", "(I)I"⟩
abbrev cX4_grade : ByteArray := prog_1_method_5_code
def yX4_grade : MethodName := ⟨RX4, "grade", "(II)I"⟩
abbrev cX4_on : ByteArray := prog_1_method_6_code
def yX4_on : MethodName := ⟨RX4, "on", "(IZ)I"⟩
abbrev cX4_at : ByteArray := prog_1_method_7_code
def yX4_at : MethodName := ⟨RX4, "at", "(II)I"⟩
abbrev cX4_packer : ByteArray := prog_1_method_8_code
def yX4_packer : MethodName := ⟨RX4, "packer", "(II)I"⟩
abbrev cX4_count : ByteArray := prog_1_method_9_code
def yX4_count : MethodName := ⟨RX4, "count", "(I)I"⟩
abbrev cX4_barn : ByteArray := prog_1_method_10_code
def yX4_barn : MethodName := ⟨RX4, "barn", "(II)I"⟩
abbrev cX4_pack : ByteArray := prog_1_method_11_code
def yX4_pack : MethodName := ⟨RX4, "pack", "(II)I"⟩
abbrev cX4_free : ByteArray := prog_1_method_12_code
def yX4_free : MethodName := ⟨RX4, "free", "(I)I"⟩
abbrev cX4_order : ByteArray := prog_1_method_13_code
def yX4_order : MethodName := ⟨RX4, "order", "(III)I"⟩
abbrev cX4_best : ByteArray := prog_1_method_14_code
def yX4_best : MethodName := ⟨RX4, "best", "(I)I"⟩
abbrev cX4_serve : ByteArray := prog_1_method_15_code
def yX4_serve : MethodName := ⟨RX4, "serve", "()I"⟩
abbrev cX4_about : ByteArray := prog_1_method_16_code
def yX4_about : MethodName := ⟨RX4, "about", "(II)I"⟩
abbrev cX4_doubt : ByteArray := prog_1_method_17_code
def yX4_doubt : MethodName := ⟨RX4, "doubt", "(IZ)I"⟩
abbrev cX4_hours : ByteArray := prog_1_method_18_code
def yX4_hours : MethodName := ⟨RX4, "hours", "(IIZ)I"⟩
abbrev cX4_clear : ByteArray := prog_1_method_19_code
def yX4_clear : MethodName := ⟨RX4, "clear", "(I)I"⟩
abbrev cX4_told : ByteArray := prog_1_method_20_code
def yX4_told : MethodName := ⟨RX4, "told", "(I)I"⟩
abbrev cX4_trace : ByteArray := prog_1_method_21_code
def yX4_trace : MethodName := ⟨RX4, "trace", "()J"⟩
abbrev cX4_passOneTick : ByteArray := prog_1_method_22_code
def yX4_passOneTick : MethodName := ⟨RX4, "passOneTick", "()V"⟩
abbrev cX4_moveLine : ByteArray := prog_1_method_23_code
def yX4_moveLine : MethodName := ⟨RX4, "moveLine", "()V"⟩
abbrev cX4_weigh : ByteArray := prog_1_method_24_code
def yX4_weigh : MethodName := ⟨RX4, "weigh", "()V"⟩
abbrev cX4_look : ByteArray := prog_1_method_25_code
def yX4_look : MethodName := ⟨RX4, "look", "()V"⟩
abbrev cX4_askCracked : ByteArray := prog_1_method_26_code
def yX4_askCracked : MethodName := ⟨RX4, "askCracked", "(LEggHouse$Egg;)I"⟩
abbrev cX4_askBloody : ByteArray := prog_1_method_27_code
def yX4_askBloody : MethodName := ⟨RX4, "askBloody", "(LEggHouse$Egg;)I"⟩
abbrev cX4_askDirty : ByteArray := prog_1_method_28_code
def yX4_askDirty : MethodName := ⟨RX4, "askDirty", "(LEggHouse$Egg;)I"⟩
abbrev cX4_askSound : ByteArray := prog_1_method_29_code
def yX4_askSound : MethodName := ⟨RX4, "askSound", "()I"⟩
abbrev cX4_startWash : ByteArray := prog_1_method_30_code
def yX4_startWash : MethodName := ⟨RX4, "startWash", "(LEggHouse$Egg;)V"⟩
abbrev cX4_letTake : ByteArray := prog_1_method_31_code
def yX4_letTake : MethodName := ⟨RX4, "letTake", "(LEggHouse$Packer;)V"⟩
abbrev cX4_takes : ByteArray := prog_1_method_32_code
def yX4_takes : MethodName := ⟨RX4, "takes", "(LEggHouse$Packer;LEggHouse$Egg;)Z"⟩
abbrev cX4_closeTray : ByteArray := prog_1_method_33_code
def yX4_closeTray : MethodName := ⟨RX4, "closeTray", "(LEggHouse$Packer;)V"⟩
abbrev cX4_bringWashed : ByteArray := prog_1_method_34_code
def yX4_bringWashed : MethodName := ⟨RX4, "bringWashed", "()V"⟩
abbrev cX4_feedLine : ByteArray := prog_1_method_35_code
def yX4_feedLine : MethodName := ⟨RX4, "feedLine", "()V"⟩
abbrev cX4_bestSet : ByteArray := prog_1_method_36_code
def yX4_bestSet : MethodName := ⟨RX4, "bestSet", "()I"⟩
abbrev cX4_freeByGrade : ByteArray := prog_1_method_37_code
def yX4_freeByGrade : MethodName := ⟨RX4, "freeByGrade", "()[I"⟩
abbrev cX4_worthOf : ByteArray := prog_1_method_38_code
def yX4_worthOf : MethodName := ⟨RX4, "worthOf", "(I)I"⟩
abbrev cX4_canServe : ByteArray := prog_1_method_39_code
def yX4_canServe : MethodName := ⟨RX4, "canServe", "(I[I)Z"⟩
abbrev cX4_wantedOf : ByteArray := prog_1_method_40_code
def yX4_wantedOf : MethodName := ⟨RX4, "wantedOf", "(II)I"⟩
abbrev cX4_sellTo : ByteArray := prog_1_method_41_code
def yX4_sellTo : MethodName := ⟨RX4, "sellTo", "(I)I"⟩
abbrev cX4_ofAllBarns : ByteArray := prog_1_method_42_code
def yX4_ofAllBarns : MethodName := ⟨RX4, "ofAllBarns", "(I)I"⟩
abbrev cX4_eggsOnLine : ByteArray := prog_1_method_43_code
def yX4_eggsOnLine : MethodName := ⟨RX4, "eggsOnLine", "()I"⟩
abbrev cX4_eggsInTrays : ByteArray := prog_1_method_44_code
def yX4_eggsInTrays : MethodName := ⟨RX4, "eggsInTrays", "()I"⟩
abbrev cX4_packsSold : ByteArray := prog_1_method_45_code
def yX4_packsSold : MethodName := ⟨RX4, "packsSold", "()I"⟩
abbrev cX4_packsHeld : ByteArray := prog_1_method_46_code
def yX4_packsHeld : MethodName := ⟨RX4, "packsHeld", "()I"⟩
abbrev cX4_isWithin : ByteArray := prog_1_method_47_code
def yX4_isWithin : MethodName := ⟨RX4, "isWithin", "(III)Z"⟩
abbrev cX4_isBarn : ByteArray := prog_1_method_48_code
def yX4_isBarn : MethodName := ⟨RX4, "isBarn", "(I)Z"⟩
abbrev cX4_isGrade : ByteArray := prog_1_method_49_code
def yX4_isGrade : MethodName := ⟨RX4, "isGrade", "(I)Z"⟩
abbrev cX4_isPacker : ByteArray := prog_1_method_50_code
def yX4_isPacker : MethodName := ⟨RX4, "isPacker", "(I)Z"⟩
abbrev cX4_isPack : ByteArray := prog_1_method_51_code
def yX4_isPack : MethodName := ⟨RX4, "isPack", "(I)Z"⟩
abbrev cX4_hasBit : ByteArray := prog_1_method_52_code
def yX4_hasBit : MethodName := ⟨RX4, "hasBit", "(II)Z"⟩
abbrev cX4_asNumber : ByteArray := prog_1_method_53_code
def yX4_asNumber : MethodName := ⟨RX4, "asNumber", "(Z)I"⟩
abbrev cX4_gradeOf : ByteArray := prog_1_method_54_code
def yX4_gradeOf : MethodName := ⟨RX4, "gradeOf", "(I)I"⟩
def RX5 : String := "EggHouseModel"
def TX5 : u_T := fun k => match k with
  | 0 => ("EggHouseModel", "eggs", "I", false)
  | 1 => ("EggHouseModel", "barn", "[I", true)
  | 2 => ("EggHouseModel", "weight", "[I", true)
  | 3 => ("EggHouseModel", "taps", "[I", true)
  | 4 => ("EggHouseModel", "blood", "[I", true)
  | 5 => ("EggHouseModel", "dirt", "[I", true)
  | 6 => ("EggHouseModel", "told", "[I", true)
  | 7 => ("EggHouseModel", "weighed", "[I", true)
  | 8 => ("EggHouseModel", "queued", "I", false)
  | 9 => ("EggHouseModel", "queue", "[I", true)
  | 10 => ("EggHouseModel", "line", "[I", true)
  | 11 => ("EggHouseModel", "washing", "I", false)
  | 12 => ("EggHouseModel", "wash", "[I", true)
  | 13 => ("EggHouseModel", "comesIn", "[I", true)
  | 14 => ("EggHouseModel", "washed", "I", false)
  | 15 => ("EggHouseModel", "ofBarn", "[I", true)
  | 16 => ("EggHouseModel", "gradeOf", "[I", true)
  | 17 => ("EggHouseModel", "isOff", "[Z", true)
  | 18 => ("EggHouseModel", "busy", "[I", true)
  | 19 => ("EggHouseModel", "trayed", "[I", true)
  | 20 => ("EggHouseModel", "tray", "[I", true)
  | 21 => ("EggHouseModel", "packs", "I", false)
  | 22 => ("EggHouseModel", "packGrade", "[I", true)
  | 23 => ("EggHouseModel", "packBarns", "[I", true)
  | 24 => ("EggHouseModel", "packFirst", "[I", true)
  | 25 => ("EggHouseModel", "packLast", "[I", true)
  | 26 => ("EggHouseModel", "packWeight", "[I", true)
  | 27 => ("EggHouseModel", "packTold", "[I", true)
  | 28 => ("EggHouseModel", "soldTo", "[I", true)
  | 29 => ("EggHouseModel", "isHeld", "[Z", true)
  | 30 => ("EggHouseModel", "orders", "I", false)
  | 31 => ("EggHouseModel", "orderGrade", "[I", true)
  | 32 => ("EggHouseModel", "orderMany", "[I", true)
  | 33 => ("EggHouseModel", "orderWorth", "[I", true)
  | 34 => ("EggHouseModel", "isServed", "[Z", true)
  | 35 => ("EggHouseModel", "now", "I", false)
  | 36 => ("EggHouseModel", "drift", "I", false)
  | _ => ("EggHouseModel", "trace", "J", false)
def tyX5 : Nat → FieldType := fun k => match k with
  | 0 => .int
  | 1 => .array .int
  | 2 => .array .int
  | 3 => .array .int
  | 4 => .array .int
  | 5 => .array .int
  | 6 => .array .int
  | 7 => .array .int
  | 8 => .int
  | 9 => .array .int
  | 10 => .array .int
  | 11 => .int
  | 12 => .array .int
  | 13 => .array .int
  | 14 => .int
  | 15 => .array .int
  | 16 => .array .int
  | 17 => .array .boolean
  | 18 => .array .int
  | 19 => .array .int
  | 20 => .array .int
  | 21 => .int
  | 22 => .array .int
  | 23 => .array .int
  | 24 => .array .int
  | 25 => .array .int
  | 26 => .array .int
  | 27 => .array .int
  | 28 => .array .int
  | 29 => .array .boolean
  | 30 => .int
  | 31 => .array .int
  | 32 => .array .int
  | 33 => .array .int
  | 34 => .array .boolean
  | 35 => .int
  | 36 => .int
  | _ => .long
abbrev wsX50 : List Cond := u_ws RX5 TX5 38
theorem nmX5 : ∀ a, a < 38 → ∀ b, b < 38 → a ≠ b → (TX5 a).2.1 ≠ (TX5 b).2.1 := by decide +kernel
theorem tyX5_ok : ∀ k, k < 38 → parseFieldDescriptor (TX5 k).2.2.1 = some (tyX5 k) := by decide +kernel
abbrev cX5_init : ByteArray := prog_7_method_1_code
def yX5_init : MethodName := ⟨RX5, "<init>", "()V"⟩
abbrev cX5_in : ByteArray := prog_7_method_3_code
def yX5_in : MethodName := ⟨RX5, "in", "(III)Z"⟩
abbrev cX5_egg : ByteArray := prog_7_method_4_code
def yX5_egg : MethodName := ⟨RX5, "egg", "(IIIII)I"⟩
abbrev cX5_gradeBy : ByteArray := prog_7_method_5_code
def yX5_gradeBy : MethodName := ⟨RX5, "gradeBy", "(I)I"⟩
abbrev cX5_dull : ByteArray := prog_7_method_6_code
def yX5_dull : MethodName := ⟨RX5, "dull", "(I)I"⟩
abbrev cX5_whereTo : ByteArray := prog_7_method_7_code
def yX5_whereTo : MethodName := ⟨RX5, "whereTo", "(I)I"⟩
abbrev cX5_looks : ByteArray := prog_7_method_8_code
def yX5_looks : MethodName := ⟨RX5, "looks", "()V"⟩
abbrev cX5_packs : ByteArray := prog_7_method_9_code
def yX5_packs : MethodName := ⟨RX5, "packs", "(I)V"⟩
abbrev cX5_takes : ByteArray := prog_7_method_10_code
def yX5_takes : MethodName := ⟨RX5, "takes", "(I)V"⟩
abbrev cX5_dries : ByteArray := prog_7_method_11_code
def yX5_dries : MethodName := ⟨RX5, "dries", "()V"⟩
abbrev cX5_oneTick : ByteArray := prog_7_method_12_code
def yX5_oneTick : MethodName := ⟨RX5, "oneTick", "()V"⟩
abbrev cX5_tick : ByteArray := prog_7_method_13_code
def yX5_tick : MethodName := ⟨RX5, "tick", "(I)I"⟩
abbrev cX5_drift : ByteArray := prog_7_method_14_code
def yX5_drift : MethodName := ⟨RX5, "drift", "(I)I"⟩
abbrev cX5_isPacker : ByteArray := prog_7_method_15_code
def yX5_isPacker : MethodName := ⟨RX5, "isPacker", "(I)Z"⟩
abbrev cX5_grade : ByteArray := prog_7_method_16_code
def yX5_grade : MethodName := ⟨RX5, "grade", "(II)I"⟩
abbrev cX5_on : ByteArray := prog_7_method_17_code
def yX5_on : MethodName := ⟨RX5, "on", "(IZ)I"⟩
abbrev cX5_at : ByteArray := prog_7_method_18_code
def yX5_at : MethodName := ⟨RX5, "at", "(II)I"⟩
abbrev cX5_packer : ByteArray := prog_7_method_19_code
def yX5_packer : MethodName := ⟨RX5, "packer", "(II)I"⟩
abbrev cX5_allBarns : ByteArray := prog_7_method_20_code
def yX5_allBarns : MethodName := ⟨RX5, "allBarns", "(I)I"⟩
abbrev cX5_count : ByteArray := prog_7_method_21_code
def yX5_count : MethodName := ⟨RX5, "count", "(I)I"⟩
abbrev cX5_barn : ByteArray := prog_7_method_22_code
def yX5_barn : MethodName := ⟨RX5, "barn", "(II)I"⟩
abbrev cX5_isPack : ByteArray := prog_7_method_23_code
def yX5_isPack : MethodName := ⟨RX5, "isPack", "(I)Z"⟩
abbrev cX5_pack : ByteArray := prog_7_method_24_code
def yX5_pack : MethodName := ⟨RX5, "pack", "(II)I"⟩
abbrev cX5_isFree : ByteArray := prog_7_method_25_code
def yX5_isFree : MethodName := ⟨RX5, "isFree", "(I)Z"⟩
abbrev cX5_freeOf : ByteArray := prog_7_method_26_code
def yX5_freeOf : MethodName := ⟨RX5, "freeOf", "(I)I"⟩
abbrev cX5_free : ByteArray := prog_7_method_27_code
def yX5_free : MethodName := ⟨RX5, "free", "(I)I"⟩
abbrev cX5_order : ByteArray := prog_7_method_28_code
def yX5_order : MethodName := ⟨RX5, "order", "(III)I"⟩
abbrev cX5_worthOf : ByteArray := prog_7_method_29_code
def yX5_worthOf : MethodName := ⟨RX5, "worthOf", "(I)I"⟩
abbrev cX5_canServe : ByteArray := prog_7_method_30_code
def yX5_canServe : MethodName := ⟨RX5, "canServe", "(I)Z"⟩
abbrev cX5_bestSet : ByteArray := prog_7_method_31_code
def yX5_bestSet : MethodName := ⟨RX5, "bestSet", "()I"⟩
abbrev cX5_best : ByteArray := prog_7_method_32_code
def yX5_best : MethodName := ⟨RX5, "best", "(I)I"⟩
abbrev cX5_serve : ByteArray := prog_7_method_33_code
def yX5_serve : MethodName := ⟨RX5, "serve", "()I"⟩
abbrev cX5_about : ByteArray := prog_7_method_34_code
def yX5_about : MethodName := ⟨RX5, "about", "(II)I"⟩
abbrev cX5_doubts : ByteArray := prog_7_method_35_code
def yX5_doubts : MethodName := ⟨RX5, "doubts", "(IIIZ)I"⟩
abbrev cX5_doubt : ByteArray := prog_7_method_36_code
def yX5_doubt : MethodName := ⟨RX5, "doubt", "(IZ)I"⟩
abbrev cX5_hours : ByteArray := prog_7_method_37_code
def yX5_hours : MethodName := ⟨RX5, "hours", "(IIZ)I"⟩
abbrev cX5_clear : ByteArray := prog_7_method_38_code
def yX5_clear : MethodName := ⟨RX5, "clear", "(I)I"⟩
abbrev cX5_told : ByteArray := prog_7_method_39_code
def yX5_told : MethodName := ⟨RX5, "told", "(I)I"⟩
abbrev cX5_trace : ByteArray := prog_7_method_40_code
def yX5_trace : MethodName := ⟨RX5, "trace", "()J"⟩
def RJx145de : String := "java/io/Serializable"
def TJx145de : u_T := fun k => match k with
  | _ => ("", "", "", false)
def tyJx145de : Nat → FieldType := fun k => match k with
  | _ => .int
abbrev wsJx145de0 : List Cond := u_ws RJx145de TJx145de 0
theorem nmJx145de : ∀ a, a < 0 → ∀ b, b < 0 → a ≠ b → (TJx145de a).2.1 ≠ (TJx145de b).2.1 := by decide +kernel
theorem tyJx145de_ok : ∀ k, k < 0 → parseFieldDescriptor (TJx145de k).2.2.1 = some (tyJx145de k) := by decide +kernel
def RJx8e188 : String := "java/lang/Cloneable"
def TJx8e188 : u_T := fun k => match k with
  | _ => ("", "", "", false)
def tyJx8e188 : Nat → FieldType := fun k => match k with
  | _ => .int
abbrev wsJx8e1880 : List Cond := u_ws RJx8e188 TJx8e188 0
theorem nmJx8e188 : ∀ a, a < 0 → ∀ b, b < 0 → a ≠ b → (TJx8e188 a).2.1 ≠ (TJx8e188 b).2.1 := by decide +kernel
theorem tyJx8e188_ok : ∀ k, k < 0 → parseFieldDescriptor (TJx8e188 k).2.2.1 = some (tyJx8e188 k) := by decide +kernel
def RJ6 : String := "java/lang/Integer"
def TJ6 : u_T := fun k => match k with
  | _ => ("", "", "", false)
def tyJ6 : Nat → FieldType := fun k => match k with
  | _ => .int
abbrev wsJ60 : List Cond := u_ws RJ6 TJ6 0
theorem nmJ6 : ∀ a, a < 0 → ∀ b, b < 0 → a ≠ b → (TJ6 a).2.1 ≠ (TJ6 b).2.1 := by decide +kernel
theorem tyJ6_ok : ∀ k, k < 0 → parseFieldDescriptor (TJ6 k).2.2.1 = some (tyJ6 k) := by decide +kernel
abbrev cJ6_bitCount_0f7a4 : ByteArray := prog_10_method_49_code
def yJ6_bitCount_0f7a4 : MethodName := ⟨RJ6, "bitCount", "(I)I"⟩
def RJxab1ab : String := "java/lang/Iterable"
def TJxab1ab : u_T := fun k => match k with
  | _ => ("", "", "", false)
def tyJxab1ab : Nat → FieldType := fun k => match k with
  | _ => .int
abbrev wsJxab1ab0 : List Cond := u_ws RJxab1ab TJxab1ab 0
theorem nmJxab1ab : ∀ a, a < 0 → ∀ b, b < 0 → a ≠ b → (TJxab1ab a).2.1 ≠ (TJxab1ab b).2.1 := by decide +kernel
theorem tyJxab1ab_ok : ∀ k, k < 0 → parseFieldDescriptor (TJxab1ab k).2.2.1 = some (tyJxab1ab k) := by decide +kernel
def RJ9 : String := "java/lang/Math"
def TJ9 : u_T := fun k => match k with
  | _ => ("", "", "", false)
def tyJ9 : Nat → FieldType := fun k => match k with
  | _ => .int
abbrev wsJ90 : List Cond := u_ws RJ9 TJ9 0
theorem nmJ9 : ∀ a, a < 0 → ∀ b, b < 0 → a ≠ b → (TJ9 a).2.1 ≠ (TJ9 b).2.1 := by decide +kernel
theorem tyJ9_ok : ∀ k, k < 0 → parseFieldDescriptor (TJ9 k).2.2.1 = some (tyJ9 k) := by decide +kernel
abbrev cJ9_max_7cf53 : ByteArray := prog_12_method_65_code
def yJ9_max_7cf53 : MethodName := ⟨RJ9, "max", "(II)I"⟩
abbrev cJ9_min_7cf53 : ByteArray := prog_12_method_69_code
def yJ9_min_7cf53 : MethodName := ⟨RJ9, "min", "(II)I"⟩
def RJ10 : String := "java/lang/System"
def TJ10 : u_T := fun k => match k with
  | _ => ("", "", "", false)
def tyJ10 : Nat → FieldType := fun k => match k with
  | _ => .int
abbrev wsJ100 : List Cond := u_ws RJ10 TJ10 0
theorem nmJ10 : ∀ a, a < 0 → ∀ b, b < 0 → a ≠ b → (TJ10 a).2.1 ≠ (TJ10 b).2.1 := by decide +kernel
theorem tyJ10_ok : ∀ k, k < 0 → parseFieldDescriptor (TJ10 k).2.2.1 = some (tyJ10 k) := by decide +kernel
def RJxa1e45 : String := "java/util/AbstractCollection"
def TJxa1e45 : u_T := fun k => match k with
  | _ => ("", "", "", false)
def tyJxa1e45 : Nat → FieldType := fun k => match k with
  | _ => .int
abbrev wsJxa1e450 : List Cond := u_ws RJxa1e45 TJxa1e45 0
theorem nmJxa1e45 : ∀ a, a < 0 → ∀ b, b < 0 → a ≠ b → (TJxa1e45 a).2.1 ≠ (TJxa1e45 b).2.1 := by decide +kernel
theorem tyJxa1e45_ok : ∀ k, k < 0 → parseFieldDescriptor (TJxa1e45 k).2.2.1 = some (tyJxa1e45 k) := by decide +kernel
abbrev cJxa1e45_init_da8c8 : ByteArray := prog_14_method_1_code
def yJxa1e45_init_da8c8 : MethodName := ⟨RJxa1e45, "<init>", "()V"⟩
def RJxc12de : String := "java/util/AbstractList"
def TJxc12de : u_T := fun k => match k with
  | _ => ("", "", "", false)
def tyJxc12de : Nat → FieldType := fun k => match k with
  | _ => .int
abbrev wsJxc12de0 : List Cond := u_ws RJxc12de TJxc12de 0
theorem nmJxc12de : ∀ a, a < 0 → ∀ b, b < 0 → a ≠ b → (TJxc12de a).2.1 ≠ (TJxc12de b).2.1 := by decide +kernel
theorem tyJxc12de_ok : ∀ k, k < 0 → parseFieldDescriptor (TJxc12de k).2.2.1 = some (tyJxc12de k) := by decide +kernel
abbrev cJxc12de_init_da8c8 : ByteArray := prog_15_method_1_code
def yJxc12de_init_da8c8 : MethodName := ⟨RJxc12de, "<init>", "()V"⟩
def RJx4a65c : String := "java/util/ArrayList"
def TJx4a65c : u_T := fun k => match k with
  | 0 => ("java/util/AbstractList", "modCount", "I", false)
  | 1 => ("java/util/ArrayList", "elementData", "[Ljava/lang/Object;", false)
  | _ => ("java/util/ArrayList", "size", "I", false)
def tyJx4a65c : Nat → FieldType := fun k => match k with
  | 0 => .int
  | 1 => .array (.object "java/lang/Object")
  | _ => .int
abbrev wsJx4a65c0 : List Cond := u_ws RJx4a65c TJx4a65c 3
theorem nmJx4a65c : ∀ a, a < 3 → ∀ b, b < 3 → a ≠ b → (TJx4a65c a).2.1 ≠ (TJx4a65c b).2.1 := by decide +kernel
theorem tyJx4a65c_ok : ∀ k, k < 3 → parseFieldDescriptor (TJx4a65c k).2.2.1 = some (tyJx4a65c k) := by decide +kernel
abbrev cJx4a65c_init_da8c8 : ByteArray := prog_16_method_2_code
def yJx4a65c_init_da8c8 : MethodName := ⟨RJx4a65c, "<init>", "()V"⟩
abbrev cJx4a65c_grow_92f84 : ByteArray := prog_16_method_6_code
def yJx4a65c_grow_92f84 : MethodName := ⟨RJx4a65c, "grow", "(I)[Ljava/lang/Object;"⟩
abbrev cJx4a65c_grow_d5877 : ByteArray := prog_16_method_7_code
def yJx4a65c_grow_d5877 : MethodName := ⟨RJx4a65c, "grow", "()[Ljava/lang/Object;"⟩
abbrev cJx4a65c_size_8abf5 : ByteArray := prog_16_method_8_code
def yJx4a65c_size_8abf5 : MethodName := ⟨RJx4a65c, "size", "()I"⟩
abbrev cJx4a65c_isEmpty_aae02 : ByteArray := prog_16_method_9_code
def yJx4a65c_isEmpty_aae02 : MethodName := ⟨RJx4a65c, "isEmpty", "()Z"⟩
abbrev cJx4a65c_elementData_915e3 : ByteArray := prog_16_method_18_code
def yJx4a65c_elementData_915e3 : MethodName := ⟨RJx4a65c, "elementData", "(I)Ljava/lang/Object;"⟩
abbrev cJx4a65c_get_915e3 : ByteArray := prog_16_method_20_code
def yJx4a65c_get_915e3 : MethodName := ⟨RJx4a65c, "get", "(I)Ljava/lang/Object;"⟩
abbrev cJx4a65c_add_72be8 : ByteArray := prog_16_method_24_code
def yJx4a65c_add_72be8 : MethodName := ⟨RJx4a65c, "add", "(Ljava/lang/Object;[Ljava/lang/Object;I)V"⟩
abbrev cJx4a65c_add_9ea2d : ByteArray := prog_16_method_25_code
def yJx4a65c_add_9ea2d : MethodName := ⟨RJx4a65c, "add", "(Ljava/lang/Object;)Z"⟩
abbrev cJx4a65c_remove_915e3 : ByteArray := prog_16_method_29_code
def yJx4a65c_remove_915e3 : MethodName := ⟨RJx4a65c, "remove", "(I)Ljava/lang/Object;"⟩
abbrev cJx4a65c_fastRemove_b59b0 : ByteArray := prog_16_method_39_code
def yJx4a65c_fastRemove_b59b0 : MethodName := ⟨RJx4a65c, "fastRemove", "([Ljava/lang/Object;I)V"⟩
def RJ7 : String := "java/util/Arrays"
def TJ7 : u_T := fun k => match k with
  | _ => ("", "", "", false)
def tyJ7 : Nat → FieldType := fun k => match k with
  | _ => .int
abbrev wsJ70 : List Cond := u_ws RJ7 TJ7 0
theorem nmJ7 : ∀ a, a < 0 → ∀ b, b < 0 → a ≠ b → (TJ7 a).2.1 ≠ (TJ7 b).2.1 := by decide +kernel
theorem tyJ7_ok : ∀ k, k < 0 → parseFieldDescriptor (TJ7 k).2.2.1 = some (tyJ7 k) := by decide +kernel
abbrev cJ7_copyOf_1904c : ByteArray := prog_17_method_119_code
def yJ7_copyOf_1904c : MethodName := ⟨RJ7, "copyOf", "([Ljava/lang/Object;I)[Ljava/lang/Object;"⟩
abbrev cJ7_copyOf_6403c : ByteArray := prog_17_method_120_code
def yJ7_copyOf_6403c : MethodName := ⟨RJ7, "copyOf", "([Ljava/lang/Object;ILjava/lang/Class;)[Ljava/lang/Object;"⟩
def RJx5ef63 : String := "java/util/Collection"
def TJx5ef63 : u_T := fun k => match k with
  | _ => ("", "", "", false)
def tyJx5ef63 : Nat → FieldType := fun k => match k with
  | _ => .int
abbrev wsJx5ef630 : List Cond := u_ws RJx5ef63 TJx5ef63 0
theorem nmJx5ef63 : ∀ a, a < 0 → ∀ b, b < 0 → a ≠ b → (TJx5ef63 a).2.1 ≠ (TJx5ef63 b).2.1 := by decide +kernel
theorem tyJx5ef63_ok : ∀ k, k < 0 → parseFieldDescriptor (TJx5ef63 k).2.2.1 = some (tyJx5ef63 k) := by decide +kernel
def RJxbd725 : String := "java/util/List"
def TJxbd725 : u_T := fun k => match k with
  | _ => ("", "", "", false)
def tyJxbd725 : Nat → FieldType := fun k => match k with
  | _ => .int
abbrev wsJxbd7250 : List Cond := u_ws RJxbd725 TJxbd725 0
theorem nmJxbd725 : ∀ a, a < 0 → ∀ b, b < 0 → a ≠ b → (TJxbd725 a).2.1 ≠ (TJxbd725 b).2.1 := by decide +kernel
theorem tyJxbd725_ok : ∀ k, k < 0 → parseFieldDescriptor (TJxbd725 k).2.2.1 = some (tyJxbd725 k) := by decide +kernel
def RJ15 : String := "java/util/Objects"
def TJ15 : u_T := fun k => match k with
  | _ => ("", "", "", false)
def tyJ15 : Nat → FieldType := fun k => match k with
  | _ => .int
abbrev wsJ150 : List Cond := u_ws RJ15 TJ15 0
theorem nmJ15 : ∀ a, a < 0 → ∀ b, b < 0 → a ≠ b → (TJ15 a).2.1 ≠ (TJ15 b).2.1 := by decide +kernel
theorem tyJ15_ok : ∀ k, k < 0 → parseFieldDescriptor (TJ15 k).2.2.1 = some (tyJ15 k) := by decide +kernel
abbrev cJ15_checkIndex_7cf53 : ByteArray := prog_20_method_17_code
def yJ15_checkIndex_7cf53 : MethodName := ⟨RJ15, "checkIndex", "(II)I"⟩
def RJxf0a74 : String := "java/util/RandomAccess"
def TJxf0a74 : u_T := fun k => match k with
  | _ => ("", "", "", false)
def tyJxf0a74 : Nat → FieldType := fun k => match k with
  | _ => .int
abbrev wsJxf0a740 : List Cond := u_ws RJxf0a74 TJxf0a74 0
theorem nmJxf0a74 : ∀ a, a < 0 → ∀ b, b < 0 → a ≠ b → (TJxf0a74 a).2.1 ≠ (TJxf0a74 b).2.1 := by decide +kernel
theorem tyJxf0a74_ok : ∀ k, k < 0 → parseFieldDescriptor (TJxf0a74 k).2.2.1 = some (tyJxf0a74 k) := by decide +kernel
def RJxa66e6 : String := "java/util/SequencedCollection"
def TJxa66e6 : u_T := fun k => match k with
  | _ => ("", "", "", false)
def tyJxa66e6 : Nat → FieldType := fun k => match k with
  | _ => .int
abbrev wsJxa66e60 : List Cond := u_ws RJxa66e6 TJxa66e6 0
theorem nmJxa66e6 : ∀ a, a < 0 → ∀ b, b < 0 → a ≠ b → (TJxa66e6 a).2.1 ≠ (TJxa66e6 b).2.1 := by decide +kernel
theorem tyJxa66e6_ok : ∀ k, k < 0 → parseFieldDescriptor (TJxa66e6 k).2.2.1 = some (tyJxa66e6 k) := by decide +kernel
def RJ8 : String := "jdk/internal/util/ArraysSupport"
def TJ8 : u_T := fun k => match k with
  | _ => ("", "", "", false)
def tyJ8 : Nat → FieldType := fun k => match k with
  | _ => .int
abbrev wsJ80 : List Cond := u_ws RJ8 TJ8 0
theorem nmJ8 : ∀ a, a < 0 → ∀ b, b < 0 → a ≠ b → (TJ8 a).2.1 ≠ (TJ8 b).2.1 := by decide +kernel
theorem tyJ8_ok : ∀ k, k < 0 → parseFieldDescriptor (TJ8 k).2.2.1 = some (tyJ8 k) := by decide +kernel
abbrev cJ8_newLength_cabcc : ByteArray := prog_23_method_27_code
def yJ8_newLength_cabcc : MethodName := ⟨RJ8, "newLength", "(III)I"⟩
abbrev cJ8_hugeLength_7cf53 : ByteArray := prog_23_method_28_code
def yJ8_hugeLength_7cf53 : MethodName := ⟨RJ8, "hugeLength", "(II)I"⟩
def RJ3 : String := "jdk/internal/util/Preconditions"
def TJ3 : u_T := fun k => match k with
  | _ => ("", "", "", false)
def tyJ3 : Nat → FieldType := fun k => match k with
  | _ => .int
abbrev wsJ30 : List Cond := u_ws RJ3 TJ3 0
theorem nmJ3 : ∀ a, a < 0 → ∀ b, b < 0 → a ≠ b → (TJ3 a).2.1 ≠ (TJ3 b).2.1 := by decide +kernel
theorem tyJ3_ok : ∀ k, k < 0 → parseFieldDescriptor (TJ3 k).2.2.1 = some (tyJ3 k) := by decide +kernel
abbrev cJ3_checkIndex_8e157 : ByteArray := prog_24_method_11_code
def yJ3_checkIndex_8e157 : MethodName := ⟨RJ3, "checkIndex", "(IILjava/util/function/BiFunction;)I"⟩
def RL : String := "EggHouseLaw"
abbrev cL_law : ByteArray := code
def yL_law : MethodName := ⟨RL, "law", "([I)Z"⟩

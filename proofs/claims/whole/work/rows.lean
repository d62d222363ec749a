section
-- ===== PART A: goes FIRST, ahead of the names: the tables' words, and 'selects' of the private methods out of them =====
/-- a private method of a class that the tables say can be made, by its rows of tables_1 -/
def lw_okq (q : MethodName × Nat) : Prop := (q.1.cls ≠ "java/lang/invoke/MethodHandle" ∧ q.1.cls ≠ "java/lang/invoke/VarHandle") ∧ Cond.instantiable q.1.cls q.2 ∈ tables_1 ∧ Cond.privateMethod q.1 ∈ tables_1 ∧ Cond.instanceMethod q.1 ∈ tables_1
theorem lw_p0 : lw_okq (⟨"EggHouse", "ofAllBarns", "(I)I"⟩, 11) := ⟨⟨by decide +kernel, by decide +kernel⟩, List.mem_of_getElem? (i := 18) (by decide +kernel), List.mem_of_getElem? (i := 175) (by decide +kernel), List.mem_of_getElem? (i := 176) (by decide +kernel)⟩
theorem lw_p1 : lw_okq (⟨"java/util/ArrayList", "add", "(Ljava/lang/Object;[Ljava/lang/Object;I)V"⟩, 3) := ⟨⟨by decide +kernel, by decide +kernel⟩, List.mem_of_getElem? (i := 26) (by decide +kernel), List.mem_of_getElem? (i := 226) (by decide +kernel), List.mem_of_getElem? (i := 227) (by decide +kernel)⟩
theorem lw_p2 : lw_okq (⟨"java/util/ArrayList", "grow", "()[Ljava/lang/Object;"⟩, 3) := ⟨⟨by decide +kernel, by decide +kernel⟩, List.mem_of_getElem? (i := 26) (by decide +kernel), List.mem_of_getElem? (i := 230) (by decide +kernel), List.mem_of_getElem? (i := 231) (by decide +kernel)⟩
theorem lw_p3 : lw_okq (⟨"java/util/ArrayList", "grow", "(I)[Ljava/lang/Object;"⟩, 3) := ⟨⟨by decide +kernel, by decide +kernel⟩, List.mem_of_getElem? (i := 26) (by decide +kernel), List.mem_of_getElem? (i := 234) (by decide +kernel), List.mem_of_getElem? (i := 235) (by decide +kernel)⟩
theorem lw_p4 : lw_okq (⟨"EggHouse", "passOneTick", "()V"⟩, 11) := ⟨⟨by decide +kernel, by decide +kernel⟩, List.mem_of_getElem? (i := 18) (by decide +kernel), List.mem_of_getElem? (i := 280) (by decide +kernel), List.mem_of_getElem? (i := 281) (by decide +kernel)⟩
theorem lw_p5 : lw_okq (⟨"EggHouse", "moveLine", "()V"⟩, 11) := ⟨⟨by decide +kernel, by decide +kernel⟩, List.mem_of_getElem? (i := 18) (by decide +kernel), List.mem_of_getElem? (i := 284) (by decide +kernel), List.mem_of_getElem? (i := 285) (by decide +kernel)⟩
theorem lw_p6 : lw_okq (⟨"EggHouse", "weigh", "()V"⟩, 11) := ⟨⟨by decide +kernel, by decide +kernel⟩, List.mem_of_getElem? (i := 18) (by decide +kernel), List.mem_of_getElem? (i := 288) (by decide +kernel), List.mem_of_getElem? (i := 289) (by decide +kernel)⟩
theorem lw_p7 : lw_okq (⟨"EggHouse", "look", "()V"⟩, 11) := ⟨⟨by decide +kernel, by decide +kernel⟩, List.mem_of_getElem? (i := 18) (by decide +kernel), List.mem_of_getElem? (i := 292) (by decide +kernel), List.mem_of_getElem? (i := 293) (by decide +kernel)⟩
theorem lw_p8 : lw_okq (⟨"EggHouse", "askCracked", "(LEggHouse$Egg;)I"⟩, 11) := ⟨⟨by decide +kernel, by decide +kernel⟩, List.mem_of_getElem? (i := 18) (by decide +kernel), List.mem_of_getElem? (i := 296) (by decide +kernel), List.mem_of_getElem? (i := 297) (by decide +kernel)⟩
theorem lw_p9 : lw_okq (⟨"EggHouse", "askBloody", "(LEggHouse$Egg;)I"⟩, 11) := ⟨⟨by decide +kernel, by decide +kernel⟩, List.mem_of_getElem? (i := 18) (by decide +kernel), List.mem_of_getElem? (i := 307) (by decide +kernel), List.mem_of_getElem? (i := 308) (by decide +kernel)⟩
theorem lw_p10 : lw_okq (⟨"EggHouse", "askDirty", "(LEggHouse$Egg;)I"⟩, 11) := ⟨⟨by decide +kernel, by decide +kernel⟩, List.mem_of_getElem? (i := 18) (by decide +kernel), List.mem_of_getElem? (i := 312) (by decide +kernel), List.mem_of_getElem? (i := 313) (by decide +kernel)⟩
theorem lw_p11 : lw_okq (⟨"EggHouse", "askSound", "()I"⟩, 11) := ⟨⟨by decide +kernel, by decide +kernel⟩, List.mem_of_getElem? (i := 18) (by decide +kernel), List.mem_of_getElem? (i := 317) (by decide +kernel), List.mem_of_getElem? (i := 318) (by decide +kernel)⟩
theorem lw_p12 : lw_okq (⟨"EggHouse", "startWash", "(LEggHouse$Egg;)V"⟩, 11) := ⟨⟨by decide +kernel, by decide +kernel⟩, List.mem_of_getElem? (i := 18) (by decide +kernel), List.mem_of_getElem? (i := 321) (by decide +kernel), List.mem_of_getElem? (i := 322) (by decide +kernel)⟩
theorem lw_p13 : lw_okq (⟨"EggHouse", "letTake", "(LEggHouse$Packer;)V"⟩, 11) := ⟨⟨by decide +kernel, by decide +kernel⟩, List.mem_of_getElem? (i := 18) (by decide +kernel), List.mem_of_getElem? (i := 325) (by decide +kernel), List.mem_of_getElem? (i := 326) (by decide +kernel)⟩
theorem lw_p14 : lw_okq (⟨"EggHouse", "takes", "(LEggHouse$Packer;LEggHouse$Egg;)Z"⟩, 11) := ⟨⟨by decide +kernel, by decide +kernel⟩, List.mem_of_getElem? (i := 18) (by decide +kernel), List.mem_of_getElem? (i := 329) (by decide +kernel), List.mem_of_getElem? (i := 330) (by decide +kernel)⟩
theorem lw_p15 : lw_okq (⟨"EggHouse", "closeTray", "(LEggHouse$Packer;)V"⟩, 11) := ⟨⟨by decide +kernel, by decide +kernel⟩, List.mem_of_getElem? (i := 18) (by decide +kernel), List.mem_of_getElem? (i := 344) (by decide +kernel), List.mem_of_getElem? (i := 345) (by decide +kernel)⟩
def lw_privs_1 : List (MethodName × Nat) := [(⟨"EggHouse", "ofAllBarns", "(I)I"⟩, 11), (⟨"java/util/ArrayList", "add", "(Ljava/lang/Object;[Ljava/lang/Object;I)V"⟩, 3), (⟨"java/util/ArrayList", "grow", "()[Ljava/lang/Object;"⟩, 3), (⟨"java/util/ArrayList", "grow", "(I)[Ljava/lang/Object;"⟩, 3), (⟨"EggHouse", "passOneTick", "()V"⟩, 11), (⟨"EggHouse", "moveLine", "()V"⟩, 11), (⟨"EggHouse", "weigh", "()V"⟩, 11), (⟨"EggHouse", "look", "()V"⟩, 11), (⟨"EggHouse", "askCracked", "(LEggHouse$Egg;)I"⟩, 11), (⟨"EggHouse", "askBloody", "(LEggHouse$Egg;)I"⟩, 11), (⟨"EggHouse", "askDirty", "(LEggHouse$Egg;)I"⟩, 11), (⟨"EggHouse", "askSound", "()I"⟩, 11), (⟨"EggHouse", "startWash", "(LEggHouse$Egg;)V"⟩, 11), (⟨"EggHouse", "letTake", "(LEggHouse$Packer;)V"⟩, 11), (⟨"EggHouse", "takes", "(LEggHouse$Packer;LEggHouse$Egg;)Z"⟩, 11), (⟨"EggHouse", "closeTray", "(LEggHouse$Packer;)V"⟩, 11)]
theorem lw_r1 : ∀ q ∈ lw_privs_1, lw_okq q := List.forall_mem_cons.mpr ⟨lw_p0, List.forall_mem_cons.mpr ⟨lw_p1, List.forall_mem_cons.mpr ⟨lw_p2, List.forall_mem_cons.mpr ⟨lw_p3, List.forall_mem_cons.mpr ⟨lw_p4, List.forall_mem_cons.mpr ⟨lw_p5, List.forall_mem_cons.mpr ⟨lw_p6, List.forall_mem_cons.mpr ⟨lw_p7, List.forall_mem_cons.mpr ⟨lw_p8, List.forall_mem_cons.mpr ⟨lw_p9, List.forall_mem_cons.mpr ⟨lw_p10, List.forall_mem_cons.mpr ⟨lw_p11, List.forall_mem_cons.mpr ⟨lw_p12, List.forall_mem_cons.mpr ⟨lw_p13, List.forall_mem_cons.mpr ⟨lw_p14, List.forall_mem_cons.mpr ⟨lw_p15, fun _ h => absurd h List.not_mem_nil⟩⟩⟩⟩⟩⟩⟩⟩⟩⟩⟩⟩⟩⟩⟩⟩
theorem lw_p16 : lw_okq (⟨"EggHouse", "bringWashed", "()V"⟩, 11) := ⟨⟨by decide +kernel, by decide +kernel⟩, List.mem_of_getElem? (i := 18) (by decide +kernel), List.mem_of_getElem? (i := 350) (by decide +kernel), List.mem_of_getElem? (i := 351) (by decide +kernel)⟩
theorem lw_p17 : lw_okq (⟨"java/util/ArrayList", "fastRemove", "([Ljava/lang/Object;I)V"⟩, 3) := ⟨⟨by decide +kernel, by decide +kernel⟩, List.mem_of_getElem? (i := 26) (by decide +kernel), List.mem_of_getElem? (i := 376) (by decide +kernel), List.mem_of_getElem? (i := 377) (by decide +kernel)⟩
theorem lw_p18 : lw_okq (⟨"EggHouse", "feedLine", "()V"⟩, 11) := ⟨⟨by decide +kernel, by decide +kernel⟩, List.mem_of_getElem? (i := 18) (by decide +kernel), List.mem_of_getElem? (i := 381) (by decide +kernel), List.mem_of_getElem? (i := 382) (by decide +kernel)⟩
theorem lw_p19 : lw_okq (⟨"EggHouse", "eggsOnLine", "()I"⟩, 11) := ⟨⟨by decide +kernel, by decide +kernel⟩, List.mem_of_getElem? (i := 18) (by decide +kernel), List.mem_of_getElem? (i := 418) (by decide +kernel), List.mem_of_getElem? (i := 419) (by decide +kernel)⟩
theorem lw_p20 : lw_okq (⟨"EggHouse", "eggsInTrays", "()I"⟩, 11) := ⟨⟨by decide +kernel, by decide +kernel⟩, List.mem_of_getElem? (i := 18) (by decide +kernel), List.mem_of_getElem? (i := 422) (by decide +kernel), List.mem_of_getElem? (i := 423) (by decide +kernel)⟩
theorem lw_p21 : lw_okq (⟨"EggHouse", "isPack", "(I)Z"⟩, 11) := ⟨⟨by decide +kernel, by decide +kernel⟩, List.mem_of_getElem? (i := 18) (by decide +kernel), List.mem_of_getElem? (i := 434) (by decide +kernel), List.mem_of_getElem? (i := 435) (by decide +kernel)⟩
theorem lw_p22 : lw_okq (⟨"EggHouse", "bestSet", "()I"⟩, 11) := ⟨⟨by decide +kernel, by decide +kernel⟩, List.mem_of_getElem? (i := 18) (by decide +kernel), List.mem_of_getElem? (i := 476) (by decide +kernel), List.mem_of_getElem? (i := 477) (by decide +kernel)⟩
theorem lw_p23 : lw_okq (⟨"EggHouse", "freeByGrade", "()[I"⟩, 11) := ⟨⟨by decide +kernel, by decide +kernel⟩, List.mem_of_getElem? (i := 18) (by decide +kernel), List.mem_of_getElem? (i := 480) (by decide +kernel), List.mem_of_getElem? (i := 481) (by decide +kernel)⟩
theorem lw_p24 : lw_okq (⟨"EggHouse", "worthOf", "(I)I"⟩, 11) := ⟨⟨by decide +kernel, by decide +kernel⟩, List.mem_of_getElem? (i := 18) (by decide +kernel), List.mem_of_getElem? (i := 485) (by decide +kernel), List.mem_of_getElem? (i := 486) (by decide +kernel)⟩
theorem lw_p25 : lw_okq (⟨"EggHouse", "canServe", "(I[I)Z"⟩, 11) := ⟨⟨by decide +kernel, by decide +kernel⟩, List.mem_of_getElem? (i := 18) (by decide +kernel), List.mem_of_getElem? (i := 492) (by decide +kernel), List.mem_of_getElem? (i := 493) (by decide +kernel)⟩
theorem lw_p26 : lw_okq (⟨"EggHouse", "wantedOf", "(II)I"⟩, 11) := ⟨⟨by decide +kernel, by decide +kernel⟩, List.mem_of_getElem? (i := 18) (by decide +kernel), List.mem_of_getElem? (i := 496) (by decide +kernel), List.mem_of_getElem? (i := 497) (by decide +kernel)⟩
theorem lw_p27 : lw_okq (⟨"EggHouse", "sellTo", "(I)I"⟩, 11) := ⟨⟨by decide +kernel, by decide +kernel⟩, List.mem_of_getElem? (i := 18) (by decide +kernel), List.mem_of_getElem? (i := 504) (by decide +kernel), List.mem_of_getElem? (i := 505) (by decide +kernel)⟩
theorem lw_p28 : lw_okq (⟨"EggHouse", "packsSold", "()I"⟩, 11) := ⟨⟨by decide +kernel, by decide +kernel⟩, List.mem_of_getElem? (i := 18) (by decide +kernel), List.mem_of_getElem? (i := 532) (by decide +kernel), List.mem_of_getElem? (i := 533) (by decide +kernel)⟩
theorem lw_p29 : lw_okq (⟨"EggHouse", "packsHeld", "()I"⟩, 11) := ⟨⟨by decide +kernel, by decide +kernel⟩, List.mem_of_getElem? (i := 18) (by decide +kernel), List.mem_of_getElem? (i := 536) (by decide +kernel), List.mem_of_getElem? (i := 537) (by decide +kernel)⟩
theorem lw_p30 : lw_okq (⟨"EggHouseModel", "oneTick", "()V"⟩, 38) := ⟨⟨by decide +kernel, by decide +kernel⟩, List.mem_of_getElem? (i := 544) (by decide +kernel), List.mem_of_getElem? (i := 677) (by decide +kernel), List.mem_of_getElem? (i := 678) (by decide +kernel)⟩
theorem lw_p31 : lw_okq (⟨"EggHouseModel", "looks", "()V"⟩, 38) := ⟨⟨by decide +kernel, by decide +kernel⟩, List.mem_of_getElem? (i := 544) (by decide +kernel), List.mem_of_getElem? (i := 681) (by decide +kernel), List.mem_of_getElem? (i := 682) (by decide +kernel)⟩
def lw_privs_2 : List (MethodName × Nat) := [(⟨"EggHouse", "bringWashed", "()V"⟩, 11), (⟨"java/util/ArrayList", "fastRemove", "([Ljava/lang/Object;I)V"⟩, 3), (⟨"EggHouse", "feedLine", "()V"⟩, 11), (⟨"EggHouse", "eggsOnLine", "()I"⟩, 11), (⟨"EggHouse", "eggsInTrays", "()I"⟩, 11), (⟨"EggHouse", "isPack", "(I)Z"⟩, 11), (⟨"EggHouse", "bestSet", "()I"⟩, 11), (⟨"EggHouse", "freeByGrade", "()[I"⟩, 11), (⟨"EggHouse", "worthOf", "(I)I"⟩, 11), (⟨"EggHouse", "canServe", "(I[I)Z"⟩, 11), (⟨"EggHouse", "wantedOf", "(II)I"⟩, 11), (⟨"EggHouse", "sellTo", "(I)I"⟩, 11), (⟨"EggHouse", "packsSold", "()I"⟩, 11), (⟨"EggHouse", "packsHeld", "()I"⟩, 11), (⟨"EggHouseModel", "oneTick", "()V"⟩, 38), (⟨"EggHouseModel", "looks", "()V"⟩, 38)]
theorem lw_r2 : ∀ q ∈ lw_privs_2, lw_okq q := List.forall_mem_cons.mpr ⟨lw_p16, List.forall_mem_cons.mpr ⟨lw_p17, List.forall_mem_cons.mpr ⟨lw_p18, List.forall_mem_cons.mpr ⟨lw_p19, List.forall_mem_cons.mpr ⟨lw_p20, List.forall_mem_cons.mpr ⟨lw_p21, List.forall_mem_cons.mpr ⟨lw_p22, List.forall_mem_cons.mpr ⟨lw_p23, List.forall_mem_cons.mpr ⟨lw_p24, List.forall_mem_cons.mpr ⟨lw_p25, List.forall_mem_cons.mpr ⟨lw_p26, List.forall_mem_cons.mpr ⟨lw_p27, List.forall_mem_cons.mpr ⟨lw_p28, List.forall_mem_cons.mpr ⟨lw_p29, List.forall_mem_cons.mpr ⟨lw_p30, List.forall_mem_cons.mpr ⟨lw_p31, fun _ h => absurd h List.not_mem_nil⟩⟩⟩⟩⟩⟩⟩⟩⟩⟩⟩⟩⟩⟩⟩⟩
theorem lw_p32 : lw_okq (⟨"EggHouseModel", "whereTo", "(I)I"⟩, 38) := ⟨⟨by decide +kernel, by decide +kernel⟩, List.mem_of_getElem? (i := 544) (by decide +kernel), List.mem_of_getElem? (i := 685) (by decide +kernel), List.mem_of_getElem? (i := 686) (by decide +kernel)⟩
theorem lw_p33 : lw_okq (⟨"EggHouseModel", "takes", "(I)V"⟩, 38) := ⟨⟨by decide +kernel, by decide +kernel⟩, List.mem_of_getElem? (i := 544) (by decide +kernel), List.mem_of_getElem? (i := 695) (by decide +kernel), List.mem_of_getElem? (i := 696) (by decide +kernel)⟩
theorem lw_p34 : lw_okq (⟨"EggHouseModel", "packs", "(I)V"⟩, 38) := ⟨⟨by decide +kernel, by decide +kernel⟩, List.mem_of_getElem? (i := 544) (by decide +kernel), List.mem_of_getElem? (i := 702) (by decide +kernel), List.mem_of_getElem? (i := 703) (by decide +kernel)⟩
theorem lw_p35 : lw_okq (⟨"EggHouseModel", "dries", "()V"⟩, 38) := ⟨⟨by decide +kernel, by decide +kernel⟩, List.mem_of_getElem? (i := 544) (by decide +kernel), List.mem_of_getElem? (i := 706) (by decide +kernel), List.mem_of_getElem? (i := 707) (by decide +kernel)⟩
theorem lw_p36 : lw_okq (⟨"EggHouseModel", "allBarns", "(I)I"⟩, 38) := ⟨⟨by decide +kernel, by decide +kernel⟩, List.mem_of_getElem? (i := 544) (by decide +kernel), List.mem_of_getElem? (i := 737) (by decide +kernel), List.mem_of_getElem? (i := 738) (by decide +kernel)⟩
theorem lw_p37 : lw_okq (⟨"EggHouseModel", "isPack", "(I)Z"⟩, 38) := ⟨⟨by decide +kernel, by decide +kernel⟩, List.mem_of_getElem? (i := 544) (by decide +kernel), List.mem_of_getElem? (i := 749) (by decide +kernel), List.mem_of_getElem? (i := 750) (by decide +kernel)⟩
theorem lw_p38 : lw_okq (⟨"EggHouseModel", "freeOf", "(I)I"⟩, 38) := ⟨⟨by decide +kernel, by decide +kernel⟩, List.mem_of_getElem? (i := 544) (by decide +kernel), List.mem_of_getElem? (i := 757) (by decide +kernel), List.mem_of_getElem? (i := 758) (by decide +kernel)⟩
theorem lw_p39 : lw_okq (⟨"EggHouseModel", "isFree", "(I)Z"⟩, 38) := ⟨⟨by decide +kernel, by decide +kernel⟩, List.mem_of_getElem? (i := 544) (by decide +kernel), List.mem_of_getElem? (i := 761) (by decide +kernel), List.mem_of_getElem? (i := 762) (by decide +kernel)⟩
theorem lw_p40 : lw_okq (⟨"EggHouseModel", "bestSet", "()I"⟩, 38) := ⟨⟨by decide +kernel, by decide +kernel⟩, List.mem_of_getElem? (i := 544) (by decide +kernel), List.mem_of_getElem? (i := 773) (by decide +kernel), List.mem_of_getElem? (i := 774) (by decide +kernel)⟩
theorem lw_p41 : lw_okq (⟨"EggHouseModel", "canServe", "(I)Z"⟩, 38) := ⟨⟨by decide +kernel, by decide +kernel⟩, List.mem_of_getElem? (i := 544) (by decide +kernel), List.mem_of_getElem? (i := 777) (by decide +kernel), List.mem_of_getElem? (i := 778) (by decide +kernel)⟩
theorem lw_p42 : lw_okq (⟨"EggHouseModel", "worthOf", "(I)I"⟩, 38) := ⟨⟨by decide +kernel, by decide +kernel⟩, List.mem_of_getElem? (i := 544) (by decide +kernel), List.mem_of_getElem? (i := 781) (by decide +kernel), List.mem_of_getElem? (i := 782) (by decide +kernel)⟩
theorem lw_p43 : lw_okq (⟨"EggHouseModel", "doubts", "(IIIZ)I"⟩, 38) := ⟨⟨by decide +kernel, by decide +kernel⟩, List.mem_of_getElem? (i := 544) (by decide +kernel), List.mem_of_getElem? (i := 797) (by decide +kernel), List.mem_of_getElem? (i := 798) (by decide +kernel)⟩
def lw_privs_3 : List (MethodName × Nat) := [(⟨"EggHouseModel", "whereTo", "(I)I"⟩, 38), (⟨"EggHouseModel", "takes", "(I)V"⟩, 38), (⟨"EggHouseModel", "packs", "(I)V"⟩, 38), (⟨"EggHouseModel", "dries", "()V"⟩, 38), (⟨"EggHouseModel", "allBarns", "(I)I"⟩, 38), (⟨"EggHouseModel", "isPack", "(I)Z"⟩, 38), (⟨"EggHouseModel", "freeOf", "(I)I"⟩, 38), (⟨"EggHouseModel", "isFree", "(I)Z"⟩, 38), (⟨"EggHouseModel", "bestSet", "()I"⟩, 38), (⟨"EggHouseModel", "canServe", "(I)Z"⟩, 38), (⟨"EggHouseModel", "worthOf", "(I)I"⟩, 38), (⟨"EggHouseModel", "doubts", "(IIIZ)I"⟩, 38)]
theorem lw_r3 : ∀ q ∈ lw_privs_3, lw_okq q := List.forall_mem_cons.mpr ⟨lw_p32, List.forall_mem_cons.mpr ⟨lw_p33, List.forall_mem_cons.mpr ⟨lw_p34, List.forall_mem_cons.mpr ⟨lw_p35, List.forall_mem_cons.mpr ⟨lw_p36, List.forall_mem_cons.mpr ⟨lw_p37, List.forall_mem_cons.mpr ⟨lw_p38, List.forall_mem_cons.mpr ⟨lw_p39, List.forall_mem_cons.mpr ⟨lw_p40, List.forall_mem_cons.mpr ⟨lw_p41, List.forall_mem_cons.mpr ⟨lw_p42, List.forall_mem_cons.mpr ⟨lw_p43, fun _ h => absurd h List.not_mem_nil⟩⟩⟩⟩⟩⟩⟩⟩⟩⟩⟩⟩
def lw_privs : List (MethodName × Nat) := lw_privs_1 ++ (lw_privs_2 ++ (lw_privs_3))
def lw_tbl : List Cond := k2_sels lw_privs ++ tables_1
theorem lw_privs_ok : ∀ q ∈ lw_privs, lw_okq q := by
  show ∀ q ∈ lw_privs_1 ++ (lw_privs_2 ++ (lw_privs_3)), lw_okq q
  exact List.forall_mem_append.mpr ⟨lw_r1, List.forall_mem_append.mpr ⟨lw_r2, lw_r3⟩⟩
-- ===== end of PART A; then your names; then what follows =====
def RX0 : String := "EggHouse$Egg"
def TX0 : u_T := fun k => match k with
  | 0 => ("EggHouse$Egg", "number", "I", true)
  | 1 => ("EggHouse$Egg", "barn", "I", true)
  | 2 => ("EggHouse$Egg", "weight", "I", true)
  | 3 => ("EggHouse$Egg", "taps", "I", true)
  | 4 => ("EggHouse$Egg", "blood", "I", true)
  | 5 => ("EggHouse$Egg", "dirt", "I", false)
  | 6 => ("EggHouse$Egg", "scaleTold", "I", false)
  | 7 => ("EggHouse$Egg", "weighedAt", "I", false)
  | _ => ("EggHouse$Egg", "washedAt", "I", false)
def tyX0 : Nat → FieldType := fun k => match k with
  | 0 => .int
  | 1 => .int
  | 2 => .int
  | 3 => .int
  | 4 => .int
  | 5 => .int
  | 6 => .int
  | 7 => .int
  | _ => .int
abbrev wsX00 : List Cond := u_ws RX0 TX0 9
theorem nmX0 : ∀ a, a < 9 → ∀ b, b < 9 → a ≠ b → (TX0 a).2.1 ≠ (TX0 b).2.1 := by decide +kernel
theorem tyX0_ok : ∀ k, k < 9 → parseFieldDescriptor (TX0 k).2.2.1 = some (tyX0 k) := by decide +kernel
abbrev cX0_init : ByteArray := prog_2_method_1_code
def yX0_init : MethodName := ⟨RX0, "<init>", "(IIIIII)V"⟩
def RX1 : String := "EggHouse$Order"
def TX1 : u_T := fun k => match k with
  | 0 => ("EggHouse$Order", "grade", "I", true)
  | 1 => ("EggHouse$Order", "wanted", "I", true)
  | 2 => ("EggHouse$Order", "worth", "I", true)
  | _ => ("EggHouse$Order", "served", "Z", false)
def tyX1 : Nat → FieldType := fun k => match k with
  | 0 => .int
  | 1 => .int
  | 2 => .int
  | _ => .boolean
abbrev wsX10 : List Cond := u_ws RX1 TX1 4
theorem nmX1 : ∀ a, a < 4 → ∀ b, b < 4 → a ≠ b → (TX1 a).2.1 ≠ (TX1 b).2.1 := by decide +kernel
theorem tyX1_ok : ∀ k, k < 4 → parseFieldDescriptor (TX1 k).2.2.1 = some (tyX1 k) := by decide +kernel
abbrev cX1_init : ByteArray := prog_3_method_1_code
def yX1_init : MethodName := ⟨RX1, "<init>", "(III)V"⟩
def RX2 : String := "EggHouse$Pack"
def TX2 : u_T := fun k => match k with
  | 0 => ("EggHouse$Pack", "grade", "I", false)
  | 1 => ("EggHouse$Pack", "eggs", "I", false)
  | 2 => ("EggHouse$Pack", "barns", "I", false)
  | 3 => ("EggHouse$Pack", "firstTick", "I", false)
  | 4 => ("EggHouse$Pack", "lastTick", "I", false)
  | 5 => ("EggHouse$Pack", "weights", "I", false)
  | 6 => ("EggHouse$Pack", "scaleTolds", "I", false)
  | 7 => ("EggHouse$Pack", "soldTo", "I", false)
  | _ => ("EggHouse$Pack", "held", "Z", false)
def tyX2 : Nat → FieldType := fun k => match k with
  | 0 => .int
  | 1 => .int
  | 2 => .int
  | 3 => .int
  | 4 => .int
  | 5 => .int
  | 6 => .int
  | 7 => .int
  | _ => .boolean
abbrev wsX20 : List Cond := u_ws RX2 TX2 9
theorem nmX2 : ∀ a, a < 9 → ∀ b, b < 9 → a ≠ b → (TX2 a).2.1 ≠ (TX2 b).2.1 := by decide +kernel
theorem tyX2_ok : ∀ k, k < 9 → parseFieldDescriptor (TX2 k).2.2.1 = some (tyX2 k) := by decide +kernel
abbrev cX2_init : ByteArray := prog_4_method_1_code
def yX2_init : MethodName := ⟨RX2, "<init>", "()V"⟩
abbrev cX2_lay : ByteArray := prog_4_method_2_code
def yX2_lay : MethodName := ⟨RX2, "lay", "(LEggHouse$Egg;)V"⟩
abbrev cX2_isFreeOf : ByteArray := prog_4_method_3_code
def yX2_isFreeOf : MethodName := ⟨RX2, "isFreeOf", "(I)Z"⟩
abbrev cX2_holdIf : ByteArray := prog_4_method_4_code
def yX2_holdIf : MethodName := ⟨RX2, "holdIf", "(Z)V"⟩
def RX3 : String := "EggHouse$Packer"
def TX3 : u_T := fun k => match k with
  | 0 => ("EggHouse$Packer", "place", "I", true)
  | 1 => ("EggHouse$Packer", "grade", "I", false)
  | 2 => ("EggHouse$Packer", "isOn", "Z", false)
  | 3 => ("EggHouse$Packer", "busy", "I", false)
  | _ => ("EggHouse$Packer", "tray", "LEggHouse$Pack;", false)
def tyX3 : Nat → FieldType := fun k => match k with
  | 0 => .int
  | 1 => .int
  | 2 => .boolean
  | 3 => .int
  | _ => .object "EggHouse$Pack"
abbrev wsX30 : List Cond := u_ws RX3 TX3 5
theorem nmX3 : ∀ a, a < 5 → ∀ b, b < 5 → a ≠ b → (TX3 a).2.1 ≠ (TX3 b).2.1 := by decide +kernel
theorem tyX3_ok : ∀ k, k < 5 → parseFieldDescriptor (TX3 k).2.2.1 = some (tyX3 k) := by decide +kernel
abbrev cX3_init : ByteArray := prog_5_method_1_code
def yX3_init : MethodName := ⟨RX3, "<init>", "(II)V"⟩
def RX4 : String := "EggHouse"
def TX4 : u_T := fun k => match k with
  | 0 => ("EggHouse", "queue", "Ljava/util/ArrayList;", true)
  | 1 => ("EggHouse", "wash", "Ljava/util/ArrayList;", true)
  | 2 => ("EggHouse", "line", "[LEggHouse$Egg;", true)
  | 3 => ("EggHouse", "packers", "[LEggHouse$Packer;", true)
  | 4 => ("EggHouse", "packs", "Ljava/util/ArrayList;", true)
  | 5 => ("EggHouse", "orders", "Ljava/util/ArrayList;", true)
  | 6 => ("EggHouse", "byBarn", "[[I", true)
  | 7 => ("EggHouse", "tickNumber", "I", false)
  | 8 => ("EggHouse", "driftNow", "I", false)
  | 9 => ("EggHouse", "washedEver", "I", false)
  | _ => ("EggHouse", "traceSum", "J", false)
def tyX4 : Nat → FieldType := fun k => match k with
  | 0 => .object "java/util/ArrayList"
  | 1 => .object "java/util/ArrayList"
  | 2 => .array (.object "EggHouse$Egg")
  | 3 => .array (.object "EggHouse$Packer")
  | 4 => .object "java/util/ArrayList"
  | 5 => .object "java/util/ArrayList"
  | 6 => .array (.array .int)
  | 7 => .int
  | 8 => .int
  | 9 => .int
  | _ => .long
abbrev wsX40 : List Cond := u_ws RX4 TX4 11
theorem nmX4 : ∀ a, a < 11 → ∀ b, b < 11 → a ≠ b → (TX4 a).2.1 ≠ (TX4 b).2.1 := by decide +kernel
theorem tyX4_ok : ∀ k, k < 11 → parseFieldDescriptor (TX4 k).2.2.1 = some (tyX4 k) := by decide +kernel
abbrev cX4_init : ByteArray := prog_1_method_1_code
def yX4_init : MethodName := ⟨RX4, "<init>", "()V"⟩
abbrev cX4_egg : ByteArray := prog_1_method_2_code
def yX4_egg : MethodName := ⟨RX4, "egg", "(IIIII)I"⟩
abbrev cX4_tick : ByteArray := prog_1_method_3_code
def yX4_tick : MethodName := ⟨RX4, "tick", "(I)I"⟩
abbrev cX4_drift : ByteArray := prog_1_method_4_code
def yX4_drift : MethodName := ⟨RX4, "drift", "(I)I"⟩
abbrev cX4_grade : ByteArray := prog_1_method_5_code
def yX4_grade : MethodName := ⟨RX4, "grade", "(II)I"⟩
abbrev cX4_on : ByteArray := prog_1_method_6_code
def yX4_on : MethodName := ⟨RX4, "on", "(IZ)I"⟩
abbrev cX4_at : ByteArray := prog_1_method_7_code
def yX4_at : MethodName := ⟨RX4, "at", "(II)I"⟩
abbrev cX4_packer : ByteArray := prog_1_method_8_code
def yX4_packer : MethodName := ⟨RX4, "packer", "(II)I"⟩
abbrev cX4_count : ByteArray := prog_1_method_9_code
def yX4_count : MethodName := ⟨RX4, "count", "(I)I"⟩
abbrev cX4_barn : ByteArray := prog_1_method_10_code
def yX4_barn : MethodName := ⟨RX4, "barn", "(II)I"⟩
abbrev cX4_pack : ByteArray := prog_1_method_11_code
def yX4_pack : MethodName := ⟨RX4, "pack", "(II)I"⟩
abbrev cX4_free : ByteArray := prog_1_method_12_code
def yX4_free : MethodName := ⟨RX4, "free", "(I)I"⟩
abbrev cX4_order : ByteArray := prog_1_method_13_code
def yX4_order : MethodName := ⟨RX4, "order", "(III)I"⟩
abbrev cX4_best : ByteArray := prog_1_method_14_code
def yX4_best : MethodName := ⟨RX4, "best", "(I)I"⟩
abbrev cX4_serve : ByteArray := prog_1_method_15_code
def yX4_serve : MethodName := ⟨RX4, "serve", "()I"⟩
abbrev cX4_about : ByteArray := prog_1_method_16_code
def yX4_about : MethodName := ⟨RX4, "about", "(II)I"⟩
abbrev cX4_doubt : ByteArray := prog_1_method_17_code
def yX4_doubt : MethodName := ⟨RX4, "doubt", "(IZ)I"⟩
abbrev cX4_hours : ByteArray := prog_1_method_18_code
def yX4_hours : MethodName := ⟨RX4, "hours", "(IIZ)I"⟩
abbrev cX4_clear : ByteArray := prog_1_method_19_code
def yX4_clear : MethodName := ⟨RX4, "clear", "(I)I"⟩
abbrev cX4_told : ByteArray := prog_1_method_20_code
def yX4_told : MethodName := ⟨RX4, "told", "(I)I"⟩
abbrev cX4_trace : ByteArray := prog_1_method_21_code
def yX4_trace : MethodName := ⟨RX4, "trace", "()J"⟩
abbrev cX4_passOneTick : ByteArray := prog_1_method_22_code
def yX4_passOneTick : MethodName := ⟨RX4, "passOneTick", "()V"⟩
abbrev cX4_moveLine : ByteArray := prog_1_method_23_code
def yX4_moveLine : MethodName := ⟨RX4, "moveLine", "()V"⟩
abbrev cX4_weigh : ByteArray := prog_1_method_24_code
def yX4_weigh : MethodName := ⟨RX4, "weigh", "()V"⟩
abbrev cX4_look : ByteArray := prog_1_method_25_code
def yX4_look : MethodName := ⟨RX4, "look", "()V"⟩
abbrev cX4_askCracked : ByteArray := prog_1_method_26_code
def yX4_askCracked : MethodName := ⟨RX4, "askCracked", "(LEggHouse$Egg;)I"⟩
abbrev cX4_askBloody : ByteArray := prog_1_method_27_code
def yX4_askBloody : MethodName := ⟨RX4, "askBloody", "(LEggHouse$Egg;)I"⟩
abbrev cX4_askDirty : ByteArray := prog_1_method_28_code
def yX4_askDirty : MethodName := ⟨RX4, "askDirty", "(LEggHouse$Egg;)I"⟩
abbrev cX4_askSound : ByteArray := prog_1_method_29_code
def yX4_askSound : MethodName := ⟨RX4, "askSound", "()I"⟩
abbrev cX4_startWash : ByteArray := prog_1_method_30_code
def yX4_startWash : MethodName := ⟨RX4, "startWash", "(LEggHouse$Egg;)V"⟩
abbrev cX4_letTake : ByteArray := prog_1_method_31_code
def yX4_letTake : MethodName := ⟨RX4, "letTake", "(LEggHouse$Packer;)V"⟩
abbrev cX4_takes : ByteArray := prog_1_method_32_code
def yX4_takes : MethodName := ⟨RX4, "takes", "(LEggHouse$Packer;LEggHouse$Egg;)Z"⟩
abbrev cX4_closeTray : ByteArray := prog_1_method_33_code
def yX4_closeTray : MethodName := ⟨RX4, "closeTray", "(LEggHouse$Packer;)V"⟩
abbrev cX4_bringWashed : ByteArray := prog_1_method_34_code
def yX4_bringWashed : MethodName := ⟨RX4, "bringWashed", "()V"⟩
abbrev cX4_feedLine : ByteArray := prog_1_method_35_code
def yX4_feedLine : MethodName := ⟨RX4, "feedLine", "()V"⟩
abbrev cX4_bestSet : ByteArray := prog_1_method_36_code
def yX4_bestSet : MethodName := ⟨RX4, "bestSet", "()I"⟩
abbrev cX4_freeByGrade : ByteArray := prog_1_method_37_code
def yX4_freeByGrade : MethodName := ⟨RX4, "freeByGrade", "()[I"⟩
abbrev cX4_worthOf : ByteArray := prog_1_method_38_code
def yX4_worthOf : MethodName := ⟨RX4, "worthOf", "(I)I"⟩
abbrev cX4_canServe : ByteArray := prog_1_method_39_code
def yX4_canServe : MethodName := ⟨RX4, "canServe", "(I[I)Z"⟩
abbrev cX4_wantedOf : ByteArray := prog_1_method_40_code
def yX4_wantedOf : MethodName := ⟨RX4, "wantedOf", "(II)I"⟩
abbrev cX4_sellTo : ByteArray := prog_1_method_41_code
def yX4_sellTo : MethodName := ⟨RX4, "sellTo", "(I)I"⟩
abbrev cX4_ofAllBarns : ByteArray := prog_1_method_42_code
def yX4_ofAllBarns : MethodName := ⟨RX4, "ofAllBarns", "(I)I"⟩
abbrev cX4_eggsOnLine : ByteArray := prog_1_method_43_code
def yX4_eggsOnLine : MethodName := ⟨RX4, "eggsOnLine", "()I"⟩
abbrev cX4_eggsInTrays : ByteArray := prog_1_method_44_code
def yX4_eggsInTrays : MethodName := ⟨RX4, "eggsInTrays", "()I"⟩
abbrev cX4_packsSold : ByteArray := prog_1_method_45_code
def yX4_packsSold : MethodName := ⟨RX4, "packsSold", "()I"⟩
abbrev cX4_packsHeld : ByteArray := prog_1_method_46_code
def yX4_packsHeld : MethodName := ⟨RX4, "packsHeld", "()I"⟩
abbrev cX4_isWithin : ByteArray := prog_1_method_47_code
def yX4_isWithin : MethodName := ⟨RX4, "isWithin", "(III)Z"⟩
abbrev cX4_isBarn : ByteArray := prog_1_method_48_code
def yX4_isBarn : MethodName := ⟨RX4, "isBarn", "(I)Z"⟩
abbrev cX4_isGrade : ByteArray := prog_1_method_49_code
def yX4_isGrade : MethodName := ⟨RX4, "isGrade", "(I)Z"⟩
abbrev cX4_isPacker : ByteArray := prog_1_method_50_code
def yX4_isPacker : MethodName := ⟨RX4, "isPacker", "(I)Z"⟩
abbrev cX4_isPack : ByteArray := prog_1_method_51_code
def yX4_isPack : MethodName := ⟨RX4, "isPack", "(I)Z"⟩
abbrev cX4_hasBit : ByteArray := prog_1_method_52_code
def yX4_hasBit : MethodName := ⟨RX4, "hasBit", "(II)Z"⟩
abbrev cX4_asNumber : ByteArray := prog_1_method_53_code
def yX4_asNumber : MethodName := ⟨RX4, "asNumber", "(Z)I"⟩
abbrev cX4_gradeOf : ByteArray := prog_1_method_54_code
def yX4_gradeOf : MethodName := ⟨RX4, "gradeOf", "(I)I"⟩
def RX5 : String := "EggHouseModel"
def TX5 : u_T := fun k => match k with
  | 0 => ("EggHouseModel", "eggs", "I", false)
  | 1 => ("EggHouseModel", "barn", "[I", true)
  | 2 => ("EggHouseModel", "weight", "[I", true)
  | 3 => ("EggHouseModel", "taps", "[I", true)
  | 4 => ("EggHouseModel", "blood", "[I", true)
  | 5 => ("EggHouseModel", "dirt", "[I", true)
  | 6 => ("EggHouseModel", "told", "[I", true)
  | 7 => ("EggHouseModel", "weighed", "[I", true)
  | 8 => ("EggHouseModel", "queued", "I", false)
  | 9 => ("EggHouseModel", "queue", "[I", true)
  | 10 => ("EggHouseModel", "line", "[I", true)
  | 11 => ("EggHouseModel", "washing", "I", false)
  | 12 => ("EggHouseModel", "wash", "[I", true)
  | 13 => ("EggHouseModel", "comesIn", "[I", true)
  | 14 => ("EggHouseModel", "washed", "I", false)
  | 15 => ("EggHouseModel", "ofBarn", "[I", true)
  | 16 => ("EggHouseModel", "gradeOf", "[I", true)
  | 17 => ("EggHouseModel", "isOff", "[Z", true)
  | 18 => ("EggHouseModel", "busy", "[I", true)
  | 19 => ("EggHouseModel", "trayed", "[I", true)
  | 20 => ("EggHouseModel", "tray", "[I", true)
  | 21 => ("EggHouseModel", "packs", "I", false)
  | 22 => ("EggHouseModel", "packGrade", "[I", true)
  | 23 => ("EggHouseModel", "packBarns", "[I", true)
  | 24 => ("EggHouseModel", "packFirst", "[I", true)
  | 25 => ("EggHouseModel", "packLast", "[I", true)
  | 26 => ("EggHouseModel", "packWeight", "[I", true)
  | 27 => ("EggHouseModel", "packTold", "[I", true)
  | 28 => ("EggHouseModel", "soldTo", "[I", true)
  | 29 => ("EggHouseModel", "isHeld", "[Z", true)
  | 30 => ("EggHouseModel", "orders", "I", false)
  | 31 => ("EggHouseModel", "orderGrade", "[I", true)
  | 32 => ("EggHouseModel", "orderMany", "[I", true)
  | 33 => ("EggHouseModel", "orderWorth", "[I", true)
  | 34 => ("EggHouseModel", "isServed", "[Z", true)
  | 35 => ("EggHouseModel", "now", "I", false)
  | 36 => ("EggHouseModel", "drift", "I", false)
  | _ => ("EggHouseModel", "trace", "J", false)
def tyX5 : Nat → FieldType := fun k => match k with
  | 0 => .int
  | 1 => .array .int
  | 2 => .array .int
  | 3 => .array .int
  | 4 => .array .int
  | 5 => .array .int
  | 6 => .array .int
  | 7 => .array .int
  | 8 => .int
  | 9 => .array .int
  | 10 => .array .int
  | 11 => .int
  | 12 => .array .int
  | 13 => .array .int
  | 14 => .int
  | 15 => .array .int
  | 16 => .array .int
  | 17 => .array .boolean
  | 18 => .array .int
  | 19 => .array .int
  | 20 => .array .int
  | 21 => .int
  | 22 => .array .int
  | 23 => .array .int
  | 24 => .array .int
  | 25 => .array .int
  | 26 => .array .int
  | 27 => .array .int
  | 28 => .array .int
  | 29 => .array .boolean
  | 30 => .int
  | 31 => .array .int
  | 32 => .array .int
  | 33 => .array .int
  | 34 => .array .boolean
  | 35 => .int
  | 36 => .int
  | _ => .long
abbrev wsX50 : List Cond := u_ws RX5 TX5 38
theorem nmX5 : ∀ a, a < 38 → ∀ b, b < 38 → a ≠ b → (TX5 a).2.1 ≠ (TX5 b).2.1 := by decide +kernel
theorem tyX5_ok : ∀ k, k < 38 → parseFieldDescriptor (TX5 k).2.2.1 = some (tyX5 k) := by decide +kernel
abbrev cX5_init : ByteArray := prog_7_method_1_code
def yX5_init : MethodName := ⟨RX5, "<init>", "()V"⟩
abbrev cX5_in : ByteArray := prog_7_method_3_code
def yX5_in : MethodName := ⟨RX5, "in", "(III)Z"⟩
abbrev cX5_egg : ByteArray := prog_7_method_4_code
def yX5_egg : MethodName := ⟨RX5, "egg", "(IIIII)I"⟩
abbrev cX5_gradeBy : ByteArray := prog_7_method_5_code
def yX5_gradeBy : MethodName := ⟨RX5, "gradeBy", "(I)I"⟩
abbrev cX5_dull : ByteArray := prog_7_method_6_code
def yX5_dull : MethodName := ⟨RX5, "dull", "(I)I"⟩
abbrev cX5_whereTo : ByteArray := prog_7_method_7_code
def yX5_whereTo : MethodName := ⟨RX5, "whereTo", "(I)I"⟩
abbrev cX5_looks : ByteArray := prog_7_method_8_code
def yX5_looks : MethodName := ⟨RX5, "looks", "()V"⟩
abbrev cX5_packs : ByteArray := prog_7_method_9_code
def yX5_packs : MethodName := ⟨RX5, "packs", "(I)V"⟩
abbrev cX5_takes : ByteArray := prog_7_method_10_code
def yX5_takes : MethodName := ⟨RX5, "takes", "(I)V"⟩
abbrev cX5_dries : ByteArray := prog_7_method_11_code
def yX5_dries : MethodName := ⟨RX5, "dries", "()V"⟩
abbrev cX5_oneTick : ByteArray := prog_7_method_12_code
def yX5_oneTick : MethodName := ⟨RX5, "oneTick", "()V"⟩
abbrev cX5_tick : ByteArray := prog_7_method_13_code
def yX5_tick : MethodName := ⟨RX5, "tick", "(I)I"⟩
abbrev cX5_drift : ByteArray := prog_7_method_14_code
def yX5_drift : MethodName := ⟨RX5, "drift", "(I)I"⟩
abbrev cX5_isPacker : ByteArray := prog_7_method_15_code
def yX5_isPacker : MethodName := ⟨RX5, "isPacker", "(I)Z"⟩
abbrev cX5_grade : ByteArray := prog_7_method_16_code
def yX5_grade : MethodName := ⟨RX5, "grade", "(II)I"⟩
abbrev cX5_on : ByteArray := prog_7_method_17_code
def yX5_on : MethodName := ⟨RX5, "on", "(IZ)I"⟩
abbrev cX5_at : ByteArray := prog_7_method_18_code
def yX5_at : MethodName := ⟨RX5, "at", "(II)I"⟩
abbrev cX5_packer : ByteArray := prog_7_method_19_code
def yX5_packer : MethodName := ⟨RX5, "packer", "(II)I"⟩
abbrev cX5_allBarns : ByteArray := prog_7_method_20_code
def yX5_allBarns : MethodName := ⟨RX5, "allBarns", "(I)I"⟩
abbrev cX5_count : ByteArray := prog_7_method_21_code
def yX5_count : MethodName := ⟨RX5, "count", "(I)I"⟩
abbrev cX5_barn : ByteArray := prog_7_method_22_code
def yX5_barn : MethodName := ⟨RX5, "barn", "(II)I"⟩
abbrev cX5_isPack : ByteArray := prog_7_method_23_code
def yX5_isPack : MethodName := ⟨RX5, "isPack", "(I)Z"⟩
abbrev cX5_pack : ByteArray := prog_7_method_24_code
def yX5_pack : MethodName := ⟨RX5, "pack", "(II)I"⟩
abbrev cX5_isFree : ByteArray := prog_7_method_25_code
def yX5_isFree : MethodName := ⟨RX5, "isFree", "(I)Z"⟩
abbrev cX5_freeOf : ByteArray := prog_7_method_26_code
def yX5_freeOf : MethodName := ⟨RX5, "freeOf", "(I)I"⟩
abbrev cX5_free : ByteArray := prog_7_method_27_code
def yX5_free : MethodName := ⟨RX5, "free", "(I)I"⟩
abbrev cX5_order : ByteArray := prog_7_method_28_code
def yX5_order : MethodName := ⟨RX5, "order", "(III)I"⟩
abbrev cX5_worthOf : ByteArray := prog_7_method_29_code
def yX5_worthOf : MethodName := ⟨RX5, "worthOf", "(I)I"⟩
abbrev cX5_canServe : ByteArray := prog_7_method_30_code
def yX5_canServe : MethodName := ⟨RX5, "canServe", "(I)Z"⟩
abbrev cX5_bestSet : ByteArray := prog_7_method_31_code
def yX5_bestSet : MethodName := ⟨RX5, "bestSet", "()I"⟩
abbrev cX5_best : ByteArray := prog_7_method_32_code
def yX5_best : MethodName := ⟨RX5, "best", "(I)I"⟩
abbrev cX5_serve : ByteArray := prog_7_method_33_code
def yX5_serve : MethodName := ⟨RX5, "serve", "()I"⟩
abbrev cX5_about : ByteArray := prog_7_method_34_code
def yX5_about : MethodName := ⟨RX5, "about", "(II)I"⟩
abbrev cX5_doubts : ByteArray := prog_7_method_35_code
def yX5_doubts : MethodName := ⟨RX5, "doubts", "(IIIZ)I"⟩
abbrev cX5_doubt : ByteArray := prog_7_method_36_code
def yX5_doubt : MethodName := ⟨RX5, "doubt", "(IZ)I"⟩
abbrev cX5_hours : ByteArray := prog_7_method_37_code
def yX5_hours : MethodName := ⟨RX5, "hours", "(IIZ)I"⟩
abbrev cX5_clear : ByteArray := prog_7_method_38_code
def yX5_clear : MethodName := ⟨RX5, "clear", "(I)I"⟩
abbrev cX5_told : ByteArray := prog_7_method_39_code
def yX5_told : MethodName := ⟨RX5, "told", "(I)I"⟩
abbrev cX5_trace : ByteArray := prog_7_method_40_code
def yX5_trace : MethodName := ⟨RX5, "trace", "()J"⟩
def RJx145de : String := "java/io/Serializable"
def TJx145de : u_T := fun k => match k with
  | _ => ("", "", "", false)
def tyJx145de : Nat → FieldType := fun k => match k with
  | _ => .int
abbrev wsJx145de0 : List Cond := u_ws RJx145de TJx145de 0
theorem nmJx145de : ∀ a, a < 0 → ∀ b, b < 0 → a ≠ b → (TJx145de a).2.1 ≠ (TJx145de b).2.1 := by decide +kernel
theorem tyJx145de_ok : ∀ k, k < 0 → parseFieldDescriptor (TJx145de k).2.2.1 = some (tyJx145de k) := by decide +kernel
def RJx8e188 : String := "java/lang/Cloneable"
def TJx8e188 : u_T := fun k => match k with
  | _ => ("", "", "", false)
def tyJx8e188 : Nat → FieldType := fun k => match k with
  | _ => .int
abbrev wsJx8e1880 : List Cond := u_ws RJx8e188 TJx8e188 0
theorem nmJx8e188 : ∀ a, a < 0 → ∀ b, b < 0 → a ≠ b → (TJx8e188 a).2.1 ≠ (TJx8e188 b).2.1 := by decide +kernel
theorem tyJx8e188_ok : ∀ k, k < 0 → parseFieldDescriptor (TJx8e188 k).2.2.1 = some (tyJx8e188 k) := by decide +kernel
def RJ6 : String := "java/lang/Integer"
def TJ6 : u_T := fun k => match k with
  | _ => ("", "", "", false)
def tyJ6 : Nat → FieldType := fun k => match k with
  | _ => .int
abbrev wsJ60 : List Cond := u_ws RJ6 TJ6 0
theorem nmJ6 : ∀ a, a < 0 → ∀ b, b < 0 → a ≠ b → (TJ6 a).2.1 ≠ (TJ6 b).2.1 := by decide +kernel
theorem tyJ6_ok : ∀ k, k < 0 → parseFieldDescriptor (TJ6 k).2.2.1 = some (tyJ6 k) := by decide +kernel
abbrev cJ6_bitCount_0f7a4 : ByteArray := prog_10_method_49_code
def yJ6_bitCount_0f7a4 : MethodName := ⟨RJ6, "bitCount", "(I)I"⟩
def RJxab1ab : String := "java/lang/Iterable"
def TJxab1ab : u_T := fun k => match k with
  | _ => ("", "", "", false)
def tyJxab1ab : Nat → FieldType := fun k => match k with
  | _ => .int
abbrev wsJxab1ab0 : List Cond := u_ws RJxab1ab TJxab1ab 0
theorem nmJxab1ab : ∀ a, a < 0 → ∀ b, b < 0 → a ≠ b → (TJxab1ab a).2.1 ≠ (TJxab1ab b).2.1 := by decide +kernel
theorem tyJxab1ab_ok : ∀ k, k < 0 → parseFieldDescriptor (TJxab1ab k).2.2.1 = some (tyJxab1ab k) := by decide +kernel
def RJ9 : String := "java/lang/Math"
def TJ9 : u_T := fun k => match k with
  | _ => ("", "", "", false)
def tyJ9 : Nat → FieldType := fun k => match k with
  | _ => .int
abbrev wsJ90 : List Cond := u_ws RJ9 TJ9 0
theorem nmJ9 : ∀ a, a < 0 → ∀ b, b < 0 → a ≠ b → (TJ9 a).2.1 ≠ (TJ9 b).2.1 := by decide +kernel
theorem tyJ9_ok : ∀ k, k < 0 → parseFieldDescriptor (TJ9 k).2.2.1 = some (tyJ9 k) := by decide +kernel
abbrev cJ9_max_7cf53 : ByteArray := prog_12_method_65_code
def yJ9_max_7cf53 : MethodName := ⟨RJ9, "max", "(II)I"⟩
abbrev cJ9_min_7cf53 : ByteArray := prog_12_method_69_code
def yJ9_min_7cf53 : MethodName := ⟨RJ9, "min", "(II)I"⟩
def RJ10 : String := "java/lang/System"
def TJ10 : u_T := fun k => match k with
  | _ => ("", "", "", false)
def tyJ10 : Nat → FieldType := fun k => match k with
  | _ => .int
abbrev wsJ100 : List Cond := u_ws RJ10 TJ10 0
theorem nmJ10 : ∀ a, a < 0 → ∀ b, b < 0 → a ≠ b → (TJ10 a).2.1 ≠ (TJ10 b).2.1 := by decide +kernel
theorem tyJ10_ok : ∀ k, k < 0 → parseFieldDescriptor (TJ10 k).2.2.1 = some (tyJ10 k) := by decide +kernel
def RJxa1e45 : String := "java/util/AbstractCollection"
def TJxa1e45 : u_T := fun k => match k with
  | _ => ("", "", "", false)
def tyJxa1e45 : Nat → FieldType := fun k => match k with
  | _ => .int
abbrev wsJxa1e450 : List Cond := u_ws RJxa1e45 TJxa1e45 0
theorem nmJxa1e45 : ∀ a, a < 0 → ∀ b, b < 0 → a ≠ b → (TJxa1e45 a).2.1 ≠ (TJxa1e45 b).2.1 := by decide +kernel
theorem tyJxa1e45_ok : ∀ k, k < 0 → parseFieldDescriptor (TJxa1e45 k).2.2.1 = some (tyJxa1e45 k) := by decide +kernel
abbrev cJxa1e45_init_da8c8 : ByteArray := prog_14_method_1_code
def yJxa1e45_init_da8c8 : MethodName := ⟨RJxa1e45, "<init>", "()V"⟩
def RJxc12de : String := "java/util/AbstractList"
def TJxc12de : u_T := fun k => match k with
  | _ => ("", "", "", false)
def tyJxc12de : Nat → FieldType := fun k => match k with
  | _ => .int
abbrev wsJxc12de0 : List Cond := u_ws RJxc12de TJxc12de 0
theorem nmJxc12de : ∀ a, a < 0 → ∀ b, b < 0 → a ≠ b → (TJxc12de a).2.1 ≠ (TJxc12de b).2.1 := by decide +kernel
theorem tyJxc12de_ok : ∀ k, k < 0 → parseFieldDescriptor (TJxc12de k).2.2.1 = some (tyJxc12de k) := by decide +kernel
abbrev cJxc12de_init_da8c8 : ByteArray := prog_15_method_1_code
def yJxc12de_init_da8c8 : MethodName := ⟨RJxc12de, "<init>", "()V"⟩
def RJx4a65c : String := "java/util/ArrayList"
def TJx4a65c : u_T := fun k => match k with
  | 0 => ("java/util/AbstractList", "modCount", "I", false)
  | 1 => ("java/util/ArrayList", "elementData", "[Ljava/lang/Object;", false)
  | _ => ("java/util/ArrayList", "size", "I", false)
def tyJx4a65c : Nat → FieldType := fun k => match k with
  | 0 => .int
  | 1 => .array (.object "java/lang/Object")
  | _ => .int
abbrev wsJx4a65c0 : List Cond := u_ws RJx4a65c TJx4a65c 3
theorem nmJx4a65c : ∀ a, a < 3 → ∀ b, b < 3 → a ≠ b → (TJx4a65c a).2.1 ≠ (TJx4a65c b).2.1 := by decide +kernel
theorem tyJx4a65c_ok : ∀ k, k < 3 → parseFieldDescriptor (TJx4a65c k).2.2.1 = some (tyJx4a65c k) := by decide +kernel
abbrev cJx4a65c_init_da8c8 : ByteArray := prog_16_method_2_code
def yJx4a65c_init_da8c8 : MethodName := ⟨RJx4a65c, "<init>", "()V"⟩
abbrev cJx4a65c_grow_92f84 : ByteArray := prog_16_method_6_code
def yJx4a65c_grow_92f84 : MethodName := ⟨RJx4a65c, "grow", "(I)[Ljava/lang/Object;"⟩
abbrev cJx4a65c_grow_d5877 : ByteArray := prog_16_method_7_code
def yJx4a65c_grow_d5877 : MethodName := ⟨RJx4a65c, "grow", "()[Ljava/lang/Object;"⟩
abbrev cJx4a65c_size_8abf5 : ByteArray := prog_16_method_8_code
def yJx4a65c_size_8abf5 : MethodName := ⟨RJx4a65c, "size", "()I"⟩
abbrev cJx4a65c_isEmpty_aae02 : ByteArray := prog_16_method_9_code
def yJx4a65c_isEmpty_aae02 : MethodName := ⟨RJx4a65c, "isEmpty", "()Z"⟩
abbrev cJx4a65c_elementData_915e3 : ByteArray := prog_16_method_18_code
def yJx4a65c_elementData_915e3 : MethodName := ⟨RJx4a65c, "elementData", "(I)Ljava/lang/Object;"⟩
abbrev cJx4a65c_get_915e3 : ByteArray := prog_16_method_20_code
def yJx4a65c_get_915e3 : MethodName := ⟨RJx4a65c, "get", "(I)Ljava/lang/Object;"⟩
abbrev cJx4a65c_add_72be8 : ByteArray := prog_16_method_24_code
def yJx4a65c_add_72be8 : MethodName := ⟨RJx4a65c, "add", "(Ljava/lang/Object;[Ljava/lang/Object;I)V"⟩
abbrev cJx4a65c_add_9ea2d : ByteArray := prog_16_method_25_code
def yJx4a65c_add_9ea2d : MethodName := ⟨RJx4a65c, "add", "(Ljava/lang/Object;)Z"⟩
abbrev cJx4a65c_remove_915e3 : ByteArray := prog_16_method_29_code
def yJx4a65c_remove_915e3 : MethodName := ⟨RJx4a65c, "remove", "(I)Ljava/lang/Object;"⟩
abbrev cJx4a65c_fastRemove_b59b0 : ByteArray := prog_16_method_39_code
def yJx4a65c_fastRemove_b59b0 : MethodName := ⟨RJx4a65c, "fastRemove", "([Ljava/lang/Object;I)V"⟩
def RJ7 : String := "java/util/Arrays"
def TJ7 : u_T := fun k => match k with
  | _ => ("", "", "", false)
def tyJ7 : Nat → FieldType := fun k => match k with
  | _ => .int
abbrev wsJ70 : List Cond := u_ws RJ7 TJ7 0
theorem nmJ7 : ∀ a, a < 0 → ∀ b, b < 0 → a ≠ b → (TJ7 a).2.1 ≠ (TJ7 b).2.1 := by decide +kernel
theorem tyJ7_ok : ∀ k, k < 0 → parseFieldDescriptor (TJ7 k).2.2.1 = some (tyJ7 k) := by decide +kernel
abbrev cJ7_copyOf_1904c : ByteArray := prog_17_method_119_code
def yJ7_copyOf_1904c : MethodName := ⟨RJ7, "copyOf", "([Ljava/lang/Object;I)[Ljava/lang/Object;"⟩
abbrev cJ7_copyOf_6403c : ByteArray := prog_17_method_120_code
def yJ7_copyOf_6403c : MethodName := ⟨RJ7, "copyOf", "([Ljava/lang/Object;ILjava/lang/Class;)[Ljava/lang/Object;"⟩
def RJx5ef63 : String := "java/util/Collection"
def TJx5ef63 : u_T := fun k => match k with
  | _ => ("", "", "", false)
def tyJx5ef63 : Nat → FieldType := fun k => match k with
  | _ => .int
abbrev wsJx5ef630 : List Cond := u_ws RJx5ef63 TJx5ef63 0
theorem nmJx5ef63 : ∀ a, a < 0 → ∀ b, b < 0 → a ≠ b → (TJx5ef63 a).2.1 ≠ (TJx5ef63 b).2.1 := by decide +kernel
theorem tyJx5ef63_ok : ∀ k, k < 0 → parseFieldDescriptor (TJx5ef63 k).2.2.1 = some (tyJx5ef63 k) := by decide +kernel
def RJxbd725 : String := "java/util/List"
def TJxbd725 : u_T := fun k => match k with
  | _ => ("", "", "", false)
def tyJxbd725 : Nat → FieldType := fun k => match k with
  | _ => .int
abbrev wsJxbd7250 : List Cond := u_ws RJxbd725 TJxbd725 0
theorem nmJxbd725 : ∀ a, a < 0 → ∀ b, b < 0 → a ≠ b → (TJxbd725 a).2.1 ≠ (TJxbd725 b).2.1 := by decide +kernel
theorem tyJxbd725_ok : ∀ k, k < 0 → parseFieldDescriptor (TJxbd725 k).2.2.1 = some (tyJxbd725 k) := by decide +kernel
def RJ15 : String := "java/util/Objects"
def TJ15 : u_T := fun k => match k with
  | _ => ("", "", "", false)
def tyJ15 : Nat → FieldType := fun k => match k with
  | _ => .int
abbrev wsJ150 : List Cond := u_ws RJ15 TJ15 0
theorem nmJ15 : ∀ a, a < 0 → ∀ b, b < 0 → a ≠ b → (TJ15 a).2.1 ≠ (TJ15 b).2.1 := by decide +kernel
theorem tyJ15_ok : ∀ k, k < 0 → parseFieldDescriptor (TJ15 k).2.2.1 = some (tyJ15 k) := by decide +kernel
abbrev cJ15_checkIndex_7cf53 : ByteArray := prog_20_method_17_code
def yJ15_checkIndex_7cf53 : MethodName := ⟨RJ15, "checkIndex", "(II)I"⟩
def RJxf0a74 : String := "java/util/RandomAccess"
def TJxf0a74 : u_T := fun k => match k with
  | _ => ("", "", "", false)
def tyJxf0a74 : Nat → FieldType := fun k => match k with
  | _ => .int
abbrev wsJxf0a740 : List Cond := u_ws RJxf0a74 TJxf0a74 0
theorem nmJxf0a74 : ∀ a, a < 0 → ∀ b, b < 0 → a ≠ b → (TJxf0a74 a).2.1 ≠ (TJxf0a74 b).2.1 := by decide +kernel
theorem tyJxf0a74_ok : ∀ k, k < 0 → parseFieldDescriptor (TJxf0a74 k).2.2.1 = some (tyJxf0a74 k) := by decide +kernel
def RJxa66e6 : String := "java/util/SequencedCollection"
def TJxa66e6 : u_T := fun k => match k with
  | _ => ("", "", "", false)
def tyJxa66e6 : Nat → FieldType := fun k => match k with
  | _ => .int
abbrev wsJxa66e60 : List Cond := u_ws RJxa66e6 TJxa66e6 0
theorem nmJxa66e6 : ∀ a, a < 0 → ∀ b, b < 0 → a ≠ b → (TJxa66e6 a).2.1 ≠ (TJxa66e6 b).2.1 := by decide +kernel
theorem tyJxa66e6_ok : ∀ k, k < 0 → parseFieldDescriptor (TJxa66e6 k).2.2.1 = some (tyJxa66e6 k) := by decide +kernel
def RJ8 : String := "jdk/internal/util/ArraysSupport"
def TJ8 : u_T := fun k => match k with
  | _ => ("", "", "", false)
def tyJ8 : Nat → FieldType := fun k => match k with
  | _ => .int
abbrev wsJ80 : List Cond := u_ws RJ8 TJ8 0
theorem nmJ8 : ∀ a, a < 0 → ∀ b, b < 0 → a ≠ b → (TJ8 a).2.1 ≠ (TJ8 b).2.1 := by decide +kernel
theorem tyJ8_ok : ∀ k, k < 0 → parseFieldDescriptor (TJ8 k).2.2.1 = some (tyJ8 k) := by decide +kernel
abbrev cJ8_newLength_cabcc : ByteArray := prog_23_method_27_code
def yJ8_newLength_cabcc : MethodName := ⟨RJ8, "newLength", "(III)I"⟩
abbrev cJ8_hugeLength_7cf53 : ByteArray := prog_23_method_28_code
def yJ8_hugeLength_7cf53 : MethodName := ⟨RJ8, "hugeLength", "(II)I"⟩
def RJ3 : String := "jdk/internal/util/Preconditions"
def TJ3 : u_T := fun k => match k with
  | _ => ("", "", "", false)
def tyJ3 : Nat → FieldType := fun k => match k with
  | _ => .int
abbrev wsJ30 : List Cond := u_ws RJ3 TJ3 0
theorem nmJ3 : ∀ a, a < 0 → ∀ b, b < 0 → a ≠ b → (TJ3 a).2.1 ≠ (TJ3 b).2.1 := by decide +kernel
theorem tyJ3_ok : ∀ k, k < 0 → parseFieldDescriptor (TJ3 k).2.2.1 = some (tyJ3 k) := by decide +kernel
abbrev cJ3_checkIndex_8e157 : ByteArray := prog_24_method_11_code
def yJ3_checkIndex_8e157 : MethodName := ⟨RJ3, "checkIndex", "(IILjava/util/function/BiFunction;)I"⟩
def RL : String := "EggHouseLaw"
abbrev cL_law : ByteArray := code
def yL_law : MethodName := ⟨RL, "law", "([I)Z"⟩
end
section
/-! my own frame: 'j ws k n pc lv st': the machine stands at pc, its world is ws, k cells of n slots are new, the locals hold lv, the stack st; the heap is hidden in it -/
abbrev cls7 : List vw_C := [(RX0, TX0, 9), (RX1, TX1, 4), (RX2, TX2, 9), (RX3, TX3, 5), (RX4, TX4, 11), (RX5, TX5, 38), (RJx4a65c, TJx4a65c, 3)]
abbrev tys6 (ar : Nat → ClassId) : List (ClassId × FieldType) := [(ar 0, .int), (ar 1, .boolean), (ar 2, .object "EggHouse$Egg"), (ar 3, .object "EggHouse$Packer"), (ar 4, .object "java/lang/Object"), (ar 5, .array .int)]
def gtbl : List Cond := lw_tbl.filter goodWord
theorem gtbl_in {w : Cond} (h : w ∈ lw_tbl) (hg : goodWord w = true) : w ∈ gtbl := List.mem_filter.mpr ⟨h, hg⟩
theorem gtbl_of {w : Cond} (h : w ∈ gtbl) : w ∈ lw_tbl := (List.mem_filter.mp h).1
theorem gtbl_good : GoodIn gtbl gtbl := fun w h => ⟨h, good_of_word (List.mem_filter.mp h).2⟩
theorem gtbl_cons {c : Cond} (h : c ∈ gtbl) : GoodIn gtbl (c :: gtbl) := fun w hw => (List.mem_cons.mp hw).elim (fun e => by subst e; exact gtbl_good _ h) (gtbl_good w)
abbrev XT : Type := (Nat → Prop) → State → Heap → Prop
def Xok (X : XT) : Prop := (∀ (A : Nat → Prop) (U V : State) (H : Heap), U.vm = V.vm → X A U H → X A V H) ∧ (∀ (A : Nat → Prop) (U V : State) (H : Heap), U.WarmedH V.vm → X A U H → X A V H) ∧ (∀ (A : Nat → Prop) (U : State) (H H1 : Heap), H.size ≤ H1.size → (∀ q : Nat, q < H.size → ¬ A q → H1[q]? = H[q]?) → X A U H → X A U H1) ∧ (∀ (A B : Nat → Prop) (U : State) (H : Heap), (∀ q : Nat, q < H.size → B q → A q) → X A U H → X B U H)
abbrev jT : Type := va_W → Nat → Nat → Nat → List (Nat × Value) → List Value → Prop
def JJ (p : Program) (l : Launch) (e : Env) (R : Room) (s : State) (m : MethodId) (args : Array Value) (below : List Frame) (meth : Method) (c : Code) (A : Nat → Prop) (D : va_G) (nL : Nat) (Q : State → Prop) : jT := fun ws k n pc lv st =>
  ∀ (H : Heap) (locs : List Loc) (ls : Array Slot), va_P D cls7 ws H → va_D A ws → va_S A s.heap H locs → lv_has ls nL lv → W p l e R s m args below meth c H locs k n Q (F0 m pc ls st)
def Cz (own : String) (cc : ByteArray) (nL : Nat) (D : va_G) (ar : Nat → ClassId) (X : XT) (p : Program) (s : State) (m : MethodId) (args : Array Value) (meth : Method) (c : Code) (A : Nat → Prop) : Prop :=
  p.tables.exec = Jvm.exec ∧ c.code = cc ∧ c.maxLocals = nL ∧ s.vm.findClass own = some m.cls ∧ (∀ w ∈ gtbl, w.before args s = true) ∧ va_K D cls7 (tys6 ar) s ∧ (∀ q, s.heap.size ≤ q → A q) ∧ Xok X ∧ X A s s.heap
/-- a body's context, but for its end -/
def Cx0 (own : String) (cc : ByteArray) (nL : Nat) (D : va_G) (ar : Nat → ClassId) (X : XT) (R : Room) (j : jT) : Prop :=
  ∃ (p : Program) (l : Launch) (e : Env) (s : State) (m : MethodId) (args : Array Value) (below : List Frame) (meth : Method) (c : Code) (A : Nat → Prop) (Q : State → Prop), Cz own cc nL D ar X p s m args meth c A ∧ j = JJ p l e R s m args below meth c A D nL Q
def Qn (D : va_G) (Ret : Option Value → va_W → Prop) (A : Nat → Prop) : Array Value → State → Outcome → State → Prop := fun _ st oc t => (∃ (r : Option Value) (ws' : va_W), oc = .returned r ∧ Ret r ws' ∧ va_P D cls7 ws' t.heap ∧ va_D A ws') ∧ va_F A st t
/-- a body's context, with its end: what it may answer, and in which world -/
def Cx (own : String) (cc : ByteArray) (nL : Nat) (D : va_G) (ar : Nat → ClassId) (X : XT) (R : Room) (ret : Option FieldType) (Ret : Option Value → va_W → Prop) (j : jT) : Prop :=
  ∃ (p : Program) (l : Launch) (e : Env) (s : State) (m : MethodId) (args : Array Value) (below : List Frame) (meth : Method) (c : Code) (A : Nat → Prop), Cz own cc nL D ar X p s m args meth c A ∧ meth.sig.returnType = ret ∧ meth.locks = false ∧ j = JJ p l e R s m args below meth c A D nL (MQ below (Qn D Ret A) args s R.cells R.slots A)
abbrev rmOf (fr lo mc ms : Nat) : Room := { frames := fr, cells := mc, slots := ms, locals := lo }
/-- a method's contract: from the world ws with these arguments it returns, and 'Ret answer world' -/
def Cn (D : va_G) (ar : Nat → ClassId) (X : XT) (y : MethodName) (cc : ByteArray) (nL : Nat) (ret : Option FieldType) (fr lo mc ms : Nat) (av : List Value) (ws : va_W) (Ret : Option Value → va_W → Prop) : Prop :=
  ∀ (l : Launch) (sz : Nat), Met l y (Cond.code y cc nL ret :: gtbl) (rmOf fr lo mc ms) (va_Pc av (fun U => U.heap.size = sz ∧ va_P D cls7 ws U.heap ∧ va_K D cls7 (tys6 ar) U ∧ va_D (fun _ => True) ws ∧ X (va_A ws sz) U U.heap)) (Qn D Ret (va_A ws sz)) mc ms (va_A ws sz)
theorem Cx.to {own : String} {cc : ByteArray} {nL : Nat} {D : va_G} {ar : Nat → ClassId} {X : XT} {R : Room} {ret : Option FieldType} {Ret : Option Value → va_W → Prop} {j : jT} (C : Cx own cc nL D ar X R ret Ret j) : Cx0 own cc nL D ar X R j := by
  obtain ⟨p, l, e, s, m, args, below, meth, c, A, hz, -, -, hj⟩ := C
  exact ⟨p, l, e, s, m, args, below, meth, c, A, _, hz, hj⟩
theorem Cn.of {own : String} {D : va_G} {ar : Nat → ClassId} {X : XT} {y : MethodName} {cc : ByteArray} {nL : Nat} {ret : Option FieldType} {fr lo mc ms : Nat} {av : List Value} {ws : va_W} {Ret : Option Value → va_W → Prop} (hX : Xok X) (hy : plainName y.cls = true) (ho : y.cls = own) (hv : (lg_sl av).length ≤ nL)
    (body : ∀ j : jT, Cx own cc nL D ar X (rmOf fr lo mc ms) ret Ret j → j ws 0 0 0 (lv_args 0 av) []) : Cn D ar X y cc nL ret fr lo mc ms av ws Ret := by
  intro l sz
  refine Met.ofW (cc := cc) (maxL := nL) (ret := ret) hy rfl ?_
  intro p e s m args below meth c s₁ B hml hpc
  obtain ⟨rfl, rfl, hP, hK, hD0, hXs⟩ := hpc
  have hts := atoms_spec (ws := Cond.code y cc nL ret :: gtbl) B.pre
  have hown : s.vm.findClass own = some m.cls := by rw [← ho]; exact findClass_of_methodNamed B.named
  have C : Cx own cc nL D ar X (rmOf fr lo mc ms) ret Ret (JJ p l e (rmOf fr lo mc ms) s m av.toArray below meth c (va_A ws s.heap.size) D nL (MQ below (Qn D Ret (va_A ws s.heap.size)) av.toArray s mc ms (va_A ws s.heap.size))) :=
    ⟨p, l, e, s, m, av.toArray, below, meth, c, va_A ws s.heap.size, ⟨B.exec, B.bytes, hml, hown, fun w hw => hts w (List.mem_cons_of_mem _ hw), hK, fun q h => Or.inr h, hX, hXs⟩, B.returns, B.notSynchronized, rfl⟩
  rw [lg_entry_eq]
  exact body _ C s.heap [] _ hP (hD0.self (sz := s.heap.size)) va_S.rf (lv_entry av hv)
/-- a value put into a local -/
def lvS (i : Nat) (v : Value) (lv : List (Nat × Value)) : List (Nat × Value) := cond (lv.any (fun q => q.1 == i)) (lv.map (fun q => cond (q.1 == i) (i, v) q)) (lv ++ [(i, v)])
def lvC (lv : List (Nat × Value)) : Bool := lv.all (fun q => q.2.category == 1)
theorem lvS_mem {i : Nat} {v : Value} {lv : List (Nat × Value)} {q : Nat × Value} (h : q ∈ lvS i v lv) : q = (i, v) ∨ (q ∈ lv ∧ ¬ q.1 = i) := by
  unfold lvS at h
  cases ha : lv.any (fun q => q.1 == i) with
  | true =>
    rw [ha] at h
    obtain ⟨x, hx, hq⟩ := List.mem_map.mp (show q ∈ lv.map _ from h)
    cases hb : (x.1 == i) with
    | true => rw [hb] at hq; exact Or.inl hq.symm
    | false =>
      rw [hb] at hq
      have e : x = q := hq
      subst e
      exact Or.inr ⟨hx, fun z => by rw [z] at hb; simp at hb⟩
  | false =>
    rw [ha] at h
    rcases List.mem_append.mp (show q ∈ lv ++ [(i, v)] from h) with h1 | h1
    · refine Or.inr ⟨h1, fun z => ?_⟩
      have h2 := List.any_eq_false.mp ha q h1
      rw [z] at h2
      simp at h2
    · exact Or.inl (List.mem_singleton.mp h1)
theorem lvS_has {ls : Array Slot} {nL i : Nat} {v : Value} {lv lv' : List (Nat × Value)} (hc : lvC lv = true) (hl : lvS i v lv = lv') (h : lv_has ls nL ((i, v) :: lv.filter (fun q => !(q.1 == i) && !(q.1 + 1 == i && q.2.category == 2)))) : lv_has ls nL lv' := by
  refine ⟨h.1, h.2.1, fun q hq => ?_⟩
  rw [← hl] at hq
  rcases lvS_mem hq with rfl | ⟨h1, h2⟩
  · exact h.2.2 _ List.mem_cons_self
  · refine h.2.2 q (List.mem_cons_of_mem _ (List.mem_filter.mpr ⟨h1, ?_⟩))
    have h3 := List.all_eq_true.mp hc q h1
    have h4 : q.2.category = 1 := by simpa using h3
    simp [h2, h4]
theorem lv_look {ls : Array Slot} {nL i : Nat} {v : Value} {lv : List (Nat × Value)} (h : lv_has ls nL lv) (hl : lv.lookup i = some v) : ls[i]? = some (.val v) := by
  refine h.2.2 (i, v) ?_
  clear h
  induction lv with
  | nil => cases hl
  | cons q r ih =>
    obtain ⟨a, b⟩ := q
    rw [List.lookup_cons] at hl
    cases hb : (i == a) with
    | true =>
      rw [hb] at hl
      have e : i = a := by simpa using hb
      subst e
      cases hl
      exact List.mem_cons_self
    | false =>
      rw [hb] at hl
      exact List.mem_cons_of_mem _ (ih hl)
section RU
variable {own : String} {cc : ByteArray} {nL : Nat} {D : va_G} {ar : Nat → ClassId} {X : XT} {R : Room} {j : jT}
variable {ws : va_W} {k n : Nat} {lv lv' : List (Nat × Value)} {st : List Value}

theorem r_iconst (C : Cx0 own cc nL D ar X R j) (pc : Nat) {z : Int} (v : Int32) (hd : decode cc pc = .ok (.iconst z, 1)) (hv : Int32.ofInt z = v) (kk : j ws k n (pc + 1) lv (.int v :: st)) : j ws k n pc lv st := by
  obtain ⟨p, l, e, s, m, args, below, meth, c, A, Q, ⟨hx, hb, hml, hown, hts, hK, hA, hX, hXs⟩, rfl⟩ := C
  intro H locs ls hP hD hS hl
  exact lv_iconst hx hb hd hv (kk H locs ls hP hD hS hl)
theorem r_bipush (C : Cx0 own cc nL D ar X R j) (pc : Nat) {z : Int} (v : Int32) (hd : decode cc pc = .ok (.bipush z, 2)) (hv : (Int8.ofInt z).toInt32 = v) (kk : j ws k n (pc + 2) lv (.int v :: st)) : j ws k n pc lv st := by
  obtain ⟨p, l, e, s, m, args, below, meth, c, A, Q, ⟨hx, hb, hml, hown, hts, hK, hA, hX, hXs⟩, rfl⟩ := C
  intro H locs ls hP hD hS hl
  exact lv_bipush hx hb hd hv (kk H locs ls hP hD hS hl)
theorem r_sipush (C : Cx0 own cc nL D ar X R j) (pc : Nat) {z : Int} (v : Int32) (hd : decode cc pc = .ok (.sipush z, 3)) (hv : (Int16.ofInt z).toInt32 = v) (kk : j ws k n (pc + 3) lv (.int v :: st)) : j ws k n pc lv st := by
  obtain ⟨p, l, e, s, m, args, below, meth, c, A, Q, ⟨hx, hb, hml, hown, hts, hK, hA, hX, hXs⟩, rfl⟩ := C
  intro H locs ls hP hD hS hl
  exact lv_sipush hx hb hd hv (kk H locs ls hP hD hS hl)
theorem r_lconst (C : Cx0 own cc nL D ar X R j) (pc : Nat) {z : Fin 2} (v : Int64) (hd : decode cc pc = .ok (.lconst z, 1)) (hv : Int64.ofNat (z : Nat) = v) (kk : j ws k n (pc + 1) lv (.long v :: st)) : j ws k n pc lv st := by
  obtain ⟨p, l, e, s, m, args, below, meth, c, A, Q, ⟨hx, hb, hml, hown, hts, hK, hA, hX, hXs⟩, rfl⟩ := C
  intro H locs ls hP hD hS hl
  exact lv_lconst hx hb hd hv (kk H locs ls hP hD hS hl)
theorem r_ldc (C : Cx0 own cc nL D ar X R j) (pc : Nat) {ix : Nat} {v : Int32} (hw : Cond.constant own ix v ∈ gtbl) (hd : decode cc pc = .ok (.ldc ix, 2)) (kk : j ws k n (pc + 2) lv (.int v :: st)) : j ws k n pc lv st := by
  obtain ⟨p, l, e, s, m, args, below, meth, c, A, Q, ⟨hx, hb, hml, hown, hts, hK, hA, hX, hXs⟩, rfl⟩ := C
  intro H locs ls hP hD hS hl
  exact lv_ldc hx hb hown (hts _ hw) hd (kk H locs ls hP hD hS hl)
theorem r_ldc2 (C : Cx0 own cc nL D ar X R j) (pc : Nat) {ix : Nat} {v : Int64} (hw : Cond.constantLong own ix v ∈ gtbl) (hd : decode cc pc = .ok (.ldc2_w ix, 3)) (kk : j ws k n (pc + 3) lv (.long v :: st)) : j ws k n pc lv st := by
  obtain ⟨p, l, e, s, m, args, below, meth, c, A, Q, ⟨hx, hb, hml, hown, hts, hK, hA, hX, hXs⟩, rfl⟩ := C
  intro H locs ls hP hD hS hl
  exact lv_ldc2 hx hb hown (hts _ hw) hd (kk H locs ls hP hD hS hl)
theorem r_iload_n (C : Cx0 own cc nL D ar X R j) (pc : Nat) {f : Fin 4} {x : Int32} (i : Nat) (hd : decode cc pc = .ok (.iload_n f, 1)) (hi : (f : Nat) = i) (hv : lv.lookup i = some (.int x)) (kk : j ws k n (pc + 1) lv (.int x :: st)) : j ws k n pc lv st := by
  obtain ⟨p, l, e, s, m, args, below, meth, c, A, Q, ⟨hx, hb, hml, hown, hts, hK, hA, hX, hXs⟩, rfl⟩ := C
  intro H locs ls hP hD hS hl
  exact lv_iload_n hx hb hd hi (lv_look hl hv) (kk H locs ls hP hD hS hl)
theorem r_iload (C : Cx0 own cc nL D ar X R j) (pc : Nat) {i : Nat} {x : Int32} (hd : decode cc pc = .ok (.iload i, 2)) (hv : lv.lookup i = some (.int x)) (kk : j ws k n (pc + 2) lv (.int x :: st)) : j ws k n pc lv st := by
  obtain ⟨p, l, e, s, m, args, below, meth, c, A, Q, ⟨hx, hb, hml, hown, hts, hK, hA, hX, hXs⟩, rfl⟩ := C
  intro H locs ls hP hD hS hl
  exact lv_iload hx hb hd (lv_look hl hv) (kk H locs ls hP hD hS hl)
theorem r_aload_n (C : Cx0 own cc nL D ar X R j) (pc : Nat) {f : Fin 4} {x : Nat} (i : Nat) (hd : decode cc pc = .ok (.aload_n f, 1)) (hi : (f : Nat) = i) (hv : lv.lookup i = some (.ref x)) (kk : j ws k n (pc + 1) lv (.ref x :: st)) : j ws k n pc lv st := by
  obtain ⟨p, l, e, s, m, args, below, meth, c, A, Q, ⟨hx, hb, hml, hown, hts, hK, hA, hX, hXs⟩, rfl⟩ := C
  intro H locs ls hP hD hS hl
  exact lv_aload_n hx hb hd hi (lv_look hl hv) (kk H locs ls hP hD hS hl)
theorem r_aload (C : Cx0 own cc nL D ar X R j) (pc : Nat) {i : Nat} {x : Nat} (hd : decode cc pc = .ok (.aload i, 2)) (hv : lv.lookup i = some (.ref x)) (kk : j ws k n (pc + 2) lv (.ref x :: st)) : j ws k n pc lv st := by
  obtain ⟨p, l, e, s, m, args, below, meth, c, A, Q, ⟨hx, hb, hml, hown, hts, hK, hA, hX, hXs⟩, rfl⟩ := C
  intro H locs ls hP hD hS hl
  exact lv_aload hx hb hd (lv_look hl hv) (kk H locs ls hP hD hS hl)
theorem r_aload_nN (C : Cx0 own cc nL D ar X R j) (pc : Nat) {f : Fin 4} (i : Nat) (hd : decode cc pc = .ok (.aload_n f, 1)) (hi : (f : Nat) = i) (hv : lv.lookup i = some .null) (kk : j ws k n (pc + 1) lv (.null :: st)) : j ws k n pc lv st := by
  obtain ⟨p, l, e, s, m, args, below, meth, c, A, Q, ⟨hx, hb, hml, hown, hts, hK, hA, hX, hXs⟩, rfl⟩ := C
  intro H locs ls hP hD hS hl
  exact lv_aload_nN hx hb hd hi (lv_look hl hv) (kk H locs ls hP hD hS hl)
theorem r_iadd (C : Cx0 own cc nL D ar X R j) (pc : Nat) {x y : Int32} (hd : decode cc pc = .ok (.iadd, 1)) (kk : j ws k n (pc + 1) lv (.int (x + y) :: st)) : j ws k n pc lv (.int y :: .int x :: st) := by
  obtain ⟨p, l, e, s, m, args, below, meth, c, A, Q, ⟨hx, hb, hml, hown, hts, hK, hA, hX, hXs⟩, rfl⟩ := C
  intro H locs ls hP hD hS hl
  exact lv_iadd hx hb hd (kk H locs ls hP hD hS hl)
theorem r_isub (C : Cx0 own cc nL D ar X R j) (pc : Nat) {x y : Int32} (hd : decode cc pc = .ok (.isub, 1)) (kk : j ws k n (pc + 1) lv (.int (x - y) :: st)) : j ws k n pc lv (.int y :: .int x :: st) := by
  obtain ⟨p, l, e, s, m, args, below, meth, c, A, Q, ⟨hx, hb, hml, hown, hts, hK, hA, hX, hXs⟩, rfl⟩ := C
  intro H locs ls hP hD hS hl
  exact lv_isub hx hb hd (kk H locs ls hP hD hS hl)
theorem r_imul (C : Cx0 own cc nL D ar X R j) (pc : Nat) {x y : Int32} (hd : decode cc pc = .ok (.imul, 1)) (kk : j ws k n (pc + 1) lv (.int (x * y) :: st)) : j ws k n pc lv (.int y :: .int x :: st) := by
  obtain ⟨p, l, e, s, m, args, below, meth, c, A, Q, ⟨hx, hb, hml, hown, hts, hK, hA, hX, hXs⟩, rfl⟩ := C
  intro H locs ls hP hD hS hl
  exact lv_imul hx hb hd (kk H locs ls hP hD hS hl)
theorem r_iand (C : Cx0 own cc nL D ar X R j) (pc : Nat) {x y : Int32} (hd : decode cc pc = .ok (.iand, 1)) (kk : j ws k n (pc + 1) lv (.int (x &&& y) :: st)) : j ws k n pc lv (.int y :: .int x :: st) := by
  obtain ⟨p, l, e, s, m, args, below, meth, c, A, Q, ⟨hx, hb, hml, hown, hts, hK, hA, hX, hXs⟩, rfl⟩ := C
  intro H locs ls hP hD hS hl
  exact lv_iand hx hb hd (kk H locs ls hP hD hS hl)
theorem r_ior (C : Cx0 own cc nL D ar X R j) (pc : Nat) {x y : Int32} (hd : decode cc pc = .ok (.ior, 1)) (kk : j ws k n (pc + 1) lv (.int (x ||| y) :: st)) : j ws k n pc lv (.int y :: .int x :: st) := by
  obtain ⟨p, l, e, s, m, args, below, meth, c, A, Q, ⟨hx, hb, hml, hown, hts, hK, hA, hX, hXs⟩, rfl⟩ := C
  intro H locs ls hP hD hS hl
  exact lv_ior hx hb hd (kk H locs ls hP hD hS hl)
theorem r_ishl (C : Cx0 own cc nL D ar X R j) (pc : Nat) {x y : Int32} (hd : decode cc pc = .ok (.ishl, 1)) (kk : j ws k n (pc + 1) lv (.int (x <<< (y &&& 31)) :: st)) : j ws k n pc lv (.int y :: .int x :: st) := by
  obtain ⟨p, l, e, s, m, args, below, meth, c, A, Q, ⟨hx, hb, hml, hown, hts, hK, hA, hX, hXs⟩, rfl⟩ := C
  intro H locs ls hP hD hS hl
  exact lv_ishl hx hb hd (kk H locs ls hP hD hS hl)
theorem r_ishr (C : Cx0 own cc nL D ar X R j) (pc : Nat) {x y : Int32} (hd : decode cc pc = .ok (.ishr, 1)) (kk : j ws k n (pc + 1) lv (.int (x >>> (y &&& 31)) :: st)) : j ws k n pc lv (.int y :: .int x :: st) := by
  obtain ⟨p, l, e, s, m, args, below, meth, c, A, Q, ⟨hx, hb, hml, hown, hts, hK, hA, hX, hXs⟩, rfl⟩ := C
  intro H locs ls hP hD hS hl
  exact lv_ishr hx hb hd (kk H locs ls hP hD hS hl)
theorem r_iushr (C : Cx0 own cc nL D ar X R j) (pc : Nat) {x y v : Int32} (hd : decode cc pc = .ok (.iushr, 1)) (hv : (x.toUInt32 >>> (y.toUInt32 &&& Int32.toUInt32 31)).toInt32 = v) (kk : j ws k n (pc + 1) lv (.int v :: st)) : j ws k n pc lv (.int y :: .int x :: st) := by
  obtain ⟨p, l, e, s, m, args, below, meth, c, A, Q, ⟨hx, hb, hml, hown, hts, hK, hA, hX, hXs⟩, rfl⟩ := C
  intro H locs ls hP hD hS hl
  exact lv_iushr hx hb hd hv (kk H locs ls hP hD hS hl)
theorem r_ladd (C : Cx0 own cc nL D ar X R j) (pc : Nat) {x y : Int64} (hd : decode cc pc = .ok (.ladd, 1)) (kk : j ws k n (pc + 1) lv (.long (x + y) :: st)) : j ws k n pc lv (.long y :: .long x :: st) := by
  obtain ⟨p, l, e, s, m, args, below, meth, c, A, Q, ⟨hx, hb, hml, hown, hts, hK, hA, hX, hXs⟩, rfl⟩ := C
  intro H locs ls hP hD hS hl
  exact lv_ladd hx hb hd (kk H locs ls hP hD hS hl)
theorem r_lcmp (C : Cx0 own cc nL D ar X R j) (pc : Nat) {x y : Int64} (hd : decode cc pc = .ok (.lcmp, 1)) (kk : j ws k n (pc + 1) lv (.int (lg_cmp x y) :: st)) : j ws k n pc lv (.long y :: .long x :: st) := by
  obtain ⟨p, l, e, s, m, args, below, meth, c, A, Q, ⟨hx, hb, hml, hown, hts, hK, hA, hX, hXs⟩, rfl⟩ := C
  intro H locs ls hP hD hS hl
  exact W.lcmp hx hb hd (kk H locs ls hP hD hS hl)
theorem r_dup (C : Cx0 own cc nL D ar X R j) (pc : Nat) {va : Value} (hd : decode cc pc = .ok (.dup, 1)) (hc : va.category = 1) (kk : j ws k n (pc + 1) lv (va :: va :: st)) : j ws k n pc lv (va :: st) := by
  obtain ⟨p, l, e, s, m, args, below, meth, c, A, Q, ⟨hx, hb, hml, hown, hts, hK, hA, hX, hXs⟩, rfl⟩ := C
  intro H locs ls hP hD hS hl
  exact lv_dup hx hb hd hc (kk H locs ls hP hD hS hl)
theorem r_dup_x1 (C : Cx0 own cc nL D ar X R j) (pc : Nat) {va vb : Value} (hd : decode cc pc = .ok (.dup_x1, 1)) (hc : va.category = 1) (hc2 : vb.category = 1) (kk : j ws k n (pc + 1) lv (va :: vb :: va :: st)) : j ws k n pc lv (va :: vb :: st) := by
  obtain ⟨p, l, e, s, m, args, below, meth, c, A, Q, ⟨hx, hb, hml, hown, hts, hK, hA, hX, hXs⟩, rfl⟩ := C
  intro H locs ls hP hD hS hl
  exact lv_dup_x1 hx hb hd hc hc2 (kk H locs ls hP hD hS hl)
theorem r_dup2 (C : Cx0 own cc nL D ar X R j) (pc : Nat) {va vb : Value} (hd : decode cc pc = .ok (.dup2, 1)) (hc : va.category = 1) (hc2 : vb.category = 1) (kk : j ws k n (pc + 1) lv (va :: vb :: va :: vb :: st)) : j ws k n pc lv (va :: vb :: st) := by
  obtain ⟨p, l, e, s, m, args, below, meth, c, A, Q, ⟨hx, hb, hml, hown, hts, hK, hA, hX, hXs⟩, rfl⟩ := C
  intro H locs ls hP hD hS hl
  exact lv_dup2_11 hx hb hd hc hc2 (kk H locs ls hP hD hS hl)
theorem r_pop (C : Cx0 own cc nL D ar X R j) (pc : Nat) {va : Value} (hd : decode cc pc = .ok (.pop, 1)) (hc : va.category = 1) (kk : j ws k n (pc + 1) lv st) : j ws k n pc lv (va :: st) := by
  obtain ⟨p, l, e, s, m, args, below, meth, c, A, Q, ⟨hx, hb, hml, hown, hts, hK, hA, hX, hXs⟩, rfl⟩ := C
  intro H locs ls hP hD hS hl
  exact lv_pop hx hb hd hc (kk H locs ls hP hD hS hl)
theorem r_null (C : Cx0 own cc nL D ar X R j) (pc : Nat) (hd : decode cc pc = .ok (.aconst_null, 1)) (kk : j ws k n (pc + 1) lv (.null :: st)) : j ws k n pc lv st := by
  obtain ⟨p, l, e, s, m, args, below, meth, c, A, Q, ⟨hx, hb, hml, hown, hts, hK, hA, hX, hXs⟩, rfl⟩ := C
  intro H locs ls hP hD hS hl
  exact lv_null hx hb hd (kk H locs ls hP hD hS hl)
theorem r_goto (C : Cx0 own cc nL D ar X R j) (pc : Nat) {off : Int} (tgt : Nat) (hd : decode cc pc = .ok (.goto off, 3)) (ht : (pc : Int) + off = (tgt : Int)) (kk : j ws k n tgt lv st) : j ws k n pc lv st := by
  obtain ⟨p, l, e, s, m, args, below, meth, c, A, Q, ⟨hx, hb, hml, hown, hts, hK, hA, hX, hXs⟩, rfl⟩ := C
  intro H locs ls hP hD hS hl
  exact lv_goto hx hb hd ht (kk H locs ls hP hD hS hl)
theorem r_ifnull (C : Cx0 own cc nL D ar X R j) (pc : Nat) {x : Nat} {off : Int} (hd : decode cc pc = .ok (.ifnull off, 3)) (kk : j ws k n (pc + 3) lv st) : j ws k n pc lv (.ref x :: st) := by
  obtain ⟨p, l, e, s, m, args, below, meth, c, A, Q, ⟨hx, hb, hml, hown, hts, hK, hA, hX, hXs⟩, rfl⟩ := C
  intro H locs ls hP hD hS hl
  exact lv_ifnull hx hb hd (kk H locs ls hP hD hS hl)
theorem r_ifnullN (C : Cx0 own cc nL D ar X R j) (pc : Nat) {off : Int} (tgt : Nat) (hd : decode cc pc = .ok (.ifnull off, 3)) (ht : (pc : Int) + off = (tgt : Int)) (kk : j ws k n tgt lv st) : j ws k n pc lv (.null :: st) := by
  obtain ⟨p, l, e, s, m, args, below, meth, c, A, Q, ⟨hx, hb, hml, hown, hts, hK, hA, hX, hXs⟩, rfl⟩ := C
  intro H locs ls hP hD hS hl
  exact lv_ifnullN hx hb hd ht (kk H locs ls hP hD hS hl)
theorem r_ifnonnull (C : Cx0 own cc nL D ar X R j) (pc : Nat) {x : Nat} {off : Int} (tgt : Nat) (hd : decode cc pc = .ok (.ifnonnull off, 3)) (ht : (pc : Int) + off = (tgt : Int)) (kk : j ws k n tgt lv st) : j ws k n pc lv (.ref x :: st) := by
  obtain ⟨p, l, e, s, m, args, below, meth, c, A, Q, ⟨hx, hb, hml, hown, hts, hK, hA, hX, hXs⟩, rfl⟩ := C
  intro H locs ls hP hD hS hl
  exact lv_ifnonnull hx hb hd ht (kk H locs ls hP hD hS hl)
theorem r_ifnonnullN (C : Cx0 own cc nL D ar X R j) (pc : Nat) {off : Int} (hd : decode cc pc = .ok (.ifnonnull off, 3)) (kk : j ws k n (pc + 3) lv st) : j ws k n pc lv (.null :: st) := by
  obtain ⟨p, l, e, s, m, args, below, meth, c, A, Q, ⟨hx, hb, hml, hown, hts, hK, hA, hX, hXs⟩, rfl⟩ := C
  intro H locs ls hP hD hS hl
  exact lv_ifnonnullN hx hb hd (kk H locs ls hP hD hS hl)
theorem r_tableIn (C : Cx0 own cc nL D ar X R j) (pc : Nat) {dflt lo hi : Int} {offs : Array Int} {len : Nat} {x : Int32} {off : Int} (tgt : Nat) (hd : decode cc pc = .ok (.tableswitch dflt lo hi offs, len)) (h1 : ¬ x.toInt < lo) (h2 : ¬ hi < x.toInt) (ho : offs[(x.toInt - lo).toNat]? = some off) (ht : (pc : Int) + off = (tgt : Int)) (kk : j ws k n tgt lv st) : j ws k n pc lv (.int x :: st) := by
  obtain ⟨p, l, e, s, m, args, below, meth, c, A, Q, ⟨hx, hb, hml, hown, hts, hK, hA, hX, hXs⟩, rfl⟩ := C
  intro H locs ls hP hD hS hl
  exact lv_tableIn hx hb hd h1 h2 ho ht (kk H locs ls hP hD hS hl)
theorem r_tableOut (C : Cx0 own cc nL D ar X R j) (pc : Nat) {dflt lo hi : Int} {offs : Array Int} {len : Nat} {x : Int32} (tgt : Nat) (hd : decode cc pc = .ok (.tableswitch dflt lo hi offs, len)) (h : x.toInt < lo ∨ hi < x.toInt) (ht : (pc : Int) + dflt = (tgt : Int)) (kk : j ws k n tgt lv st) : j ws k n pc lv (.int x :: st) := by
  obtain ⟨p, l, e, s, m, args, below, meth, c, A, Q, ⟨hx, hb, hml, hown, hts, hK, hA, hX, hXs⟩, rfl⟩ := C
  intro H locs ls hP hD hS hl
  exact lv_tableOut hx hb hd h ht (kk H locs ls hP hD hS hl)
theorem r_lookup (C : Cx0 own cc nL D ar X R j) (pc : Nat) {dflt : Int} {ps : Array (Int × Int)} {len : Nat} {x : Int32} {off : Int} (tgt : Nat) (hd : decode cc pc = .ok (.lookupswitch dflt ps, len)) (hp : (ps.toList.zip (ps.toList.drop 1)).all (fun (a, next) => a.1 < next.1) = true) (ho : Op.lookupswitch.offset ps.toList dflt x.toInt = off) (ht : (pc : Int) + off = (tgt : Int)) (kk : j ws k n tgt lv st) : j ws k n pc lv (.int x :: st) := by
  obtain ⟨p, l, e, s, m, args, below, meth, c, A, Q, ⟨hx, hb, hml, hown, hts, hK, hA, hX, hXs⟩, rfl⟩ := C
  intro H locs ls hP hD hS hl
  exact lv_lookup hx hb hd hp ho ht (kk H locs ls hP hD hS hl)
theorem r_istore_n (C : Cx0 own cc nL D ar X R j) (pc : Nat) {f : Fin 4} {x : Int32} (i : Nat) (hd : decode cc pc = .ok (.istore_n f, 1)) (hi : (f : Nat) = i) (hc : lvC lv = true) (hn : i < nL) (hl0 : lvS i (.int x) lv = lv') (kk : j ws k n (pc + 1) lv' st) : j ws k n pc lv (.int x :: st) := by
  obtain ⟨p, l, e, s, m, args, below, meth, c, A, Q, ⟨hx, hb, hml, hown, hts, hK, hA, hX, hXs⟩, rfl⟩ := C
  intro H locs ls hP hD hS hl
  exact lv_istore_n hx hb hd hi hl hn rfl (fun ls' hl' => kk H locs ls' hP hD hS (lvS_has hc hl0 hl'))
theorem r_istore (C : Cx0 own cc nL D ar X R j) (pc : Nat) {i : Nat} {x : Int32} (hd : decode cc pc = .ok (.istore i, 2)) (hc : lvC lv = true) (hn : i < nL) (hl0 : lvS i (.int x) lv = lv') (kk : j ws k n (pc + 2) lv' st) : j ws k n pc lv (.int x :: st) := by
  obtain ⟨p, l, e, s, m, args, below, meth, c, A, Q, ⟨hx, hb, hml, hown, hts, hK, hA, hX, hXs⟩, rfl⟩ := C
  intro H locs ls hP hD hS hl
  exact lv_istore hx hb hd hl hn rfl (fun ls' hl' => kk H locs ls' hP hD hS (lvS_has hc hl0 hl'))
theorem r_astore_n (C : Cx0 own cc nL D ar X R j) (pc : Nat) {f : Fin 4} {x : Nat} (i : Nat) (hd : decode cc pc = .ok (.astore_n f, 1)) (hi : (f : Nat) = i) (hc : lvC lv = true) (hn : i < nL) (hl0 : lvS i (.ref x) lv = lv') (kk : j ws k n (pc + 1) lv' st) : j ws k n pc lv (.ref x :: st) := by
  obtain ⟨p, l, e, s, m, args, below, meth, c, A, Q, ⟨hx, hb, hml, hown, hts, hK, hA, hX, hXs⟩, rfl⟩ := C
  intro H locs ls hP hD hS hl
  exact lv_astore_n hx hb hd hi hl hn rfl (fun ls' hl' => kk H locs ls' hP hD hS (lvS_has hc hl0 hl'))
theorem r_astore (C : Cx0 own cc nL D ar X R j) (pc : Nat) {i : Nat} {x : Nat} (hd : decode cc pc = .ok (.astore i, 2)) (hc : lvC lv = true) (hn : i < nL) (hl0 : lvS i (.ref x) lv = lv') (kk : j ws k n (pc + 2) lv' st) : j ws k n pc lv (.ref x :: st) := by
  obtain ⟨p, l, e, s, m, args, below, meth, c, A, Q, ⟨hx, hb, hml, hown, hts, hK, hA, hX, hXs⟩, rfl⟩ := C
  intro H locs ls hP hD hS hl
  exact lv_astore hx hb hd hl hn rfl (fun ls' hl' => kk H locs ls' hP hD hS (lvS_has hc hl0 hl'))
theorem r_astore_nN (C : Cx0 own cc nL D ar X R j) (pc : Nat) {f : Fin 4} (i : Nat) (hd : decode cc pc = .ok (.astore_n f, 1)) (hi : (f : Nat) = i) (hc : lvC lv = true) (hn : i < nL) (hl0 : lvS i .null lv = lv') (kk : j ws k n (pc + 1) lv' st) : j ws k n pc lv (.null :: st) := by
  obtain ⟨p, l, e, s, m, args, below, meth, c, A, Q, ⟨hx, hb, hml, hown, hts, hK, hA, hX, hXs⟩, rfl⟩ := C
  intro H locs ls hP hD hS hl
  exact lv_astore_nN hx hb hd hi hl hn rfl (fun ls' hl' => kk H locs ls' hP hD hS (lvS_has hc hl0 hl'))
theorem r_iinc (C : Cx0 own cc nL D ar X R j) (pc : Nat) {i : Nat} {z : Int} {x : Int32} (v : Int32) (hd : decode cc pc = .ok (.iinc i z, 3)) (hx0 : lv.lookup i = some (.int x)) (hv : x + Int32.ofInt z = v) (hc : lvC lv = true) (hn : i < nL) (hl0 : lvS i (.int v) lv = lv') (kk : j ws k n (pc + 3) lv' st) : j ws k n pc lv st := by
  obtain ⟨p, l, e, s, m, args, below, meth, c, A, Q, ⟨hx, hb, hml, hown, hts, hK, hA, hX, hXs⟩, rfl⟩ := C
  intro H locs ls hP hD hS hl
  have hm : ∃ k9 : Nat, lv[k9]? = some (i, .int x) := by
    have : (i, Value.int x) ∈ lv := by
      clear kk hl0 hc hl
      induction lv with
      | nil => cases hx0
      | cons q r ih =>
        obtain ⟨a, b⟩ := q
        rw [List.lookup_cons] at hx0
        cases hb9 : (i == a) with
        | true =>
          rw [hb9] at hx0
          have e : i = a := by simpa using hb9
          subst e
          cases hx0
          exact List.mem_cons_self
        | false =>
          rw [hb9] at hx0
          exact List.mem_cons_of_mem _ (ih hx0)
    exact List.getElem?_of_mem this
  obtain ⟨k9, hk9⟩ := hm
  exact lv_iinc hx hb hd hl hk9 hv hn rfl (fun ls' hl' => kk H locs ls' hP hD hS (lvS_has hc hl0 hl'))
theorem r_if_eq (C : Cx0 own cc nL D ar X R j) (pc : Nat) {x : Int32} {off : Int} (tgt : Nat) (hd : decode cc pc = .ok (.ifCond .eq off, 3)) (ht : (pc : Int) + off = (tgt : Int)) (kt : x = 0 → j ws k n tgt lv st) (kf : ¬ x = 0 → j ws k n (pc + 3) lv st) : j ws k n pc lv (.int x :: st) := by
  obtain ⟨p, l, e, s, m, args, below, meth, c, A, Q, ⟨hx, hb, hml, hown, hts, hK, hA, hX, hXs⟩, rfl⟩ := C
  intro H locs ls hP hD hS hl
  exact lv_if_eq hx hb hd ht (fun h => kt h H locs ls hP hD hS hl) (fun h => kf h H locs ls hP hD hS hl)
theorem r_icmp_eq (C : Cx0 own cc nL D ar X R j) (pc : Nat) {x y : Int32} {off : Int} (tgt : Nat) (hd : decode cc pc = .ok (.if_icmp .eq off, 3)) (ht : (pc : Int) + off = (tgt : Int)) (kt : x = y → j ws k n tgt lv st) (kf : ¬ x = y → j ws k n (pc + 3) lv st) : j ws k n pc lv (.int y :: .int x :: st) := by
  obtain ⟨p, l, e, s, m, args, below, meth, c, A, Q, ⟨hx, hb, hml, hown, hts, hK, hA, hX, hXs⟩, rfl⟩ := C
  intro H locs ls hP hD hS hl
  exact lv_icmp_eq hx hb hd ht (fun h => kt h H locs ls hP hD hS hl) (fun h => kf h H locs ls hP hD hS hl)
theorem r_if_ne (C : Cx0 own cc nL D ar X R j) (pc : Nat) {x : Int32} {off : Int} (tgt : Nat) (hd : decode cc pc = .ok (.ifCond .ne off, 3)) (ht : (pc : Int) + off = (tgt : Int)) (kt : ¬ x = 0 → j ws k n tgt lv st) (kf : x = 0 → j ws k n (pc + 3) lv st) : j ws k n pc lv (.int x :: st) := by
  obtain ⟨p, l, e, s, m, args, below, meth, c, A, Q, ⟨hx, hb, hml, hown, hts, hK, hA, hX, hXs⟩, rfl⟩ := C
  intro H locs ls hP hD hS hl
  exact lv_if_ne hx hb hd ht (fun h => kt h H locs ls hP hD hS hl) (fun h => kf h H locs ls hP hD hS hl)
theorem r_icmp_ne (C : Cx0 own cc nL D ar X R j) (pc : Nat) {x y : Int32} {off : Int} (tgt : Nat) (hd : decode cc pc = .ok (.if_icmp .ne off, 3)) (ht : (pc : Int) + off = (tgt : Int)) (kt : ¬ x = y → j ws k n tgt lv st) (kf : x = y → j ws k n (pc + 3) lv st) : j ws k n pc lv (.int y :: .int x :: st) := by
  obtain ⟨p, l, e, s, m, args, below, meth, c, A, Q, ⟨hx, hb, hml, hown, hts, hK, hA, hX, hXs⟩, rfl⟩ := C
  intro H locs ls hP hD hS hl
  exact lv_icmp_ne hx hb hd ht (fun h => kt h H locs ls hP hD hS hl) (fun h => kf h H locs ls hP hD hS hl)
theorem r_if_lt (C : Cx0 own cc nL D ar X R j) (pc : Nat) {x : Int32} {off : Int} (tgt : Nat) (hd : decode cc pc = .ok (.ifCond .lt off, 3)) (ht : (pc : Int) + off = (tgt : Int)) (kt : x < 0 → j ws k n tgt lv st) (kf : ¬ x < 0 → j ws k n (pc + 3) lv st) : j ws k n pc lv (.int x :: st) := by
  obtain ⟨p, l, e, s, m, args, below, meth, c, A, Q, ⟨hx, hb, hml, hown, hts, hK, hA, hX, hXs⟩, rfl⟩ := C
  intro H locs ls hP hD hS hl
  exact lv_if_lt hx hb hd ht (fun h => kt h H locs ls hP hD hS hl) (fun h => kf h H locs ls hP hD hS hl)
theorem r_icmp_lt (C : Cx0 own cc nL D ar X R j) (pc : Nat) {x y : Int32} {off : Int} (tgt : Nat) (hd : decode cc pc = .ok (.if_icmp .lt off, 3)) (ht : (pc : Int) + off = (tgt : Int)) (kt : x < y → j ws k n tgt lv st) (kf : ¬ x < y → j ws k n (pc + 3) lv st) : j ws k n pc lv (.int y :: .int x :: st) := by
  obtain ⟨p, l, e, s, m, args, below, meth, c, A, Q, ⟨hx, hb, hml, hown, hts, hK, hA, hX, hXs⟩, rfl⟩ := C
  intro H locs ls hP hD hS hl
  exact lv_icmp_lt hx hb hd ht (fun h => kt h H locs ls hP hD hS hl) (fun h => kf h H locs ls hP hD hS hl)
theorem r_if_ge (C : Cx0 own cc nL D ar X R j) (pc : Nat) {x : Int32} {off : Int} (tgt : Nat) (hd : decode cc pc = .ok (.ifCond .ge off, 3)) (ht : (pc : Int) + off = (tgt : Int)) (kt : 0 ≤ x → j ws k n tgt lv st) (kf : ¬ 0 ≤ x → j ws k n (pc + 3) lv st) : j ws k n pc lv (.int x :: st) := by
  obtain ⟨p, l, e, s, m, args, below, meth, c, A, Q, ⟨hx, hb, hml, hown, hts, hK, hA, hX, hXs⟩, rfl⟩ := C
  intro H locs ls hP hD hS hl
  exact lv_if_ge hx hb hd ht (fun h => kt h H locs ls hP hD hS hl) (fun h => kf h H locs ls hP hD hS hl)
theorem r_icmp_ge (C : Cx0 own cc nL D ar X R j) (pc : Nat) {x y : Int32} {off : Int} (tgt : Nat) (hd : decode cc pc = .ok (.if_icmp .ge off, 3)) (ht : (pc : Int) + off = (tgt : Int)) (kt : y ≤ x → j ws k n tgt lv st) (kf : ¬ y ≤ x → j ws k n (pc + 3) lv st) : j ws k n pc lv (.int y :: .int x :: st) := by
  obtain ⟨p, l, e, s, m, args, below, meth, c, A, Q, ⟨hx, hb, hml, hown, hts, hK, hA, hX, hXs⟩, rfl⟩ := C
  intro H locs ls hP hD hS hl
  exact lv_icmp_ge hx hb hd ht (fun h => kt h H locs ls hP hD hS hl) (fun h => kf h H locs ls hP hD hS hl)
theorem r_if_gt (C : Cx0 own cc nL D ar X R j) (pc : Nat) {x : Int32} {off : Int} (tgt : Nat) (hd : decode cc pc = .ok (.ifCond .gt off, 3)) (ht : (pc : Int) + off = (tgt : Int)) (kt : 0 < x → j ws k n tgt lv st) (kf : ¬ 0 < x → j ws k n (pc + 3) lv st) : j ws k n pc lv (.int x :: st) := by
  obtain ⟨p, l, e, s, m, args, below, meth, c, A, Q, ⟨hx, hb, hml, hown, hts, hK, hA, hX, hXs⟩, rfl⟩ := C
  intro H locs ls hP hD hS hl
  exact lv_if_gt hx hb hd ht (fun h => kt h H locs ls hP hD hS hl) (fun h => kf h H locs ls hP hD hS hl)
theorem r_icmp_gt (C : Cx0 own cc nL D ar X R j) (pc : Nat) {x y : Int32} {off : Int} (tgt : Nat) (hd : decode cc pc = .ok (.if_icmp .gt off, 3)) (ht : (pc : Int) + off = (tgt : Int)) (kt : y < x → j ws k n tgt lv st) (kf : ¬ y < x → j ws k n (pc + 3) lv st) : j ws k n pc lv (.int y :: .int x :: st) := by
  obtain ⟨p, l, e, s, m, args, below, meth, c, A, Q, ⟨hx, hb, hml, hown, hts, hK, hA, hX, hXs⟩, rfl⟩ := C
  intro H locs ls hP hD hS hl
  exact lv_icmp_gt hx hb hd ht (fun h => kt h H locs ls hP hD hS hl) (fun h => kf h H locs ls hP hD hS hl)
theorem r_if_le (C : Cx0 own cc nL D ar X R j) (pc : Nat) {x : Int32} {off : Int} (tgt : Nat) (hd : decode cc pc = .ok (.ifCond .le off, 3)) (ht : (pc : Int) + off = (tgt : Int)) (kt : x ≤ 0 → j ws k n tgt lv st) (kf : ¬ x ≤ 0 → j ws k n (pc + 3) lv st) : j ws k n pc lv (.int x :: st) := by
  obtain ⟨p, l, e, s, m, args, below, meth, c, A, Q, ⟨hx, hb, hml, hown, hts, hK, hA, hX, hXs⟩, rfl⟩ := C
  intro H locs ls hP hD hS hl
  exact lv_if_le hx hb hd ht (fun h => kt h H locs ls hP hD hS hl) (fun h => kf h H locs ls hP hD hS hl)
theorem r_icmp_le (C : Cx0 own cc nL D ar X R j) (pc : Nat) {x y : Int32} {off : Int} (tgt : Nat) (hd : decode cc pc = .ok (.if_icmp .le off, 3)) (ht : (pc : Int) + off = (tgt : Int)) (kt : x ≤ y → j ws k n tgt lv st) (kf : ¬ x ≤ y → j ws k n (pc + 3) lv st) : j ws k n pc lv (.int y :: .int x :: st) := by
  obtain ⟨p, l, e, s, m, args, below, meth, c, A, Q, ⟨hx, hb, hml, hown, hts, hK, hA, hX, hXs⟩, rfl⟩ := C
  intro H locs ls hP hD hS hl
  exact lv_icmp_le hx hb hd ht (fun h => kt h H locs ls hP hD hS hl) (fun h => kf h H locs ls hP hD hS hl)
theorem r_widen (C : Cx0 own cc nL D ar X R j) {pc : Nat} (k' n' : Nat) (h1 : k ≤ k') (h2 : n ≤ n') (kk : j ws k' n' pc lv st) : j ws k n pc lv st := by
  obtain ⟨p, l, e, s, m, args, below, meth, c, A, Q, hz, rfl⟩ := C
  intro H locs ls hP hD hS hl
  exact W.widen h1 h2 (kk H locs ls hP hD hS hl)
end RU
section RET
variable {own : String} {cc : ByteArray} {nL : Nat} {D : va_G} {ar : Nat → ClassId} {X : XT} {R : Room} {j : jT} {Ret : Option Value → va_W → Prop}
variable {ws : va_W} {k n : Nat} {lv : List (Nat × Value)} {rt : FieldType}
theorem r_iret (C : Cx own cc nL D ar X R (some .int) Ret j) (pc : Nat) {v : Int32} (hd : decode cc pc = .ok (.ireturn, 1)) (hk : k ≤ R.cells) (hn : n ≤ R.slots) (hp : Ret (some (.int v)) ws) : j ws k n pc lv [.int v] := by
  obtain ⟨p, l, e, s, m, args, below, meth, c, A, ⟨hx, hb, hml, hown, hts, hK, hA, hX, hXs⟩, hr, hlocks, rfl⟩ := C
  intro H locs ls hP hD hS hl
  refine W.widen hk hn ?_
  exact W.iret hx hb hr (fun t ht hW => ⟨⟨_, ws, rfl, hp, by rw [ht]; exact hP, hD⟩, hS.F ht⟩) hS.2.2 hd hlocks
theorem r_zret (C : Cx own cc nL D ar X R (some .boolean) Ret j) (pc : Nat) {v : Int32} (hv : narrow .boolean (.int v) = .int v) (hd : decode cc pc = .ok (.ireturn, 1)) (hk : k ≤ R.cells) (hn : n ≤ R.slots) (hp : Ret (some (.int v)) ws) : j ws k n pc lv [.int v] := by
  obtain ⟨p, l, e, s, m, args, below, meth, c, A, ⟨hx, hb, hml, hown, hts, hK, hA, hX, hXs⟩, hr, hlocks, rfl⟩ := C
  intro H locs ls hP hD hS hl
  refine W.widen hk hn ?_
  exact W.zret hx hb hr hv (fun t ht hW => ⟨⟨_, ws, rfl, hp, by rw [ht]; exact hP, hD⟩, hS.F ht⟩) hS.2.2 hd hlocks
theorem r_lret (C : Cx own cc nL D ar X R (some .long) Ret j) (pc : Nat) {v : Int64} (hd : decode cc pc = .ok (.lreturn, 1)) (hk : k ≤ R.cells) (hn : n ≤ R.slots) (hp : Ret (some (.long v)) ws) : j ws k n pc lv [.long v] := by
  obtain ⟨p, l, e, s, m, args, below, meth, c, A, ⟨hx, hb, hml, hown, hts, hK, hA, hX, hXs⟩, hr, hlocks, rfl⟩ := C
  intro H locs ls hP hD hS hl
  refine W.widen hk hn ?_
  exact W.lret hx hb hr (fun t ht hW => ⟨⟨_, ws, rfl, hp, by rw [ht]; exact hP, hD⟩, hS.F ht⟩) hS.2.2 hd hlocks
theorem r_vret (C : Cx own cc nL D ar X R none Ret j) (pc : Nat)  (hd : decode cc pc = .ok (.return_, 1)) (hk : k ≤ R.cells) (hn : n ≤ R.slots) (hp : Ret none ws) : j ws k n pc lv [] := by
  obtain ⟨p, l, e, s, m, args, below, meth, c, A, ⟨hx, hb, hml, hown, hts, hK, hA, hX, hXs⟩, hr, hlocks, rfl⟩ := C
  intro H locs ls hP hD hS hl
  refine W.widen hk hn ?_
  exact W.vret hx hb hr (fun t ht hW => ⟨⟨_, ws, rfl, hp, by rw [ht]; exact hP, hD⟩, hS.F ht⟩) hS.2.2 hd hlocks
theorem r_aret (C : Cx own cc nL D ar X R (some rt) Ret j) (pc : Nat) {v : Value} (hrt : (∃ n, rt = .object n) ∨ ∃ t, rt = .array t) (hv : v = .null ∨ ∃ a, v = .ref a) (hd : decode cc pc = .ok (.areturn, 1)) (hk : k ≤ R.cells) (hn : n ≤ R.slots) (hp : Ret (some v) ws) : j ws k n pc lv [v] := by
  obtain ⟨p, l, e, s, m, args, below, meth, c, A, ⟨hx, hb, hml, hown, hts, hK, hA, hX, hXs⟩, hr, hlocks, rfl⟩ := C
  intro H locs ls hP hD hS hl
  refine W.widen hk hn ?_
  exact W.aret hx hb hr hrt hv (fun t ht hW => ⟨⟨_, ws, rfl, hp, by rw [ht]; exact hP, hD⟩, hS.F ht⟩) hS.2.2 hd hlocks
end RET
section CAL
variable {own : String} {cc : ByteArray} {nL : Nat} {D : va_G} {ar : Nat → ClassId} {X : XT} {R : Room} {j : jT}
variable {wl wc wr : va_W} {k n : Nat} {lv : List (Nat × Value)} {rest : List Value}
variable {y : MethodName} {bytes : ByteArray} {maxL fr lo mc ms index : Nat} {ret : Option FieldType} {As : List Value} {Ret : Option Value → va_W → Prop} {b : Nat}
theorem xx_split {D : va_G} {cl : List vw_C} {A : Nat → Prop} {w1 w2 : va_W} {H : Heap} (hP : va_P D cl (w1 ++ w2) H) (hD : va_D A (w1 ++ w2)) : va_P D cl w2 H ∧ va_D A w2 ∧ va_P D cl w1 H ∧ va_D A w1 ∧ (∀ (i j : Nat) (x y : Nat × va_E), w1[i]? = some x → w2[j]? = some y → x.1 ≠ y.1) := by
  have e2 : ∀ (i : Nat) (x : Nat × va_E), w2[i]? = some x → (w1 ++ w2)[w1.length + i]? = some x := fun i x h => by
    rw [List.getElem?_append_right (by omega)]
    rw [show w1.length + i - w1.length = i by omega]
    exact h
  have e1 : ∀ (i : Nat) (x : Nat × va_E), w1[i]? = some x → (w1 ++ w2)[i]? = some x ∧ i < w1.length := fun i x h => by
    have hi : i < w1.length := (List.getElem?_eq_some_iff.mp h).1
    rw [List.getElem?_append_left hi]
    exact ⟨h, hi⟩
  refine ⟨fun i x h => hP _ x (e2 i x h), ⟨fun i j x y hx hy hxy => ?_, fun i x h => hD.2 _ x (e2 i x h)⟩, fun i x h => hP _ x (e1 i x h).1, ⟨fun i j x y hx hy hxy => hD.1 i j x y (e1 i x hx).1 (e1 j y hy).1 hxy, fun i x h => hD.2 _ x (e1 i x h).1⟩, fun i j x y hx hy hxy => ?_⟩
  · have := hD.1 _ _ x y (e2 i x hx) (e2 j y hy) hxy
    omega
  · have h1 := e1 i x hx
    have := hD.1 _ _ x y h1.1 (e2 j y hy) hxy
    omega
theorem xx_comm {D : va_G} {cl : List vw_C} {A : Nat → Prop} {w1 w2 : va_W} {H : Heap} (hP : va_P D cl (w1 ++ w2) H) (hD : va_D A (w1 ++ w2)) : va_P D cl (w2 ++ w1) H ∧ va_D A (w2 ++ w1) := by
  obtain ⟨p2, d2, p1, d1, ne⟩ := xx_split hP hD
  exact ⟨va_P.app p2 p1, va_D.app d2 d1 (fun i j x y hx hy e => ne j i y x hy hx e.symm)⟩
/-- behind any call: the callee's world is new, the rest stands as it was -/
theorem xx_behind {pc : Nat} {p : Program} {l : Launch} {e : Env} {s : State} {m : MethodId} {args : Array Value} {below : List Frame} {meth : Method} {c : Code} {A : Nat → Prop} {Q : State → Prop} {H : Heap} {locs : List Loc} {ls : Array Slot} {st0 : List Value} {a : Array Value}
    (hr : va_Run p l e R s m args below meth c H locs k n mc ms (F0 m pc ls st0) rest (Qn D Ret (va_A wc H.size) a) (va_A wc H.size)) (hA : ∀ q, s.heap.size ≤ q → A q) (hP : va_P D cls7 (wl ++ wc) H) (hD : va_D A (wl ++ wc)) (hS : va_S A s.heap H locs) (hl : lv_has ls nL lv)
    (kk : ∀ (r : Option Value) (wc' : va_W), Ret r wc' → JJ p l e R s m args below meth c A D nL Q (wl ++ wc') (k + mc) (n + ms) (pc + 3) lv (r.toList ++ rest)) : W p l e R s m args below meth c H locs k n Q (F0 m pc ls st0) := by
  intro T hT XX
  obtain ⟨v, st₀, t, T', L, h0, X', hL, e1, e2, ⟨⟨r, wc', hv, hp, hP1, hD1⟩, hz, hk⟩, stp⟩ := hr T hT XX
  cases hv
  rw [h0] at hz hk
  obtain ⟨hPc, hDc, hPl, hDl, hne⟩ := xx_split hP hD
  have hF : ∀ q, va_A wc H.size q → A q := fun q h => by
    rcases h with ⟨k9, e9, h⟩ | h
    · exact hDc.2 k9 (q, e9) h
    · exact hA q (Nat.le_trans hS.1 h)
  have hnl : ∀ (i : Nat) (x : Nat × va_E), wl[i]? = some x → x.1 < H.size ∧ ¬ va_A wc H.size x.1 := fun i x hx => by
    have hlt := (hPl i x hx).lt
    refine ⟨hlt, fun h => ?_⟩
    rcases h with ⟨k9, e9, h⟩ | h
    · exact hne i k9 x (x.1, e9) hx h rfl
    · omega
  have hPn : va_P D cls7 (wl ++ wc') T'.heap := by
    rw [e1]
    exact va_P.app (fun i x hx => (hPl i x hx).kept (hk x.1 (hnl i x hx).1 (hnl i x hx).2)) hP1
  have hDn : va_D A (wl ++ wc') := va_D.app hDl (hD1.weaken (fun k9 q _ h => hF q.1 h)) (fun i j9 x z hx hy hxy => (hnl i x hx).2 (by rw [hxy]; exact hD1.2 j9 z hy))
  have hSn : va_S A s.heap T'.heap (locs ++ L) := ⟨Nat.le_trans hS.1 (by rw [e1]; exact hz), fun q h1 h2 => by rw [e1, hk q (Nat.lt_of_lt_of_le h1 hS.1) (fun z => h2 (hF q z))]; exact hS.2.1 q h1 h2, fun q hq => by
    rcases List.mem_append.mp hq with h | h
    · exact hS.2.2 q h
    · exact hF _ (hL q h)⟩
  obtain ⟨t2, a1, b1⟩ := kk v wc' hp T'.heap (locs ++ L) ls hPn hDn hSn hl T' rfl X'
  exact ⟨t2, stp t2 a1, b1⟩
/-- what a callee wants of the state in which it starts -/
theorem xx_pre {A : Nat → Prop} {s : State} {H : Heap} {locs : List Loc} (hX : Xok X) (hXs : X A s s.heap) (hK : va_K D cls7 (tys6 ar) s) (hA : ∀ q, s.heap.size ≤ q → A q) (hP : va_P D cls7 wc H) (hD : va_D A wc) (hS : va_S A s.heap H locs) :
    ∀ U : State, U.heap = H → s.WarmedH U.vm → (U.heap.size = H.size ∧ va_P D cls7 wc U.heap ∧ va_K D cls7 (tys6 ar) U ∧ va_D (fun _ => True) wc ∧ X (va_A wc H.size) U U.heap) := by
  intro U hU hW
  refine ⟨by rw [hU], by rw [hU]; exact hP, va_K.moved hW.alike hK, hD.weaken (fun _ _ _ _ => trivial), ?_⟩
  rw [hU]
  refine hX.2.2.2 A _ U H (fun q hq h => ?_) (hX.2.1 A s U H hW (hX.2.2.1 A s s.heap H hS.1 hS.2.1 hXs))
  rcases h with ⟨k9, e9, h⟩ | h
  · exact hD.2 k9 (q, e9) h
  · omega
theorem xx_blind {av : List Value} {sz : Nat} (hX : Xok X) : FrameBlind (va_Pc av (fun U => U.heap.size = sz ∧ va_P D cls7 wc U.heap ∧ va_K D cls7 (tys6 ar) U ∧ va_D (fun _ => True) wc ∧ X (va_A wc sz) U U.heap)) := fun a U g mk q => by
  obtain ⟨q0, q1, qP, qK, qD, qX⟩ := q
  exact ⟨q0, q1, qP, va_K.moved (u := U) (U := U.calling g mk a) (Vm.Alike.refl U.vm) qK, qD, hX.1 _ U (U.calling g mk a) _ rfl qX⟩
/-- the room and the words of a callee: frames, locals, its code in the tables, its descriptor -/
def Rm (R : Room) (k n : Nat) (y : MethodName) (bytes : ByteArray) (maxL : Nat) (ret : Option FieldType) (fr lo mc ms np : Nat) : Prop :=
  (fr + 1 ≤ R.frames ∧ 8 + (maxL + 11) + lo ≤ R.locals) ∧ (k + mc ≤ R.cells ∧ n + ms ≤ R.slots) ∧ Cond.code y bytes maxL ret ∈ gtbl ∧ Cond.initialized y.cls ∈ gtbl ∧ (y.cls ≠ "java/lang/invoke/MethodHandle" ∧ y.cls ≠ "java/lang/invoke/VarHandle" ∧ (parseMethodDescriptor y.desc).map (fun d => d.parameters.length) = some np)
/-- invokevirtual; the callee's world on the right -/
theorem r_callV (C : Cx0 own cc nL D ar X R j) (pc : Nat) (np : Nat) {CC : String} (hM : Cn D ar X y bytes maxL ret fr lo mc ms (.ref b :: As) wc Ret) (hR : Rm R k n y bytes maxL ret fr lo mc ms np) (hl1 : Cond.methodLink own index y ∈ gtbl) (hl2 : Cond.instanceMethod y ∈ gtbl) (hl3 : Cond.selects CC y y ∈ gtbl)
    (q0 ci : Nat) {fs : List Value} {T9 : u_T} {N9 : Nat} (hb0 : wc[q0]? = some (b, .inr (ci, fs))) (hc0 : cls7[ci]? = some (CC, T9, N9)) (hn : As.length = np) (hr : (rest.map fun v => v.category).sum ≤ 8) (hd : decode cc pc = .ok (.invokevirtual index, 3))
    (kk : ∀ (r : Option Value) (wc' : va_W), Ret r wc' → j (wl ++ wc') (k + mc) (n + ms) (pc + 3) lv (r.toList ++ rest)) : j (wl ++ wc) k n pc lv (As.reverse ++ .ref b :: rest) := by
  obtain ⟨p, l, e, s, m, args, below, meth, c, A, Q, ⟨hx, hb, hml, hown, hts, hK, hA, hX, hXs⟩, rfl⟩ := C
  intro H locs ls hP hD hS hl
  obtain ⟨hPc, hDc, -⟩ := xx_split hP hD
  refine xx_behind (va_runV (As := As) (rest := rest) ⟨hx, hb, hml, hown, hts⟩ (hM l H.size) ⟨callB_of np hts (gtbl_cons hR.2.2.1) rfl rfl rfl (hts _ hR.2.2.2.1) (hts _ hl1) hR.2.2.2.2 hR.1, hts _ hl2, hts _ hl3⟩ ⟨xx_blind hX, va_recv hK hPc hc0 hb0, fun U hU hW => ⟨rfl, xx_pre hX hXs hK hA hPc hDc hS U hU hW⟩⟩ rfl hn hl.1 rfl (lv_room hr) hd hR.2.1) hA hP hD hS hl kk
/-- invokestatic -/
theorem r_callS (C : Cx0 own cc nL D ar X R j) (pc : Nat) (np : Nat) (hM : Cn D ar X y bytes maxL ret fr lo mc ms As wc Ret) (hR : Rm R k n y bytes maxL ret fr lo mc ms np) (hl1 : Cond.methodLink own index y ∈ gtbl) (hl2 : Cond.static y ∈ gtbl)
    (hn : As.length = np) (hr : (rest.map fun v => v.category).sum ≤ 8) (hd : decode cc pc = .ok (.invokestatic index, 3))
    (kk : ∀ (r : Option Value) (wc' : va_W), Ret r wc' → j (wl ++ wc') (k + mc) (n + ms) (pc + 3) lv (r.toList ++ rest)) : j (wl ++ wc) k n pc lv (As.reverse ++ rest) := by
  obtain ⟨p, l, e, s, m, args, below, meth, c, A, Q, ⟨hx, hb, hml, hown, hts, hK, hA, hX, hXs⟩, rfl⟩ := C
  intro H locs ls hP hD hS hl
  obtain ⟨hPc, hDc, -⟩ := xx_split hP hD
  refine xx_behind (va_runS (As := As) (rest := rest) ⟨hx, hb, hml, hown, hts⟩ (hM l H.size) ⟨callB_of np hts (gtbl_cons hR.2.2.1) rfl rfl rfl (hts _ hR.2.2.2.1) (hts _ hl1) hR.2.2.2.2 hR.1, hts _ hl2⟩ ⟨xx_blind hX, fun U hU hW => ⟨rfl, xx_pre hX hXs hK hA hPc hDc hS U hU hW⟩⟩ rfl hn hl.1 rfl (lv_room hr) hd hR.2.1) hA hP hD hS hl kk
/-- invokespecial <init> -/
theorem r_callI (C : Cx0 own cc nL D ar X R j) (pc : Nat) (np : Nat) (hM : Cn D ar X y bytes maxL none fr lo mc ms (.ref b :: As) wc Ret) (hR : Rm R k n y bytes maxL none fr lo mc ms np) (hl1 : Cond.methodLink own index y ∈ gtbl) (hl2 : Cond.instanceMethod y ∈ gtbl) (hy1 : y.name = "<init>")
    (hn : As.length = np) (hr : (rest.map fun v => v.category).sum ≤ 8) (hd : decode cc pc = .ok (.invokespecial index, 3))
    (kk : ∀ (r : Option Value) (wc' : va_W), Ret r wc' → j (wl ++ wc') (k + mc) (n + ms) (pc + 3) lv (r.toList ++ rest)) : j (wl ++ wc) k n pc lv (As.reverse ++ .ref b :: rest) := by
  obtain ⟨p, l, e, s, m, args, below, meth, c, A, Q, ⟨hx, hb, hml, hown, hts, hK, hA, hX, hXs⟩, rfl⟩ := C
  intro H locs ls hP hD hS hl
  obtain ⟨hPc, hDc, -⟩ := xx_split hP hD
  refine xx_behind (va_runI (As := As) (rest := rest) ⟨hx, hb, hml, hown, hts⟩ (hM l H.size) ⟨callB_of np hts (gtbl_cons hR.2.2.1) rfl rfl rfl (hts _ hR.2.2.2.1) (hts _ hl1) hR.2.2.2.2 hR.1, hy1, hts _ hl2⟩ ⟨xx_blind hX, fun U hU hW => ⟨rfl, xx_pre hX hXs hK hA hPc hDc hS U hU hW⟩⟩ rfl hn hl.1 rfl (lv_room hr) hd hR.2.1) hA hP hD hS hl kk
/-- the callee's world may be moved to the right, or to the left -/
theorem r_comm (C : Cx0 own cc nL D ar X R j) {pc : Nat} {st : List Value} (kk : j (wr ++ wl) k n pc lv st) : j (wl ++ wr) k n pc lv st := by
  obtain ⟨p, l, e, s, m, args, below, meth, c, A, Q, hz, rfl⟩ := C
  intro H locs ls hP hD hS hl
  obtain ⟨h1, h2⟩ := xx_comm hP hD
  exact kk H locs ls h1 h2 hS hl
theorem r_objInit (C : Cx0 own cc nL D ar X R j) (pc : Nat) {ws : va_W} {a : Nat} (hl1 : Cond.methodLink own index Lib.objectInit ∈ gtbl) (hl2 : Cond.instanceMethod Lib.objectInit ∈ gtbl) (hl3 : Cond.code Lib.objectInit ⟨#[0xb1]⟩ 1 none ∈ gtbl) (hd : decode cc pc = .ok (.invokespecial index, 3)) (hf : 1 ≤ R.frames) (hlo : (rest.map fun v => v.category).sum + 12 ≤ R.locals)
    (kk : j ws k n (pc + 3) lv rest) : j ws k n pc lv (.ref a :: rest) := by
  obtain ⟨p, l, e, s, m, args, below, meth, c, A, Q, ⟨hx, hb, hml, hown, hts, hK, hA, hX, hXs⟩, rfl⟩ := C
  intro H locs ls hP hD hS hl
  exact W.objInit hx hb hown (hts _ hl1) (hts _ hl2) (hts _ hl3) rfl (by rw [hml]; exact hl.1) rfl hd hf (by show 2 * 0 + _ + 12 ≤ _; omega) (kk H locs ls hP hD hS hl)
end CAL
end
section
/-! the printed decode rows of EggHouseModel -/
theorem dX5_init_0 : decode cX5_init 0 = .ok (.aload_n 0, 1) := by decide +kernel
theorem dX5_init_1 : decode cX5_init 1 = .ok (.invokespecial 1, 3) := by decide +kernel
theorem dX5_init_4 : decode cX5_init 4 = .ok (.aload_n 0, 1) := by decide +kernel
theorem dX5_init_5 : decode cX5_init 5 = .ok (.sipush 600, 3) := by decide +kernel
theorem dX5_init_8 : decode cX5_init 8 = .ok (.newarray .int, 2) := by decide +kernel
theorem dX5_init_10 : decode cX5_init 10 = .ok (.putfield 7, 3) := by decide +kernel
theorem dX5_init_13 : decode cX5_init 13 = .ok (.aload_n 0, 1) := by decide +kernel
theorem dX5_init_14 : decode cX5_init 14 = .ok (.sipush 600, 3) := by decide +kernel
theorem dX5_init_17 : decode cX5_init 17 = .ok (.newarray .int, 2) := by decide +kernel
theorem dX5_init_19 : decode cX5_init 19 = .ok (.putfield 13, 3) := by decide +kernel
theorem dX5_init_22 : decode cX5_init 22 = .ok (.aload_n 0, 1) := by decide +kernel
theorem dX5_init_23 : decode cX5_init 23 = .ok (.sipush 600, 3) := by decide +kernel
theorem dX5_init_26 : decode cX5_init 26 = .ok (.newarray .int, 2) := by decide +kernel
theorem dX5_init_28 : decode cX5_init 28 = .ok (.putfield 16, 3) := by decide +kernel
theorem dX5_init_31 : decode cX5_init 31 = .ok (.aload_n 0, 1) := by decide +kernel
theorem dX5_init_32 : decode cX5_init 32 = .ok (.sipush 600, 3) := by decide +kernel
theorem dX5_init_35 : decode cX5_init 35 = .ok (.newarray .int, 2) := by decide +kernel
theorem dX5_init_37 : decode cX5_init 37 = .ok (.putfield 19, 3) := by decide +kernel
theorem dX5_init_40 : decode cX5_init 40 = .ok (.aload_n 0, 1) := by decide +kernel
theorem dX5_init_41 : decode cX5_init 41 = .ok (.sipush 600, 3) := by decide +kernel
theorem dX5_init_44 : decode cX5_init 44 = .ok (.newarray .int, 2) := by decide +kernel
theorem dX5_init_46 : decode cX5_init 46 = .ok (.putfield 22, 3) := by decide +kernel
theorem dX5_init_49 : decode cX5_init 49 = .ok (.aload_n 0, 1) := by decide +kernel
theorem dX5_init_50 : decode cX5_init 50 = .ok (.sipush 600, 3) := by decide +kernel
theorem dX5_init_53 : decode cX5_init 53 = .ok (.newarray .int, 2) := by decide +kernel
theorem dX5_init_55 : decode cX5_init 55 = .ok (.putfield 25, 3) := by decide +kernel
theorem dX5_init_58 : decode cX5_init 58 = .ok (.aload_n 0, 1) := by decide +kernel
theorem dX5_init_59 : decode cX5_init 59 = .ok (.sipush 600, 3) := by decide +kernel
theorem dX5_init_62 : decode cX5_init 62 = .ok (.newarray .int, 2) := by decide +kernel
theorem dX5_init_64 : decode cX5_init 64 = .ok (.putfield 28, 3) := by decide +kernel
theorem dX5_init_67 : decode cX5_init 67 = .ok (.aload_n 0, 1) := by decide +kernel
theorem dX5_init_68 : decode cX5_init 68 = .ok (.bipush 20, 2) := by decide +kernel
theorem dX5_init_70 : decode cX5_init 70 = .ok (.newarray .int, 2) := by decide +kernel
theorem dX5_init_72 : decode cX5_init 72 = .ok (.putfield 31, 3) := by decide +kernel
theorem dX5_init_75 : decode cX5_init 75 = .ok (.aload_n 0, 1) := by decide +kernel
theorem dX5_init_76 : decode cX5_init 76 = .ok (.bipush 16, 2) := by decide +kernel
theorem dX5_init_78 : decode cX5_init 78 = .ok (.newarray .int, 2) := by decide +kernel
theorem dX5_init_80 : decode cX5_init 80 = .ok (.putfield 34, 3) := by decide +kernel
theorem dX5_init_83 : decode cX5_init 83 = .ok (.aload_n 0, 1) := by decide +kernel
theorem dX5_init_84 : decode cX5_init 84 = .ok (.bipush 30, 2) := by decide +kernel
theorem dX5_init_86 : decode cX5_init 86 = .ok (.newarray .int, 2) := by decide +kernel
theorem dX5_init_88 : decode cX5_init 88 = .ok (.putfield 37, 3) := by decide +kernel
theorem dX5_init_91 : decode cX5_init 91 = .ok (.aload_n 0, 1) := by decide +kernel
theorem dX5_init_92 : decode cX5_init 92 = .ok (.bipush 30, 2) := by decide +kernel
theorem dX5_init_94 : decode cX5_init 94 = .ok (.newarray .int, 2) := by decide +kernel
theorem dX5_init_96 : decode cX5_init 96 = .ok (.putfield 40, 3) := by decide +kernel
theorem dX5_init_99 : decode cX5_init 99 = .ok (.aload_n 0, 1) := by decide +kernel
theorem dX5_init_100 : decode cX5_init 100 = .ok (.bipush 20, 2) := by decide +kernel
theorem dX5_init_102 : decode cX5_init 102 = .ok (.newarray .int, 2) := by decide +kernel
theorem dX5_init_104 : decode cX5_init 104 = .ok (.putfield 43, 3) := by decide +kernel
theorem dX5_init_107 : decode cX5_init 107 = .ok (.aload_n 0, 1) := by decide +kernel
theorem dX5_init_108 : decode cX5_init 108 = .ok (.iconst 4, 1) := by decide +kernel
theorem dX5_init_109 : decode cX5_init 109 = .ok (.newarray .int, 2) := by decide +kernel
theorem dX5_init_111 : decode cX5_init 111 = .ok (.dup, 1) := by decide +kernel
theorem dX5_init_112 : decode cX5_init 112 = .ok (.iconst 0, 1) := by decide +kernel
theorem dX5_init_113 : decode cX5_init 113 = .ok (.iconst 2, 1) := by decide +kernel
theorem dX5_init_114 : decode cX5_init 114 = .ok (.iastore, 1) := by decide +kernel
theorem dX5_init_115 : decode cX5_init 115 = .ok (.dup, 1) := by decide +kernel
theorem dX5_init_116 : decode cX5_init 116 = .ok (.iconst 1, 1) := by decide +kernel
theorem dX5_init_117 : decode cX5_init 117 = .ok (.iconst 3, 1) := by decide +kernel
theorem dX5_init_118 : decode cX5_init 118 = .ok (.iastore, 1) := by decide +kernel
theorem dX5_init_119 : decode cX5_init 119 = .ok (.dup, 1) := by decide +kernel
theorem dX5_init_120 : decode cX5_init 120 = .ok (.iconst 2, 1) := by decide +kernel
theorem dX5_init_121 : decode cX5_init 121 = .ok (.iconst 4, 1) := by decide +kernel
theorem dX5_init_122 : decode cX5_init 122 = .ok (.iastore, 1) := by decide +kernel
theorem dX5_init_123 : decode cX5_init 123 = .ok (.dup, 1) := by decide +kernel
theorem dX5_init_124 : decode cX5_init 124 = .ok (.iconst 3, 1) := by decide +kernel
theorem dX5_init_125 : decode cX5_init 125 = .ok (.iconst 5, 1) := by decide +kernel
theorem dX5_init_126 : decode cX5_init 126 = .ok (.iastore, 1) := by decide +kernel
theorem dX5_init_127 : decode cX5_init 127 = .ok (.putfield 46, 3) := by decide +kernel
theorem dX5_init_130 : decode cX5_init 130 = .ok (.aload_n 0, 1) := by decide +kernel
theorem dX5_init_131 : decode cX5_init 131 = .ok (.iconst 4, 1) := by decide +kernel
theorem dX5_init_132 : decode cX5_init 132 = .ok (.newarray .boolean, 2) := by decide +kernel
theorem dX5_init_134 : decode cX5_init 134 = .ok (.putfield 49, 3) := by decide +kernel
theorem dX5_init_137 : decode cX5_init 137 = .ok (.aload_n 0, 1) := by decide +kernel
theorem dX5_init_138 : decode cX5_init 138 = .ok (.iconst 4, 1) := by decide +kernel
theorem dX5_init_139 : decode cX5_init 139 = .ok (.newarray .int, 2) := by decide +kernel
theorem dX5_init_141 : decode cX5_init 141 = .ok (.putfield 53, 3) := by decide +kernel
theorem dX5_init_144 : decode cX5_init 144 = .ok (.aload_n 0, 1) := by decide +kernel
theorem dX5_init_145 : decode cX5_init 145 = .ok (.iconst 4, 1) := by decide +kernel
theorem dX5_init_146 : decode cX5_init 146 = .ok (.newarray .int, 2) := by decide +kernel
theorem dX5_init_148 : decode cX5_init 148 = .ok (.putfield 56, 3) := by decide +kernel
theorem dX5_init_151 : decode cX5_init 151 = .ok (.aload_n 0, 1) := by decide +kernel
theorem dX5_init_152 : decode cX5_init 152 = .ok (.bipush 24, 2) := by decide +kernel
theorem dX5_init_154 : decode cX5_init 154 = .ok (.newarray .int, 2) := by decide +kernel
theorem dX5_init_156 : decode cX5_init 156 = .ok (.putfield 59, 3) := by decide +kernel
theorem dX5_init_159 : decode cX5_init 159 = .ok (.aload_n 0, 1) := by decide +kernel
theorem dX5_init_160 : decode cX5_init 160 = .ok (.bipush 60, 2) := by decide +kernel
theorem dX5_init_162 : decode cX5_init 162 = .ok (.newarray .int, 2) := by decide +kernel
theorem dX5_init_164 : decode cX5_init 164 = .ok (.putfield 62, 3) := by decide +kernel
theorem dX5_init_167 : decode cX5_init 167 = .ok (.aload_n 0, 1) := by decide +kernel
theorem dX5_init_168 : decode cX5_init 168 = .ok (.bipush 60, 2) := by decide +kernel
theorem dX5_init_170 : decode cX5_init 170 = .ok (.newarray .int, 2) := by decide +kernel
theorem dX5_init_172 : decode cX5_init 172 = .ok (.putfield 65, 3) := by decide +kernel
theorem dX5_init_175 : decode cX5_init 175 = .ok (.aload_n 0, 1) := by decide +kernel
theorem dX5_init_176 : decode cX5_init 176 = .ok (.bipush 60, 2) := by decide +kernel
theorem dX5_init_178 : decode cX5_init 178 = .ok (.newarray .int, 2) := by decide +kernel
theorem dX5_init_180 : decode cX5_init 180 = .ok (.putfield 68, 3) := by decide +kernel
theorem dX5_init_183 : decode cX5_init 183 = .ok (.aload_n 0, 1) := by decide +kernel
theorem dX5_init_184 : decode cX5_init 184 = .ok (.bipush 60, 2) := by decide +kernel
theorem dX5_init_186 : decode cX5_init 186 = .ok (.newarray .int, 2) := by decide +kernel
theorem dX5_init_188 : decode cX5_init 188 = .ok (.putfield 71, 3) := by decide +kernel
theorem dX5_init_191 : decode cX5_init 191 = .ok (.aload_n 0, 1) := by decide +kernel
theorem dX5_init_192 : decode cX5_init 192 = .ok (.bipush 60, 2) := by decide +kernel
theorem dX5_init_194 : decode cX5_init 194 = .ok (.newarray .int, 2) := by decide +kernel
theorem dX5_init_196 : decode cX5_init 196 = .ok (.putfield 74, 3) := by decide +kernel
theorem dX5_init_199 : decode cX5_init 199 = .ok (.aload_n 0, 1) := by decide +kernel
theorem dX5_init_200 : decode cX5_init 200 = .ok (.bipush 60, 2) := by decide +kernel
theorem dX5_init_202 : decode cX5_init 202 = .ok (.newarray .int, 2) := by decide +kernel
theorem dX5_init_204 : decode cX5_init 204 = .ok (.putfield 77, 3) := by decide +kernel
theorem dX5_init_207 : decode cX5_init 207 = .ok (.aload_n 0, 1) := by decide +kernel
theorem dX5_init_208 : decode cX5_init 208 = .ok (.bipush 60, 2) := by decide +kernel
theorem dX5_init_210 : decode cX5_init 210 = .ok (.newarray .int, 2) := by decide +kernel
theorem dX5_init_212 : decode cX5_init 212 = .ok (.putfield 80, 3) := by decide +kernel
theorem dX5_init_215 : decode cX5_init 215 = .ok (.aload_n 0, 1) := by decide +kernel
theorem dX5_init_216 : decode cX5_init 216 = .ok (.bipush 60, 2) := by decide +kernel
theorem dX5_init_218 : decode cX5_init 218 = .ok (.newarray .boolean, 2) := by decide +kernel
theorem dX5_init_220 : decode cX5_init 220 = .ok (.putfield 83, 3) := by decide +kernel
theorem dX5_init_223 : decode cX5_init 223 = .ok (.aload_n 0, 1) := by decide +kernel
theorem dX5_init_224 : decode cX5_init 224 = .ok (.bipush 6, 2) := by decide +kernel
theorem dX5_init_226 : decode cX5_init 226 = .ok (.newarray .int, 2) := by decide +kernel
theorem dX5_init_228 : decode cX5_init 228 = .ok (.putfield 86, 3) := by decide +kernel
theorem dX5_init_231 : decode cX5_init 231 = .ok (.aload_n 0, 1) := by decide +kernel
theorem dX5_init_232 : decode cX5_init 232 = .ok (.bipush 6, 2) := by decide +kernel
theorem dX5_init_234 : decode cX5_init 234 = .ok (.newarray .int, 2) := by decide +kernel
theorem dX5_init_236 : decode cX5_init 236 = .ok (.putfield 89, 3) := by decide +kernel
theorem dX5_init_239 : decode cX5_init 239 = .ok (.aload_n 0, 1) := by decide +kernel
theorem dX5_init_240 : decode cX5_init 240 = .ok (.bipush 6, 2) := by decide +kernel
theorem dX5_init_242 : decode cX5_init 242 = .ok (.newarray .int, 2) := by decide +kernel
theorem dX5_init_244 : decode cX5_init 244 = .ok (.putfield 92, 3) := by decide +kernel
theorem dX5_init_247 : decode cX5_init 247 = .ok (.aload_n 0, 1) := by decide +kernel
theorem dX5_init_248 : decode cX5_init 248 = .ok (.bipush 6, 2) := by decide +kernel
theorem dX5_init_250 : decode cX5_init 250 = .ok (.newarray .boolean, 2) := by decide +kernel
theorem dX5_init_252 : decode cX5_init 252 = .ok (.putfield 95, 3) := by decide +kernel
theorem dX5_init_255 : decode cX5_init 255 = .ok (.aload_n 0, 1) := by decide +kernel
theorem dX5_init_256 : decode cX5_init 256 = .ok (.iconst 0, 1) := by decide +kernel
theorem dX5_init_257 : decode cX5_init 257 = .ok (.putfield 98, 3) := by decide +kernel
theorem dX5_init_260 : decode cX5_init 260 = .ok (.return_, 1) := by decide +kernel
theorem dX5_in_0 : decode cX5_in 0 = .ok (.iload_n 0, 1) := by decide +kernel
theorem dX5_in_1 : decode cX5_in 1 = .ok (.iload_n 1, 1) := by decide +kernel
theorem dX5_in_2 : decode cX5_in 2 = .ok (.if_icmp .lt 12, 3) := by decide +kernel
theorem dX5_in_5 : decode cX5_in 5 = .ok (.iload_n 0, 1) := by decide +kernel
theorem dX5_in_6 : decode cX5_in 6 = .ok (.iload_n 2, 1) := by decide +kernel
theorem dX5_in_7 : decode cX5_in 7 = .ok (.if_icmp .gt 7, 3) := by decide +kernel
theorem dX5_in_10 : decode cX5_in 10 = .ok (.iconst 1, 1) := by decide +kernel
theorem dX5_in_11 : decode cX5_in 11 = .ok (.goto 4, 3) := by decide +kernel
theorem dX5_in_14 : decode cX5_in 14 = .ok (.iconst 0, 1) := by decide +kernel
theorem dX5_in_15 : decode cX5_in 15 = .ok (.ireturn, 1) := by decide +kernel
theorem dX5_egg_0 : decode cX5_egg 0 = .ok (.iload_n 1, 1) := by decide +kernel
theorem dX5_egg_1 : decode cX5_egg 1 = .ok (.iconst 0, 1) := by decide +kernel
theorem dX5_egg_2 : decode cX5_egg 2 = .ok (.iconst 3, 1) := by decide +kernel
theorem dX5_egg_3 : decode cX5_egg 3 = .ok (.invokestatic 102, 3) := by decide +kernel
theorem dX5_egg_6 : decode cX5_egg 6 = .ok (.ifCond .eq 45, 3) := by decide +kernel
theorem dX5_egg_9 : decode cX5_egg 9 = .ok (.iload_n 2, 1) := by decide +kernel
theorem dX5_egg_10 : decode cX5_egg 10 = .ok (.bipush 30, 2) := by decide +kernel
theorem dX5_egg_12 : decode cX5_egg 12 = .ok (.bipush 90, 2) := by decide +kernel
theorem dX5_egg_14 : decode cX5_egg 14 = .ok (.invokestatic 102, 3) := by decide +kernel
theorem dX5_egg_17 : decode cX5_egg 17 = .ok (.ifCond .eq 34, 3) := by decide +kernel
theorem dX5_egg_20 : decode cX5_egg 20 = .ok (.iload_n 3, 1) := by decide +kernel
theorem dX5_egg_21 : decode cX5_egg 21 = .ok (.iconst 0, 1) := by decide +kernel
theorem dX5_egg_22 : decode cX5_egg 22 = .ok (.bipush 15, 2) := by decide +kernel
theorem dX5_egg_24 : decode cX5_egg 24 = .ok (.invokestatic 102, 3) := by decide +kernel
theorem dX5_egg_27 : decode cX5_egg 27 = .ok (.ifCond .eq 24, 3) := by decide +kernel
theorem dX5_egg_30 : decode cX5_egg 30 = .ok (.iload 4, 2) := by decide +kernel
theorem dX5_egg_32 : decode cX5_egg 32 = .ok (.iconst 0, 1) := by decide +kernel
theorem dX5_egg_33 : decode cX5_egg 33 = .ok (.bipush 9, 2) := by decide +kernel
theorem dX5_egg_35 : decode cX5_egg 35 = .ok (.invokestatic 102, 3) := by decide +kernel
theorem dX5_egg_38 : decode cX5_egg 38 = .ok (.ifCond .eq 13, 3) := by decide +kernel
theorem dX5_egg_41 : decode cX5_egg 41 = .ok (.iload 5, 2) := by decide +kernel
theorem dX5_egg_43 : decode cX5_egg 43 = .ok (.iconst 0, 1) := by decide +kernel
theorem dX5_egg_44 : decode cX5_egg 44 = .ok (.iconst 3, 1) := by decide +kernel
theorem dX5_egg_45 : decode cX5_egg 45 = .ok (.invokestatic 102, 3) := by decide +kernel
theorem dX5_egg_48 : decode cX5_egg 48 = .ok (.ifCond .ne 5, 3) := by decide +kernel
theorem dX5_egg_51 : decode cX5_egg 51 = .ok (.iconst (-1), 1) := by decide +kernel
theorem dX5_egg_52 : decode cX5_egg 52 = .ok (.ireturn, 1) := by decide +kernel
theorem dX5_egg_53 : decode cX5_egg 53 = .ok (.aload_n 0, 1) := by decide +kernel
theorem dX5_egg_54 : decode cX5_egg 54 = .ok (.getfield 106, 3) := by decide +kernel
theorem dX5_egg_57 : decode cX5_egg 57 = .ok (.bipush 20, 2) := by decide +kernel
theorem dX5_egg_59 : decode cX5_egg 59 = .ok (.if_icmp .ne 6, 3) := by decide +kernel
theorem dX5_egg_62 : decode cX5_egg 62 = .ok (.bipush (-3), 2) := by decide +kernel
theorem dX5_egg_64 : decode cX5_egg 64 = .ok (.ireturn, 1) := by decide +kernel
theorem dX5_egg_65 : decode cX5_egg 65 = .ok (.aload_n 0, 1) := by decide +kernel
theorem dX5_egg_66 : decode cX5_egg 66 = .ok (.getfield 7, 3) := by decide +kernel
theorem dX5_egg_69 : decode cX5_egg 69 = .ok (.aload_n 0, 1) := by decide +kernel
theorem dX5_egg_70 : decode cX5_egg 70 = .ok (.getfield 109, 3) := by decide +kernel
theorem dX5_egg_73 : decode cX5_egg 73 = .ok (.iload_n 1, 1) := by decide +kernel
theorem dX5_egg_74 : decode cX5_egg 74 = .ok (.iastore, 1) := by decide +kernel
theorem dX5_egg_75 : decode cX5_egg 75 = .ok (.aload_n 0, 1) := by decide +kernel
theorem dX5_egg_76 : decode cX5_egg 76 = .ok (.getfield 13, 3) := by decide +kernel
theorem dX5_egg_79 : decode cX5_egg 79 = .ok (.aload_n 0, 1) := by decide +kernel
theorem dX5_egg_80 : decode cX5_egg 80 = .ok (.getfield 109, 3) := by decide +kernel
theorem dX5_egg_83 : decode cX5_egg 83 = .ok (.iload_n 2, 1) := by decide +kernel
theorem dX5_egg_84 : decode cX5_egg 84 = .ok (.iastore, 1) := by decide +kernel
theorem dX5_egg_85 : decode cX5_egg 85 = .ok (.aload_n 0, 1) := by decide +kernel
theorem dX5_egg_86 : decode cX5_egg 86 = .ok (.getfield 16, 3) := by decide +kernel
theorem dX5_egg_89 : decode cX5_egg 89 = .ok (.aload_n 0, 1) := by decide +kernel
theorem dX5_egg_90 : decode cX5_egg 90 = .ok (.getfield 109, 3) := by decide +kernel
theorem dX5_egg_93 : decode cX5_egg 93 = .ok (.iload_n 3, 1) := by decide +kernel
theorem dX5_egg_94 : decode cX5_egg 94 = .ok (.iastore, 1) := by decide +kernel
theorem dX5_egg_95 : decode cX5_egg 95 = .ok (.aload_n 0, 1) := by decide +kernel
theorem dX5_egg_96 : decode cX5_egg 96 = .ok (.getfield 19, 3) := by decide +kernel
theorem dX5_egg_99 : decode cX5_egg 99 = .ok (.aload_n 0, 1) := by decide +kernel
theorem dX5_egg_100 : decode cX5_egg 100 = .ok (.getfield 109, 3) := by decide +kernel
theorem dX5_egg_103 : decode cX5_egg 103 = .ok (.iload 4, 2) := by decide +kernel
theorem dX5_egg_105 : decode cX5_egg 105 = .ok (.iastore, 1) := by decide +kernel
theorem dX5_egg_106 : decode cX5_egg 106 = .ok (.aload_n 0, 1) := by decide +kernel
theorem dX5_egg_107 : decode cX5_egg 107 = .ok (.getfield 22, 3) := by decide +kernel
theorem dX5_egg_110 : decode cX5_egg 110 = .ok (.aload_n 0, 1) := by decide +kernel
theorem dX5_egg_111 : decode cX5_egg 111 = .ok (.getfield 109, 3) := by decide +kernel
theorem dX5_egg_114 : decode cX5_egg 114 = .ok (.iload 5, 2) := by decide +kernel
theorem dX5_egg_116 : decode cX5_egg 116 = .ok (.iastore, 1) := by decide +kernel
theorem dX5_egg_117 : decode cX5_egg 117 = .ok (.aload_n 0, 1) := by decide +kernel
theorem dX5_egg_118 : decode cX5_egg 118 = .ok (.getfield 31, 3) := by decide +kernel
theorem dX5_egg_121 : decode cX5_egg 121 = .ok (.aload_n 0, 1) := by decide +kernel
theorem dX5_egg_122 : decode cX5_egg 122 = .ok (.getfield 106, 3) := by decide +kernel
theorem dX5_egg_125 : decode cX5_egg 125 = .ok (.aload_n 0, 1) := by decide +kernel
theorem dX5_egg_126 : decode cX5_egg 126 = .ok (.getfield 109, 3) := by decide +kernel
theorem dX5_egg_129 : decode cX5_egg 129 = .ok (.iastore, 1) := by decide +kernel
theorem dX5_egg_130 : decode cX5_egg 130 = .ok (.aload_n 0, 1) := by decide +kernel
theorem dX5_egg_131 : decode cX5_egg 131 = .ok (.dup, 1) := by decide +kernel
theorem dX5_egg_132 : decode cX5_egg 132 = .ok (.getfield 106, 3) := by decide +kernel
theorem dX5_egg_135 : decode cX5_egg 135 = .ok (.iconst 1, 1) := by decide +kernel
theorem dX5_egg_136 : decode cX5_egg 136 = .ok (.iadd, 1) := by decide +kernel
theorem dX5_egg_137 : decode cX5_egg 137 = .ok (.putfield 106, 3) := by decide +kernel
theorem dX5_egg_140 : decode cX5_egg 140 = .ok (.aload_n 0, 1) := by decide +kernel
theorem dX5_egg_141 : decode cX5_egg 141 = .ok (.getfield 43, 3) := by decide +kernel
theorem dX5_egg_144 : decode cX5_egg 144 = .ok (.bipush 16, 2) := by decide +kernel
theorem dX5_egg_146 : decode cX5_egg 146 = .ok (.iload_n 1, 1) := by decide +kernel
theorem dX5_egg_147 : decode cX5_egg 147 = .ok (.iadd, 1) := by decide +kernel
theorem dX5_egg_148 : decode cX5_egg 148 = .ok (.dup2, 1) := by decide +kernel
theorem dX5_egg_149 : decode cX5_egg 149 = .ok (.iaload, 1) := by decide +kernel
theorem dX5_egg_150 : decode cX5_egg 150 = .ok (.iconst 1, 1) := by decide +kernel
theorem dX5_egg_151 : decode cX5_egg 151 = .ok (.iadd, 1) := by decide +kernel
theorem dX5_egg_152 : decode cX5_egg 152 = .ok (.iastore, 1) := by decide +kernel
theorem dX5_egg_153 : decode cX5_egg 153 = .ok (.aload_n 0, 1) := by decide +kernel
theorem dX5_egg_154 : decode cX5_egg 154 = .ok (.dup, 1) := by decide +kernel
theorem dX5_egg_155 : decode cX5_egg 155 = .ok (.getfield 109, 3) := by decide +kernel
theorem dX5_egg_158 : decode cX5_egg 158 = .ok (.iconst 1, 1) := by decide +kernel
theorem dX5_egg_159 : decode cX5_egg 159 = .ok (.iadd, 1) := by decide +kernel
theorem dX5_egg_160 : decode cX5_egg 160 = .ok (.putfield 109, 3) := by decide +kernel
theorem dX5_egg_163 : decode cX5_egg 163 = .ok (.aload_n 0, 1) := by decide +kernel
theorem dX5_egg_164 : decode cX5_egg 164 = .ok (.getfield 109, 3) := by decide +kernel
theorem dX5_egg_167 : decode cX5_egg 167 = .ok (.iconst 1, 1) := by decide +kernel
theorem dX5_egg_168 : decode cX5_egg 168 = .ok (.isub, 1) := by decide +kernel
theorem dX5_egg_169 : decode cX5_egg 169 = .ok (.ireturn, 1) := by decide +kernel
theorem dX5_gradeBy_0 : decode cX5_gradeBy 0 = .ok (.iload_n 0, 1) := by decide +kernel
theorem dX5_gradeBy_1 : decode cX5_gradeBy 1 = .ok (.bipush 43, 2) := by decide +kernel
theorem dX5_gradeBy_3 : decode cX5_gradeBy 3 = .ok (.if_icmp .ge 7, 3) := by decide +kernel
theorem dX5_gradeBy_6 : decode cX5_gradeBy 6 = .ok (.iconst 0, 1) := by decide +kernel
theorem dX5_gradeBy_7 : decode cX5_gradeBy 7 = .ok (.goto 44, 3) := by decide +kernel
theorem dX5_gradeBy_10 : decode cX5_gradeBy 10 = .ok (.iload_n 0, 1) := by decide +kernel
theorem dX5_gradeBy_11 : decode cX5_gradeBy 11 = .ok (.bipush 48, 2) := by decide +kernel
theorem dX5_gradeBy_13 : decode cX5_gradeBy 13 = .ok (.if_icmp .ge 7, 3) := by decide +kernel
theorem dX5_gradeBy_16 : decode cX5_gradeBy 16 = .ok (.iconst 1, 1) := by decide +kernel
theorem dX5_gradeBy_17 : decode cX5_gradeBy 17 = .ok (.goto 34, 3) := by decide +kernel
theorem dX5_gradeBy_20 : decode cX5_gradeBy 20 = .ok (.iload_n 0, 1) := by decide +kernel
theorem dX5_gradeBy_21 : decode cX5_gradeBy 21 = .ok (.bipush 53, 2) := by decide +kernel
theorem dX5_gradeBy_23 : decode cX5_gradeBy 23 = .ok (.if_icmp .ge 7, 3) := by decide +kernel
theorem dX5_gradeBy_26 : decode cX5_gradeBy 26 = .ok (.iconst 2, 1) := by decide +kernel
theorem dX5_gradeBy_27 : decode cX5_gradeBy 27 = .ok (.goto 24, 3) := by decide +kernel
theorem dX5_gradeBy_30 : decode cX5_gradeBy 30 = .ok (.iload_n 0, 1) := by decide +kernel
theorem dX5_gradeBy_31 : decode cX5_gradeBy 31 = .ok (.bipush 58, 2) := by decide +kernel
theorem dX5_gradeBy_33 : decode cX5_gradeBy 33 = .ok (.if_icmp .ge 7, 3) := by decide +kernel
theorem dX5_gradeBy_36 : decode cX5_gradeBy 36 = .ok (.iconst 3, 1) := by decide +kernel
theorem dX5_gradeBy_37 : decode cX5_gradeBy 37 = .ok (.goto 14, 3) := by decide +kernel
theorem dX5_gradeBy_40 : decode cX5_gradeBy 40 = .ok (.iload_n 0, 1) := by decide +kernel
theorem dX5_gradeBy_41 : decode cX5_gradeBy 41 = .ok (.bipush 63, 2) := by decide +kernel
theorem dX5_gradeBy_43 : decode cX5_gradeBy 43 = .ok (.if_icmp .ge 7, 3) := by decide +kernel
theorem dX5_gradeBy_46 : decode cX5_gradeBy 46 = .ok (.iconst 4, 1) := by decide +kernel
theorem dX5_gradeBy_47 : decode cX5_gradeBy 47 = .ok (.goto 4, 3) := by decide +kernel
theorem dX5_gradeBy_50 : decode cX5_gradeBy 50 = .ok (.iconst 5, 1) := by decide +kernel
theorem dX5_gradeBy_51 : decode cX5_gradeBy 51 = .ok (.ireturn, 1) := by decide +kernel
theorem dX5_dull_0 : decode cX5_dull 0 = .ok (.iload_n 0, 1) := by decide +kernel
theorem dX5_dull_1 : decode cX5_dull 1 = .ok (.iconst 1, 1) := by decide +kernel
theorem dX5_dull_2 : decode cX5_dull 2 = .ok (.iand, 1) := by decide +kernel
theorem dX5_dull_3 : decode cX5_dull 3 = .ok (.iload_n 0, 1) := by decide +kernel
theorem dX5_dull_4 : decode cX5_dull 4 = .ok (.iconst 1, 1) := by decide +kernel
theorem dX5_dull_5 : decode cX5_dull 5 = .ok (.ishr, 1) := by decide +kernel
theorem dX5_dull_6 : decode cX5_dull 6 = .ok (.iconst 1, 1) := by decide +kernel
theorem dX5_dull_7 : decode cX5_dull 7 = .ok (.iand, 1) := by decide +kernel
theorem dX5_dull_8 : decode cX5_dull 8 = .ok (.iadd, 1) := by decide +kernel
theorem dX5_dull_9 : decode cX5_dull 9 = .ok (.iload_n 0, 1) := by decide +kernel
theorem dX5_dull_10 : decode cX5_dull 10 = .ok (.iconst 2, 1) := by decide +kernel
theorem dX5_dull_11 : decode cX5_dull 11 = .ok (.ishr, 1) := by decide +kernel
theorem dX5_dull_12 : decode cX5_dull 12 = .ok (.iconst 1, 1) := by decide +kernel
theorem dX5_dull_13 : decode cX5_dull 13 = .ok (.iand, 1) := by decide +kernel
theorem dX5_dull_14 : decode cX5_dull 14 = .ok (.iadd, 1) := by decide +kernel
theorem dX5_dull_15 : decode cX5_dull 15 = .ok (.iload_n 0, 1) := by decide +kernel
theorem dX5_dull_16 : decode cX5_dull 16 = .ok (.iconst 3, 1) := by decide +kernel
theorem dX5_dull_17 : decode cX5_dull 17 = .ok (.ishr, 1) := by decide +kernel
theorem dX5_dull_18 : decode cX5_dull 18 = .ok (.iconst 1, 1) := by decide +kernel
theorem dX5_dull_19 : decode cX5_dull 19 = .ok (.iand, 1) := by decide +kernel
theorem dX5_dull_20 : decode cX5_dull 20 = .ok (.iadd, 1) := by decide +kernel
theorem dX5_dull_21 : decode cX5_dull 21 = .ok (.ireturn, 1) := by decide +kernel
theorem dX5_whereTo_0 : decode cX5_whereTo 0 = .ok (.aload_n 0, 1) := by decide +kernel
theorem dX5_whereTo_1 : decode cX5_whereTo 1 = .ok (.dup, 1) := by decide +kernel
theorem dX5_whereTo_2 : decode cX5_whereTo 2 = .ok (.getfield 112, 3) := by decide +kernel
theorem dX5_whereTo_5 : decode cX5_whereTo 5 = .ok (.ldc2_w 116, 3) := by decide +kernel
theorem dX5_whereTo_8 : decode cX5_whereTo 8 = .ok (.ladd, 1) := by decide +kernel
theorem dX5_whereTo_9 : decode cX5_whereTo 9 = .ok (.putfield 112, 3) := by decide +kernel
theorem dX5_whereTo_12 : decode cX5_whereTo 12 = .ok (.aload_n 0, 1) := by decide +kernel
theorem dX5_whereTo_13 : decode cX5_whereTo 13 = .ok (.getfield 16, 3) := by decide +kernel
theorem dX5_whereTo_16 : decode cX5_whereTo 16 = .ok (.iload_n 1, 1) := by decide +kernel
theorem dX5_whereTo_17 : decode cX5_whereTo 17 = .ok (.iaload, 1) := by decide +kernel
theorem dX5_whereTo_18 : decode cX5_whereTo 18 = .ok (.invokestatic 118, 3) := by decide +kernel
theorem dX5_whereTo_21 : decode cX5_whereTo 21 = .ok (.iconst 1, 1) := by decide +kernel
theorem dX5_whereTo_22 : decode cX5_whereTo 22 = .ok (.if_icmp .le 5, 3) := by decide +kernel
theorem dX5_whereTo_25 : decode cX5_whereTo 25 = .ok (.iconst 3, 1) := by decide +kernel
theorem dX5_whereTo_26 : decode cX5_whereTo 26 = .ok (.ireturn, 1) := by decide +kernel
theorem dX5_whereTo_27 : decode cX5_whereTo 27 = .ok (.aload_n 0, 1) := by decide +kernel
theorem dX5_whereTo_28 : decode cX5_whereTo 28 = .ok (.dup, 1) := by decide +kernel
theorem dX5_whereTo_29 : decode cX5_whereTo 29 = .ok (.getfield 112, 3) := by decide +kernel
theorem dX5_whereTo_32 : decode cX5_whereTo 32 = .ok (.ldc2_w 122, 3) := by decide +kernel
theorem dX5_whereTo_35 : decode cX5_whereTo 35 = .ok (.ladd, 1) := by decide +kernel
theorem dX5_whereTo_36 : decode cX5_whereTo 36 = .ok (.putfield 112, 3) := by decide +kernel
theorem dX5_whereTo_39 : decode cX5_whereTo 39 = .ok (.aload_n 0, 1) := by decide +kernel
theorem dX5_whereTo_40 : decode cX5_whereTo 40 = .ok (.getfield 19, 3) := by decide +kernel
theorem dX5_whereTo_43 : decode cX5_whereTo 43 = .ok (.iload_n 1, 1) := by decide +kernel
theorem dX5_whereTo_44 : decode cX5_whereTo 44 = .ok (.iaload, 1) := by decide +kernel
theorem dX5_whereTo_45 : decode cX5_whereTo 45 = .ok (.iconst 4, 1) := by decide +kernel
theorem dX5_whereTo_46 : decode cX5_whereTo 46 = .ok (.if_icmp .le 5, 3) := by decide +kernel
theorem dX5_whereTo_49 : decode cX5_whereTo 49 = .ok (.iconst 2, 1) := by decide +kernel
theorem dX5_whereTo_50 : decode cX5_whereTo 50 = .ok (.ireturn, 1) := by decide +kernel
theorem dX5_whereTo_51 : decode cX5_whereTo 51 = .ok (.aload_n 0, 1) := by decide +kernel
theorem dX5_whereTo_52 : decode cX5_whereTo 52 = .ok (.dup, 1) := by decide +kernel
theorem dX5_whereTo_53 : decode cX5_whereTo 53 = .ok (.getfield 112, 3) := by decide +kernel
theorem dX5_whereTo_56 : decode cX5_whereTo 56 = .ok (.ldc2_w 124, 3) := by decide +kernel
theorem dX5_whereTo_59 : decode cX5_whereTo 59 = .ok (.ladd, 1) := by decide +kernel
theorem dX5_whereTo_60 : decode cX5_whereTo 60 = .ok (.putfield 112, 3) := by decide +kernel
theorem dX5_whereTo_63 : decode cX5_whereTo 63 = .ok (.aload_n 0, 1) := by decide +kernel
theorem dX5_whereTo_64 : decode cX5_whereTo 64 = .ok (.getfield 22, 3) := by decide +kernel
theorem dX5_whereTo_67 : decode cX5_whereTo 67 = .ok (.iload_n 1, 1) := by decide +kernel
theorem dX5_whereTo_68 : decode cX5_whereTo 68 = .ok (.iaload, 1) := by decide +kernel
theorem dX5_whereTo_69 : decode cX5_whereTo 69 = .ok (.iconst 1, 1) := by decide +kernel
theorem dX5_whereTo_70 : decode cX5_whereTo 70 = .ok (.if_icmp .le 5, 3) := by decide +kernel
theorem dX5_whereTo_73 : decode cX5_whereTo 73 = .ok (.iconst 1, 1) := by decide +kernel
theorem dX5_whereTo_74 : decode cX5_whereTo 74 = .ok (.ireturn, 1) := by decide +kernel
theorem dX5_whereTo_75 : decode cX5_whereTo 75 = .ok (.aload_n 0, 1) := by decide +kernel
theorem dX5_whereTo_76 : decode cX5_whereTo 76 = .ok (.dup, 1) := by decide +kernel
theorem dX5_whereTo_77 : decode cX5_whereTo 77 = .ok (.getfield 112, 3) := by decide +kernel
theorem dX5_whereTo_80 : decode cX5_whereTo 80 = .ok (.lconst 1, 1) := by decide +kernel
theorem dX5_whereTo_81 : decode cX5_whereTo 81 = .ok (.ladd, 1) := by decide +kernel
theorem dX5_whereTo_82 : decode cX5_whereTo 82 = .ok (.putfield 112, 3) := by decide +kernel
theorem dX5_whereTo_85 : decode cX5_whereTo 85 = .ok (.iconst 0, 1) := by decide +kernel
theorem dX5_whereTo_86 : decode cX5_whereTo 86 = .ok (.ireturn, 1) := by decide +kernel
theorem dX5_looks_0 : decode cX5_looks 0 = .ok (.aload_n 0, 1) := by decide +kernel
theorem dX5_looks_1 : decode cX5_looks 1 = .ok (.getfield 34, 3) := by decide +kernel
theorem dX5_looks_4 : decode cX5_looks 4 = .ok (.iconst 5, 1) := by decide +kernel
theorem dX5_looks_5 : decode cX5_looks 5 = .ok (.iaload, 1) := by decide +kernel
theorem dX5_looks_6 : decode cX5_looks 6 = .ok (.iconst 1, 1) := by decide +kernel
theorem dX5_looks_7 : decode cX5_looks 7 = .ok (.isub, 1) := by decide +kernel
theorem dX5_looks_8 : decode cX5_looks 8 = .ok (.istore_n 1, 1) := by decide +kernel
theorem dX5_looks_9 : decode cX5_looks 9 = .ok (.iload_n 1, 1) := by decide +kernel
theorem dX5_looks_10 : decode cX5_looks 10 = .ok (.ifCond .ge 7, 3) := by decide +kernel
theorem dX5_looks_13 : decode cX5_looks 13 = .ok (.iconst 0, 1) := by decide +kernel
theorem dX5_looks_14 : decode cX5_looks 14 = .ok (.goto 8, 3) := by decide +kernel
theorem dX5_looks_17 : decode cX5_looks 17 = .ok (.aload_n 0, 1) := by decide +kernel
theorem dX5_looks_18 : decode cX5_looks 18 = .ok (.iload_n 1, 1) := by decide +kernel
theorem dX5_looks_19 : decode cX5_looks 19 = .ok (.invokevirtual 126, 3) := by decide +kernel
theorem dX5_looks_22 : decode cX5_looks 22 = .ok (.istore_n 2, 1) := by decide +kernel
theorem dX5_looks_23 : decode cX5_looks 23 = .ok (.iload_n 2, 1) := by decide +kernel
theorem dX5_looks_24 : decode cX5_looks 24 = .ok (.ifCond .ne 4, 3) := by decide +kernel
theorem dX5_looks_27 : decode cX5_looks 27 = .ok (.return_, 1) := by decide +kernel
theorem dX5_looks_28 : decode cX5_looks 28 = .ok (.aload_n 0, 1) := by decide +kernel
theorem dX5_looks_29 : decode cX5_looks 29 = .ok (.getfield 34, 3) := by decide +kernel
theorem dX5_looks_32 : decode cX5_looks 32 = .ok (.iconst 5, 1) := by decide +kernel
theorem dX5_looks_33 : decode cX5_looks 33 = .ok (.iconst 0, 1) := by decide +kernel
theorem dX5_looks_34 : decode cX5_looks 34 = .ok (.iastore, 1) := by decide +kernel
theorem dX5_looks_35 : decode cX5_looks 35 = .ok (.iload_n 2, 1) := by decide +kernel
theorem dX5_looks_36 : decode cX5_looks 36 = .ok (.iconst 1, 1) := by decide +kernel
theorem dX5_looks_37 : decode cX5_looks 37 = .ok (.if_icmp .ne 68, 3) := by decide +kernel
theorem dX5_looks_40 : decode cX5_looks 40 = .ok (.aload_n 0, 1) := by decide +kernel
theorem dX5_looks_41 : decode cX5_looks 41 = .ok (.getfield 129, 3) := by decide +kernel
theorem dX5_looks_44 : decode cX5_looks 44 = .ok (.bipush 30, 2) := by decide +kernel
theorem dX5_looks_46 : decode cX5_looks 46 = .ok (.if_icmp .ge 59, 3) := by decide +kernel
theorem dX5_looks_49 : decode cX5_looks 49 = .ok (.aload_n 0, 1) := by decide +kernel
theorem dX5_looks_50 : decode cX5_looks 50 = .ok (.getfield 37, 3) := by decide +kernel
theorem dX5_looks_53 : decode cX5_looks 53 = .ok (.aload_n 0, 1) := by decide +kernel
theorem dX5_looks_54 : decode cX5_looks 54 = .ok (.getfield 129, 3) := by decide +kernel
theorem dX5_looks_57 : decode cX5_looks 57 = .ok (.iload_n 1, 1) := by decide +kernel
theorem dX5_looks_58 : decode cX5_looks 58 = .ok (.iastore, 1) := by decide +kernel
theorem dX5_looks_59 : decode cX5_looks 59 = .ok (.aload_n 0, 1) := by decide +kernel
theorem dX5_looks_60 : decode cX5_looks 60 = .ok (.getfield 40, 3) := by decide +kernel
theorem dX5_looks_63 : decode cX5_looks 63 = .ok (.aload_n 0, 1) := by decide +kernel
theorem dX5_looks_64 : decode cX5_looks 64 = .ok (.getfield 129, 3) := by decide +kernel
theorem dX5_looks_67 : decode cX5_looks 67 = .ok (.aload_n 0, 1) := by decide +kernel
theorem dX5_looks_68 : decode cX5_looks 68 = .ok (.getfield 98, 3) := by decide +kernel
theorem dX5_looks_71 : decode cX5_looks 71 = .ok (.bipush 8, 2) := by decide +kernel
theorem dX5_looks_73 : decode cX5_looks 73 = .ok (.iadd, 1) := by decide +kernel
theorem dX5_looks_74 : decode cX5_looks 74 = .ok (.iastore, 1) := by decide +kernel
theorem dX5_looks_75 : decode cX5_looks 75 = .ok (.aload_n 0, 1) := by decide +kernel
theorem dX5_looks_76 : decode cX5_looks 76 = .ok (.dup, 1) := by decide +kernel
theorem dX5_looks_77 : decode cX5_looks 77 = .ok (.getfield 129, 3) := by decide +kernel
theorem dX5_looks_80 : decode cX5_looks 80 = .ok (.iconst 1, 1) := by decide +kernel
theorem dX5_looks_81 : decode cX5_looks 81 = .ok (.iadd, 1) := by decide +kernel
theorem dX5_looks_82 : decode cX5_looks 82 = .ok (.putfield 129, 3) := by decide +kernel
theorem dX5_looks_85 : decode cX5_looks 85 = .ok (.aload_n 0, 1) := by decide +kernel
theorem dX5_looks_86 : decode cX5_looks 86 = .ok (.dup, 1) := by decide +kernel
theorem dX5_looks_87 : decode cX5_looks 87 = .ok (.getfield 132, 3) := by decide +kernel
theorem dX5_looks_90 : decode cX5_looks 90 = .ok (.iconst 1, 1) := by decide +kernel
theorem dX5_looks_91 : decode cX5_looks 91 = .ok (.iadd, 1) := by decide +kernel
theorem dX5_looks_92 : decode cX5_looks 92 = .ok (.putfield 132, 3) := by decide +kernel
theorem dX5_looks_95 : decode cX5_looks 95 = .ok (.aload_n 0, 1) := by decide +kernel
theorem dX5_looks_96 : decode cX5_looks 96 = .ok (.getfield 22, 3) := by decide +kernel
theorem dX5_looks_99 : decode cX5_looks 99 = .ok (.iload_n 1, 1) := by decide +kernel
theorem dX5_looks_100 : decode cX5_looks 100 = .ok (.iconst 0, 1) := by decide +kernel
theorem dX5_looks_101 : decode cX5_looks 101 = .ok (.iastore, 1) := by decide +kernel
theorem dX5_looks_102 : decode cX5_looks 102 = .ok (.goto 29, 3) := by decide +kernel
theorem dX5_looks_105 : decode cX5_looks 105 = .ok (.aload_n 0, 1) := by decide +kernel
theorem dX5_looks_106 : decode cX5_looks 106 = .ok (.getfield 43, 3) := by decide +kernel
theorem dX5_looks_109 : decode cX5_looks 109 = .ok (.iload_n 2, 1) := by decide +kernel
theorem dX5_looks_110 : decode cX5_looks 110 = .ok (.iconst 3, 1) := by decide +kernel
theorem dX5_looks_111 : decode cX5_looks 111 = .ok (.if_icmp .ne 7, 3) := by decide +kernel
theorem dX5_looks_114 : decode cX5_looks 114 = .ok (.iconst 4, 1) := by decide +kernel
theorem dX5_looks_115 : decode cX5_looks 115 = .ok (.goto 4, 3) := by decide +kernel
theorem dX5_looks_118 : decode cX5_looks 118 = .ok (.iconst 0, 1) := by decide +kernel
theorem dX5_looks_119 : decode cX5_looks 119 = .ok (.aload_n 0, 1) := by decide +kernel
theorem dX5_looks_120 : decode cX5_looks 120 = .ok (.getfield 7, 3) := by decide +kernel
theorem dX5_looks_123 : decode cX5_looks 123 = .ok (.iload_n 1, 1) := by decide +kernel
theorem dX5_looks_124 : decode cX5_looks 124 = .ok (.iaload, 1) := by decide +kernel
theorem dX5_looks_125 : decode cX5_looks 125 = .ok (.iadd, 1) := by decide +kernel
theorem dX5_looks_126 : decode cX5_looks 126 = .ok (.dup2, 1) := by decide +kernel
theorem dX5_looks_127 : decode cX5_looks 127 = .ok (.iaload, 1) := by decide +kernel
theorem dX5_looks_128 : decode cX5_looks 128 = .ok (.iconst 1, 1) := by decide +kernel
theorem dX5_looks_129 : decode cX5_looks 129 = .ok (.iadd, 1) := by decide +kernel
theorem dX5_looks_130 : decode cX5_looks 130 = .ok (.iastore, 1) := by decide +kernel
theorem dX5_looks_131 : decode cX5_looks 131 = .ok (.return_, 1) := by decide +kernel
theorem dX5_packs_0 : decode cX5_packs 0 = .ok (.aload_n 0, 1) := by decide +kernel
theorem dX5_packs_1 : decode cX5_packs 1 = .ok (.getfield 135, 3) := by decide +kernel
theorem dX5_packs_4 : decode cX5_packs 4 = .ok (.istore_n 2, 1) := by decide +kernel
theorem dX5_packs_5 : decode cX5_packs 5 = .ok (.aload_n 0, 1) := by decide +kernel
theorem dX5_packs_6 : decode cX5_packs 6 = .ok (.getfield 62, 3) := by decide +kernel
theorem dX5_packs_9 : decode cX5_packs 9 = .ok (.iload_n 2, 1) := by decide +kernel
theorem dX5_packs_10 : decode cX5_packs 10 = .ok (.aload_n 0, 1) := by decide +kernel
theorem dX5_packs_11 : decode cX5_packs 11 = .ok (.getfield 46, 3) := by decide +kernel
theorem dX5_packs_14 : decode cX5_packs 14 = .ok (.iload_n 1, 1) := by decide +kernel
theorem dX5_packs_15 : decode cX5_packs 15 = .ok (.iaload, 1) := by decide +kernel
theorem dX5_packs_16 : decode cX5_packs 16 = .ok (.iastore, 1) := by decide +kernel
theorem dX5_packs_17 : decode cX5_packs 17 = .ok (.aload_n 0, 1) := by decide +kernel
theorem dX5_packs_18 : decode cX5_packs 18 = .ok (.getfield 65, 3) := by decide +kernel
theorem dX5_packs_21 : decode cX5_packs 21 = .ok (.iload_n 2, 1) := by decide +kernel
theorem dX5_packs_22 : decode cX5_packs 22 = .ok (.iconst 0, 1) := by decide +kernel
theorem dX5_packs_23 : decode cX5_packs 23 = .ok (.iastore, 1) := by decide +kernel
theorem dX5_packs_24 : decode cX5_packs 24 = .ok (.aload_n 0, 1) := by decide +kernel
theorem dX5_packs_25 : decode cX5_packs 25 = .ok (.getfield 68, 3) := by decide +kernel
theorem dX5_packs_28 : decode cX5_packs 28 = .ok (.iload_n 2, 1) := by decide +kernel
theorem dX5_packs_29 : decode cX5_packs 29 = .ok (.aload_n 0, 1) := by decide +kernel
theorem dX5_packs_30 : decode cX5_packs 30 = .ok (.getfield 28, 3) := by decide +kernel
theorem dX5_packs_33 : decode cX5_packs 33 = .ok (.aload_n 0, 1) := by decide +kernel
theorem dX5_packs_34 : decode cX5_packs 34 = .ok (.getfield 59, 3) := by decide +kernel
theorem dX5_packs_37 : decode cX5_packs 37 = .ok (.bipush 6, 2) := by decide +kernel
theorem dX5_packs_39 : decode cX5_packs 39 = .ok (.iload_n 1, 1) := by decide +kernel
theorem dX5_packs_40 : decode cX5_packs 40 = .ok (.imul, 1) := by decide +kernel
theorem dX5_packs_41 : decode cX5_packs 41 = .ok (.iaload, 1) := by decide +kernel
theorem dX5_packs_42 : decode cX5_packs 42 = .ok (.iaload, 1) := by decide +kernel
theorem dX5_packs_43 : decode cX5_packs 43 = .ok (.iastore, 1) := by decide +kernel
theorem dX5_packs_44 : decode cX5_packs 44 = .ok (.aload_n 0, 1) := by decide +kernel
theorem dX5_packs_45 : decode cX5_packs 45 = .ok (.getfield 71, 3) := by decide +kernel
theorem dX5_packs_48 : decode cX5_packs 48 = .ok (.iload_n 2, 1) := by decide +kernel
theorem dX5_packs_49 : decode cX5_packs 49 = .ok (.aload_n 0, 1) := by decide +kernel
theorem dX5_packs_50 : decode cX5_packs 50 = .ok (.getfield 68, 3) := by decide +kernel
theorem dX5_packs_53 : decode cX5_packs 53 = .ok (.iload_n 2, 1) := by decide +kernel
theorem dX5_packs_54 : decode cX5_packs 54 = .ok (.iaload, 1) := by decide +kernel
theorem dX5_packs_55 : decode cX5_packs 55 = .ok (.iastore, 1) := by decide +kernel
theorem dX5_packs_56 : decode cX5_packs 56 = .ok (.aload_n 0, 1) := by decide +kernel
theorem dX5_packs_57 : decode cX5_packs 57 = .ok (.getfield 74, 3) := by decide +kernel
theorem dX5_packs_60 : decode cX5_packs 60 = .ok (.iload_n 2, 1) := by decide +kernel
theorem dX5_packs_61 : decode cX5_packs 61 = .ok (.iconst 0, 1) := by decide +kernel
theorem dX5_packs_62 : decode cX5_packs 62 = .ok (.iastore, 1) := by decide +kernel
theorem dX5_packs_63 : decode cX5_packs 63 = .ok (.aload_n 0, 1) := by decide +kernel
theorem dX5_packs_64 : decode cX5_packs 64 = .ok (.getfield 77, 3) := by decide +kernel
theorem dX5_packs_67 : decode cX5_packs 67 = .ok (.iload_n 2, 1) := by decide +kernel
theorem dX5_packs_68 : decode cX5_packs 68 = .ok (.iconst 0, 1) := by decide +kernel
theorem dX5_packs_69 : decode cX5_packs 69 = .ok (.iastore, 1) := by decide +kernel
theorem dX5_packs_70 : decode cX5_packs 70 = .ok (.iconst 0, 1) := by decide +kernel
theorem dX5_packs_71 : decode cX5_packs 71 = .ok (.istore_n 3, 1) := by decide +kernel
theorem dX5_packs_72 : decode cX5_packs 72 = .ok (.iload_n 3, 1) := by decide +kernel
theorem dX5_packs_73 : decode cX5_packs 73 = .ok (.bipush 6, 2) := by decide +kernel
theorem dX5_packs_75 : decode cX5_packs 75 = .ok (.if_icmp .ge 148, 3) := by decide +kernel
theorem dX5_packs_78 : decode cX5_packs 78 = .ok (.aload_n 0, 1) := by decide +kernel
theorem dX5_packs_79 : decode cX5_packs 79 = .ok (.getfield 59, 3) := by decide +kernel
theorem dX5_packs_82 : decode cX5_packs 82 = .ok (.bipush 6, 2) := by decide +kernel
theorem dX5_packs_84 : decode cX5_packs 84 = .ok (.iload_n 1, 1) := by decide +kernel
theorem dX5_packs_85 : decode cX5_packs 85 = .ok (.imul, 1) := by decide +kernel
theorem dX5_packs_86 : decode cX5_packs 86 = .ok (.iload_n 3, 1) := by decide +kernel
theorem dX5_packs_87 : decode cX5_packs 87 = .ok (.iadd, 1) := by decide +kernel
theorem dX5_packs_88 : decode cX5_packs 88 = .ok (.iaload, 1) := by decide +kernel
theorem dX5_packs_89 : decode cX5_packs 89 = .ok (.istore 4, 2) := by decide +kernel
theorem dX5_packs_91 : decode cX5_packs 91 = .ok (.aload_n 0, 1) := by decide +kernel
theorem dX5_packs_92 : decode cX5_packs 92 = .ok (.getfield 65, 3) := by decide +kernel
theorem dX5_packs_95 : decode cX5_packs 95 = .ok (.iload_n 2, 1) := by decide +kernel
theorem dX5_packs_96 : decode cX5_packs 96 = .ok (.dup2, 1) := by decide +kernel
theorem dX5_packs_97 : decode cX5_packs 97 = .ok (.iaload, 1) := by decide +kernel
theorem dX5_packs_98 : decode cX5_packs 98 = .ok (.iconst 1, 1) := by decide +kernel
theorem dX5_packs_99 : decode cX5_packs 99 = .ok (.aload_n 0, 1) := by decide +kernel
theorem dX5_packs_100 : decode cX5_packs 100 = .ok (.getfield 7, 3) := by decide +kernel
theorem dX5_packs_103 : decode cX5_packs 103 = .ok (.iload 4, 2) := by decide +kernel
theorem dX5_packs_105 : decode cX5_packs 105 = .ok (.iaload, 1) := by decide +kernel
theorem dX5_packs_106 : decode cX5_packs 106 = .ok (.ishl, 1) := by decide +kernel
theorem dX5_packs_107 : decode cX5_packs 107 = .ok (.ior, 1) := by decide +kernel
theorem dX5_packs_108 : decode cX5_packs 108 = .ok (.iastore, 1) := by decide +kernel
theorem dX5_packs_109 : decode cX5_packs 109 = .ok (.aload_n 0, 1) := by decide +kernel
theorem dX5_packs_110 : decode cX5_packs 110 = .ok (.getfield 68, 3) := by decide +kernel
theorem dX5_packs_113 : decode cX5_packs 113 = .ok (.iload_n 2, 1) := by decide +kernel
theorem dX5_packs_114 : decode cX5_packs 114 = .ok (.aload_n 0, 1) := by decide +kernel
theorem dX5_packs_115 : decode cX5_packs 115 = .ok (.getfield 28, 3) := by decide +kernel
theorem dX5_packs_118 : decode cX5_packs 118 = .ok (.iload 4, 2) := by decide +kernel
theorem dX5_packs_120 : decode cX5_packs 120 = .ok (.iaload, 1) := by decide +kernel
theorem dX5_packs_121 : decode cX5_packs 121 = .ok (.aload_n 0, 1) := by decide +kernel
theorem dX5_packs_122 : decode cX5_packs 122 = .ok (.getfield 68, 3) := by decide +kernel
theorem dX5_packs_125 : decode cX5_packs 125 = .ok (.iload_n 2, 1) := by decide +kernel
theorem dX5_packs_126 : decode cX5_packs 126 = .ok (.iaload, 1) := by decide +kernel
theorem dX5_packs_127 : decode cX5_packs 127 = .ok (.if_icmp .ge 13, 3) := by decide +kernel
theorem dX5_packs_130 : decode cX5_packs 130 = .ok (.aload_n 0, 1) := by decide +kernel
theorem dX5_packs_131 : decode cX5_packs 131 = .ok (.getfield 28, 3) := by decide +kernel
theorem dX5_packs_134 : decode cX5_packs 134 = .ok (.iload 4, 2) := by decide +kernel
theorem dX5_packs_136 : decode cX5_packs 136 = .ok (.iaload, 1) := by decide +kernel
theorem dX5_packs_137 : decode cX5_packs 137 = .ok (.goto 9, 3) := by decide +kernel
theorem dX5_packs_140 : decode cX5_packs 140 = .ok (.aload_n 0, 1) := by decide +kernel
theorem dX5_packs_141 : decode cX5_packs 141 = .ok (.getfield 68, 3) := by decide +kernel
theorem dX5_packs_144 : decode cX5_packs 144 = .ok (.iload_n 2, 1) := by decide +kernel
theorem dX5_packs_145 : decode cX5_packs 145 = .ok (.iaload, 1) := by decide +kernel
theorem dX5_packs_146 : decode cX5_packs 146 = .ok (.iastore, 1) := by decide +kernel
theorem dX5_packs_147 : decode cX5_packs 147 = .ok (.aload_n 0, 1) := by decide +kernel
theorem dX5_packs_148 : decode cX5_packs 148 = .ok (.getfield 71, 3) := by decide +kernel
theorem dX5_packs_151 : decode cX5_packs 151 = .ok (.iload_n 2, 1) := by decide +kernel
theorem dX5_packs_152 : decode cX5_packs 152 = .ok (.aload_n 0, 1) := by decide +kernel
theorem dX5_packs_153 : decode cX5_packs 153 = .ok (.getfield 28, 3) := by decide +kernel
theorem dX5_packs_156 : decode cX5_packs 156 = .ok (.iload 4, 2) := by decide +kernel
theorem dX5_packs_158 : decode cX5_packs 158 = .ok (.iaload, 1) := by decide +kernel
theorem dX5_packs_159 : decode cX5_packs 159 = .ok (.aload_n 0, 1) := by decide +kernel
theorem dX5_packs_160 : decode cX5_packs 160 = .ok (.getfield 71, 3) := by decide +kernel
theorem dX5_packs_163 : decode cX5_packs 163 = .ok (.iload_n 2, 1) := by decide +kernel
theorem dX5_packs_164 : decode cX5_packs 164 = .ok (.iaload, 1) := by decide +kernel
theorem dX5_packs_165 : decode cX5_packs 165 = .ok (.if_icmp .le 13, 3) := by decide +kernel
theorem dX5_packs_168 : decode cX5_packs 168 = .ok (.aload_n 0, 1) := by decide +kernel
theorem dX5_packs_169 : decode cX5_packs 169 = .ok (.getfield 28, 3) := by decide +kernel
theorem dX5_packs_172 : decode cX5_packs 172 = .ok (.iload 4, 2) := by decide +kernel
theorem dX5_packs_174 : decode cX5_packs 174 = .ok (.iaload, 1) := by decide +kernel
theorem dX5_packs_175 : decode cX5_packs 175 = .ok (.goto 9, 3) := by decide +kernel
theorem dX5_packs_178 : decode cX5_packs 178 = .ok (.aload_n 0, 1) := by decide +kernel
theorem dX5_packs_179 : decode cX5_packs 179 = .ok (.getfield 71, 3) := by decide +kernel
theorem dX5_packs_182 : decode cX5_packs 182 = .ok (.iload_n 2, 1) := by decide +kernel
theorem dX5_packs_183 : decode cX5_packs 183 = .ok (.iaload, 1) := by decide +kernel
theorem dX5_packs_184 : decode cX5_packs 184 = .ok (.iastore, 1) := by decide +kernel
theorem dX5_packs_185 : decode cX5_packs 185 = .ok (.aload_n 0, 1) := by decide +kernel
theorem dX5_packs_186 : decode cX5_packs 186 = .ok (.getfield 74, 3) := by decide +kernel
theorem dX5_packs_189 : decode cX5_packs 189 = .ok (.iload_n 2, 1) := by decide +kernel
theorem dX5_packs_190 : decode cX5_packs 190 = .ok (.dup2, 1) := by decide +kernel
theorem dX5_packs_191 : decode cX5_packs 191 = .ok (.iaload, 1) := by decide +kernel
theorem dX5_packs_192 : decode cX5_packs 192 = .ok (.aload_n 0, 1) := by decide +kernel
theorem dX5_packs_193 : decode cX5_packs 193 = .ok (.getfield 13, 3) := by decide +kernel
theorem dX5_packs_196 : decode cX5_packs 196 = .ok (.iload 4, 2) := by decide +kernel
theorem dX5_packs_198 : decode cX5_packs 198 = .ok (.iaload, 1) := by decide +kernel
theorem dX5_packs_199 : decode cX5_packs 199 = .ok (.iadd, 1) := by decide +kernel
theorem dX5_packs_200 : decode cX5_packs 200 = .ok (.iastore, 1) := by decide +kernel
theorem dX5_packs_201 : decode cX5_packs 201 = .ok (.aload_n 0, 1) := by decide +kernel
theorem dX5_packs_202 : decode cX5_packs 202 = .ok (.getfield 77, 3) := by decide +kernel
theorem dX5_packs_205 : decode cX5_packs 205 = .ok (.iload_n 2, 1) := by decide +kernel
theorem dX5_packs_206 : decode cX5_packs 206 = .ok (.dup2, 1) := by decide +kernel
theorem dX5_packs_207 : decode cX5_packs 207 = .ok (.iaload, 1) := by decide +kernel
theorem dX5_packs_208 : decode cX5_packs 208 = .ok (.aload_n 0, 1) := by decide +kernel
theorem dX5_packs_209 : decode cX5_packs 209 = .ok (.getfield 25, 3) := by decide +kernel
theorem dX5_packs_212 : decode cX5_packs 212 = .ok (.iload 4, 2) := by decide +kernel
theorem dX5_packs_214 : decode cX5_packs 214 = .ok (.iaload, 1) := by decide +kernel
theorem dX5_packs_215 : decode cX5_packs 215 = .ok (.iadd, 1) := by decide +kernel
theorem dX5_packs_216 : decode cX5_packs 216 = .ok (.iastore, 1) := by decide +kernel
theorem dX5_packs_217 : decode cX5_packs 217 = .ok (.iinc 3 1, 3) := by decide +kernel
theorem dX5_packs_220 : decode cX5_packs 220 = .ok (.goto (-148), 3) := by decide +kernel
theorem dX5_packs_223 : decode cX5_packs 223 = .ok (.aload_n 0, 1) := by decide +kernel
theorem dX5_packs_224 : decode cX5_packs 224 = .ok (.getfield 80, 3) := by decide +kernel
theorem dX5_packs_227 : decode cX5_packs 227 = .ok (.iload_n 2, 1) := by decide +kernel
theorem dX5_packs_228 : decode cX5_packs 228 = .ok (.bipush (-9), 2) := by decide +kernel
theorem dX5_packs_230 : decode cX5_packs 230 = .ok (.iastore, 1) := by decide +kernel
theorem dX5_packs_231 : decode cX5_packs 231 = .ok (.aload_n 0, 1) := by decide +kernel
theorem dX5_packs_232 : decode cX5_packs 232 = .ok (.getfield 83, 3) := by decide +kernel
theorem dX5_packs_235 : decode cX5_packs 235 = .ok (.iload_n 2, 1) := by decide +kernel
theorem dX5_packs_236 : decode cX5_packs 236 = .ok (.iconst 0, 1) := by decide +kernel
theorem dX5_packs_237 : decode cX5_packs 237 = .ok (.bastore, 1) := by decide +kernel
theorem dX5_packs_238 : decode cX5_packs 238 = .ok (.aload_n 0, 1) := by decide +kernel
theorem dX5_packs_239 : decode cX5_packs 239 = .ok (.getfield 56, 3) := by decide +kernel
theorem dX5_packs_242 : decode cX5_packs 242 = .ok (.iload_n 1, 1) := by decide +kernel
theorem dX5_packs_243 : decode cX5_packs 243 = .ok (.iconst 0, 1) := by decide +kernel
theorem dX5_packs_244 : decode cX5_packs 244 = .ok (.iastore, 1) := by decide +kernel
theorem dX5_packs_245 : decode cX5_packs 245 = .ok (.aload_n 0, 1) := by decide +kernel
theorem dX5_packs_246 : decode cX5_packs 246 = .ok (.dup, 1) := by decide +kernel
theorem dX5_packs_247 : decode cX5_packs 247 = .ok (.getfield 135, 3) := by decide +kernel
theorem dX5_packs_250 : decode cX5_packs 250 = .ok (.iconst 1, 1) := by decide +kernel
theorem dX5_packs_251 : decode cX5_packs 251 = .ok (.iadd, 1) := by decide +kernel
theorem dX5_packs_252 : decode cX5_packs 252 = .ok (.putfield 135, 3) := by decide +kernel
theorem dX5_packs_255 : decode cX5_packs 255 = .ok (.return_, 1) := by decide +kernel
theorem dX5_takes_0 : decode cX5_takes 0 = .ok (.bipush 8, 2) := by decide +kernel
theorem dX5_takes_2 : decode cX5_takes 2 = .ok (.iconst 2, 1) := by decide +kernel
theorem dX5_takes_3 : decode cX5_takes 3 = .ok (.iload_n 1, 1) := by decide +kernel
theorem dX5_takes_4 : decode cX5_takes 4 = .ok (.imul, 1) := by decide +kernel
theorem dX5_takes_5 : decode cX5_takes 5 = .ok (.iadd, 1) := by decide +kernel
theorem dX5_takes_6 : decode cX5_takes 6 = .ok (.istore_n 2, 1) := by decide +kernel
theorem dX5_takes_7 : decode cX5_takes 7 = .ok (.aload_n 0, 1) := by decide +kernel
theorem dX5_takes_8 : decode cX5_takes 8 = .ok (.getfield 34, 3) := by decide +kernel
theorem dX5_takes_11 : decode cX5_takes 11 = .ok (.iload_n 2, 1) := by decide +kernel
theorem dX5_takes_12 : decode cX5_takes 12 = .ok (.iaload, 1) := by decide +kernel
theorem dX5_takes_13 : decode cX5_takes 13 = .ok (.iconst 1, 1) := by decide +kernel
theorem dX5_takes_14 : decode cX5_takes 14 = .ok (.isub, 1) := by decide +kernel
theorem dX5_takes_15 : decode cX5_takes 15 = .ok (.istore_n 3, 1) := by decide +kernel
theorem dX5_takes_16 : decode cX5_takes 16 = .ok (.aload_n 0, 1) := by decide +kernel
theorem dX5_takes_17 : decode cX5_takes 17 = .ok (.getfield 53, 3) := by decide +kernel
theorem dX5_takes_20 : decode cX5_takes 20 = .ok (.iload_n 1, 1) := by decide +kernel
theorem dX5_takes_21 : decode cX5_takes 21 = .ok (.iaload, 1) := by decide +kernel
theorem dX5_takes_22 : decode cX5_takes 22 = .ok (.ifCond .le 14, 3) := by decide +kernel
theorem dX5_takes_25 : decode cX5_takes 25 = .ok (.aload_n 0, 1) := by decide +kernel
theorem dX5_takes_26 : decode cX5_takes 26 = .ok (.getfield 53, 3) := by decide +kernel
theorem dX5_takes_29 : decode cX5_takes 29 = .ok (.iload_n 1, 1) := by decide +kernel
theorem dX5_takes_30 : decode cX5_takes 30 = .ok (.dup2, 1) := by decide +kernel
theorem dX5_takes_31 : decode cX5_takes 31 = .ok (.iaload, 1) := by decide +kernel
theorem dX5_takes_32 : decode cX5_takes 32 = .ok (.iconst 1, 1) := by decide +kernel
theorem dX5_takes_33 : decode cX5_takes 33 = .ok (.isub, 1) := by decide +kernel
theorem dX5_takes_34 : decode cX5_takes 34 = .ok (.iastore, 1) := by decide +kernel
theorem dX5_takes_35 : decode cX5_takes 35 = .ok (.return_, 1) := by decide +kernel
theorem dX5_takes_36 : decode cX5_takes 36 = .ok (.iload_n 3, 1) := by decide +kernel
theorem dX5_takes_37 : decode cX5_takes 37 = .ok (.ifCond .lt 49, 3) := by decide +kernel
theorem dX5_takes_40 : decode cX5_takes 40 = .ok (.aload_n 0, 1) := by decide +kernel
theorem dX5_takes_41 : decode cX5_takes 41 = .ok (.getfield 49, 3) := by decide +kernel
theorem dX5_takes_44 : decode cX5_takes 44 = .ok (.iload_n 1, 1) := by decide +kernel
theorem dX5_takes_45 : decode cX5_takes 45 = .ok (.baload, 1) := by decide +kernel
theorem dX5_takes_46 : decode cX5_takes 46 = .ok (.ifCond .ne 40, 3) := by decide +kernel
theorem dX5_takes_49 : decode cX5_takes 49 = .ok (.aload_n 0, 1) := by decide +kernel
theorem dX5_takes_50 : decode cX5_takes 50 = .ok (.getfield 25, 3) := by decide +kernel
theorem dX5_takes_53 : decode cX5_takes 53 = .ok (.iload_n 3, 1) := by decide +kernel
theorem dX5_takes_54 : decode cX5_takes 54 = .ok (.iaload, 1) := by decide +kernel
theorem dX5_takes_55 : decode cX5_takes 55 = .ok (.invokestatic 138, 3) := by decide +kernel
theorem dX5_takes_58 : decode cX5_takes 58 = .ok (.aload_n 0, 1) := by decide +kernel
theorem dX5_takes_59 : decode cX5_takes 59 = .ok (.getfield 46, 3) := by decide +kernel
theorem dX5_takes_62 : decode cX5_takes 62 = .ok (.iload_n 1, 1) := by decide +kernel
theorem dX5_takes_63 : decode cX5_takes 63 = .ok (.iaload, 1) := by decide +kernel
theorem dX5_takes_64 : decode cX5_takes 64 = .ok (.if_icmp .ne 22, 3) := by decide +kernel
theorem dX5_takes_67 : decode cX5_takes 67 = .ok (.aload_n 0, 1) := by decide +kernel
theorem dX5_takes_68 : decode cX5_takes 68 = .ok (.getfield 56, 3) := by decide +kernel
theorem dX5_takes_71 : decode cX5_takes 71 = .ok (.iload_n 1, 1) := by decide +kernel
theorem dX5_takes_72 : decode cX5_takes 72 = .ok (.iaload, 1) := by decide +kernel
theorem dX5_takes_73 : decode cX5_takes 73 = .ok (.iconst 5, 1) := by decide +kernel
theorem dX5_takes_74 : decode cX5_takes 74 = .ok (.if_icmp .ne 13, 3) := by decide +kernel
theorem dX5_takes_77 : decode cX5_takes 77 = .ok (.aload_n 0, 1) := by decide +kernel
theorem dX5_takes_78 : decode cX5_takes 78 = .ok (.getfield 135, 3) := by decide +kernel
theorem dX5_takes_81 : decode cX5_takes 81 = .ok (.bipush 60, 2) := by decide +kernel
theorem dX5_takes_83 : decode cX5_takes 83 = .ok (.if_icmp .ne 4, 3) := by decide +kernel
theorem dX5_takes_86 : decode cX5_takes 86 = .ok (.return_, 1) := by decide +kernel
theorem dX5_takes_87 : decode cX5_takes 87 = .ok (.aload_n 0, 1) := by decide +kernel
theorem dX5_takes_88 : decode cX5_takes 88 = .ok (.getfield 34, 3) := by decide +kernel
theorem dX5_takes_91 : decode cX5_takes 91 = .ok (.iload_n 2, 1) := by decide +kernel
theorem dX5_takes_92 : decode cX5_takes 92 = .ok (.iconst 0, 1) := by decide +kernel
theorem dX5_takes_93 : decode cX5_takes 93 = .ok (.iastore, 1) := by decide +kernel
theorem dX5_takes_94 : decode cX5_takes 94 = .ok (.aload_n 0, 1) := by decide +kernel
theorem dX5_takes_95 : decode cX5_takes 95 = .ok (.getfield 59, 3) := by decide +kernel
theorem dX5_takes_98 : decode cX5_takes 98 = .ok (.bipush 6, 2) := by decide +kernel
theorem dX5_takes_100 : decode cX5_takes 100 = .ok (.iload_n 1, 1) := by decide +kernel
theorem dX5_takes_101 : decode cX5_takes 101 = .ok (.imul, 1) := by decide +kernel
theorem dX5_takes_102 : decode cX5_takes 102 = .ok (.aload_n 0, 1) := by decide +kernel
theorem dX5_takes_103 : decode cX5_takes 103 = .ok (.getfield 56, 3) := by decide +kernel
theorem dX5_takes_106 : decode cX5_takes 106 = .ok (.iload_n 1, 1) := by decide +kernel
theorem dX5_takes_107 : decode cX5_takes 107 = .ok (.iaload, 1) := by decide +kernel
theorem dX5_takes_108 : decode cX5_takes 108 = .ok (.iadd, 1) := by decide +kernel
theorem dX5_takes_109 : decode cX5_takes 109 = .ok (.iload_n 3, 1) := by decide +kernel
theorem dX5_takes_110 : decode cX5_takes 110 = .ok (.iastore, 1) := by decide +kernel
theorem dX5_takes_111 : decode cX5_takes 111 = .ok (.aload_n 0, 1) := by decide +kernel
theorem dX5_takes_112 : decode cX5_takes 112 = .ok (.getfield 56, 3) := by decide +kernel
theorem dX5_takes_115 : decode cX5_takes 115 = .ok (.iload_n 1, 1) := by decide +kernel
theorem dX5_takes_116 : decode cX5_takes 116 = .ok (.dup2, 1) := by decide +kernel
theorem dX5_takes_117 : decode cX5_takes 117 = .ok (.iaload, 1) := by decide +kernel
theorem dX5_takes_118 : decode cX5_takes 118 = .ok (.iconst 1, 1) := by decide +kernel
theorem dX5_takes_119 : decode cX5_takes 119 = .ok (.iadd, 1) := by decide +kernel
theorem dX5_takes_120 : decode cX5_takes 120 = .ok (.iastore, 1) := by decide +kernel
theorem dX5_takes_121 : decode cX5_takes 121 = .ok (.aload_n 0, 1) := by decide +kernel
theorem dX5_takes_122 : decode cX5_takes 122 = .ok (.getfield 53, 3) := by decide +kernel
theorem dX5_takes_125 : decode cX5_takes 125 = .ok (.iload_n 1, 1) := by decide +kernel
theorem dX5_takes_126 : decode cX5_takes 126 = .ok (.iconst 2, 1) := by decide +kernel
theorem dX5_takes_127 : decode cX5_takes 127 = .ok (.iastore, 1) := by decide +kernel
theorem dX5_takes_128 : decode cX5_takes 128 = .ok (.aload_n 0, 1) := by decide +kernel
theorem dX5_takes_129 : decode cX5_takes 129 = .ok (.getfield 43, 3) := by decide +kernel
theorem dX5_takes_132 : decode cX5_takes 132 = .ok (.bipush 12, 2) := by decide +kernel
theorem dX5_takes_134 : decode cX5_takes 134 = .ok (.aload_n 0, 1) := by decide +kernel
theorem dX5_takes_135 : decode cX5_takes 135 = .ok (.getfield 7, 3) := by decide +kernel
theorem dX5_takes_138 : decode cX5_takes 138 = .ok (.iload_n 3, 1) := by decide +kernel
theorem dX5_takes_139 : decode cX5_takes 139 = .ok (.iaload, 1) := by decide +kernel
theorem dX5_takes_140 : decode cX5_takes 140 = .ok (.iadd, 1) := by decide +kernel
theorem dX5_takes_141 : decode cX5_takes 141 = .ok (.dup2, 1) := by decide +kernel
theorem dX5_takes_142 : decode cX5_takes 142 = .ok (.iaload, 1) := by decide +kernel
theorem dX5_takes_143 : decode cX5_takes 143 = .ok (.iconst 1, 1) := by decide +kernel
theorem dX5_takes_144 : decode cX5_takes 144 = .ok (.iadd, 1) := by decide +kernel
theorem dX5_takes_145 : decode cX5_takes 145 = .ok (.iastore, 1) := by decide +kernel
theorem dX5_takes_146 : decode cX5_takes 146 = .ok (.aload_n 0, 1) := by decide +kernel
theorem dX5_takes_147 : decode cX5_takes 147 = .ok (.getfield 56, 3) := by decide +kernel
theorem dX5_takes_150 : decode cX5_takes 150 = .ok (.iload_n 1, 1) := by decide +kernel
theorem dX5_takes_151 : decode cX5_takes 151 = .ok (.iaload, 1) := by decide +kernel
theorem dX5_takes_152 : decode cX5_takes 152 = .ok (.bipush 6, 2) := by decide +kernel
theorem dX5_takes_154 : decode cX5_takes 154 = .ok (.if_icmp .ne 8, 3) := by decide +kernel
theorem dX5_takes_157 : decode cX5_takes 157 = .ok (.aload_n 0, 1) := by decide +kernel
theorem dX5_takes_158 : decode cX5_takes 158 = .ok (.iload_n 1, 1) := by decide +kernel
theorem dX5_takes_159 : decode cX5_takes 159 = .ok (.invokevirtual 141, 3) := by decide +kernel
theorem dX5_takes_162 : decode cX5_takes 162 = .ok (.return_, 1) := by decide +kernel
theorem dX5_dries_0 : decode cX5_dries 0 = .ok (.aload_n 0, 1) := by decide +kernel
theorem dX5_dries_1 : decode cX5_dries 1 = .ok (.getfield 129, 3) := by decide +kernel
theorem dX5_dries_4 : decode cX5_dries 4 = .ok (.ifCond .le 107, 3) := by decide +kernel
theorem dX5_dries_7 : decode cX5_dries 7 = .ok (.aload_n 0, 1) := by decide +kernel
theorem dX5_dries_8 : decode cX5_dries 8 = .ok (.getfield 40, 3) := by decide +kernel
theorem dX5_dries_11 : decode cX5_dries 11 = .ok (.iconst 0, 1) := by decide +kernel
theorem dX5_dries_12 : decode cX5_dries 12 = .ok (.iaload, 1) := by decide +kernel
theorem dX5_dries_13 : decode cX5_dries 13 = .ok (.aload_n 0, 1) := by decide +kernel
theorem dX5_dries_14 : decode cX5_dries 14 = .ok (.getfield 98, 3) := by decide +kernel
theorem dX5_dries_17 : decode cX5_dries 17 = .ok (.if_icmp .gt 94, 3) := by decide +kernel
theorem dX5_dries_20 : decode cX5_dries 20 = .ok (.aload_n 0, 1) := by decide +kernel
theorem dX5_dries_21 : decode cX5_dries 21 = .ok (.getfield 106, 3) := by decide +kernel
theorem dX5_dries_24 : decode cX5_dries 24 = .ok (.bipush 20, 2) := by decide +kernel
theorem dX5_dries_26 : decode cX5_dries 26 = .ok (.if_icmp .ge 85, 3) := by decide +kernel
theorem dX5_dries_29 : decode cX5_dries 29 = .ok (.aload_n 0, 1) := by decide +kernel
theorem dX5_dries_30 : decode cX5_dries 30 = .ok (.getfield 31, 3) := by decide +kernel
theorem dX5_dries_33 : decode cX5_dries 33 = .ok (.aload_n 0, 1) := by decide +kernel
theorem dX5_dries_34 : decode cX5_dries 34 = .ok (.getfield 106, 3) := by decide +kernel
theorem dX5_dries_37 : decode cX5_dries 37 = .ok (.aload_n 0, 1) := by decide +kernel
theorem dX5_dries_38 : decode cX5_dries 38 = .ok (.getfield 37, 3) := by decide +kernel
theorem dX5_dries_41 : decode cX5_dries 41 = .ok (.iconst 0, 1) := by decide +kernel
theorem dX5_dries_42 : decode cX5_dries 42 = .ok (.iaload, 1) := by decide +kernel
theorem dX5_dries_43 : decode cX5_dries 43 = .ok (.iastore, 1) := by decide +kernel
theorem dX5_dries_44 : decode cX5_dries 44 = .ok (.aload_n 0, 1) := by decide +kernel
theorem dX5_dries_45 : decode cX5_dries 45 = .ok (.dup, 1) := by decide +kernel
theorem dX5_dries_46 : decode cX5_dries 46 = .ok (.getfield 106, 3) := by decide +kernel
theorem dX5_dries_49 : decode cX5_dries 49 = .ok (.iconst 1, 1) := by decide +kernel
theorem dX5_dries_50 : decode cX5_dries 50 = .ok (.iadd, 1) := by decide +kernel
theorem dX5_dries_51 : decode cX5_dries 51 = .ok (.putfield 106, 3) := by decide +kernel
theorem dX5_dries_54 : decode cX5_dries 54 = .ok (.aload_n 0, 1) := by decide +kernel
theorem dX5_dries_55 : decode cX5_dries 55 = .ok (.dup, 1) := by decide +kernel
theorem dX5_dries_56 : decode cX5_dries 56 = .ok (.getfield 129, 3) := by decide +kernel
theorem dX5_dries_59 : decode cX5_dries 59 = .ok (.iconst 1, 1) := by decide +kernel
theorem dX5_dries_60 : decode cX5_dries 60 = .ok (.isub, 1) := by decide +kernel
theorem dX5_dries_61 : decode cX5_dries 61 = .ok (.putfield 129, 3) := by decide +kernel
theorem dX5_dries_64 : decode cX5_dries 64 = .ok (.iconst 0, 1) := by decide +kernel
theorem dX5_dries_65 : decode cX5_dries 65 = .ok (.istore_n 1, 1) := by decide +kernel
theorem dX5_dries_66 : decode cX5_dries 66 = .ok (.iload_n 1, 1) := by decide +kernel
theorem dX5_dries_67 : decode cX5_dries 67 = .ok (.aload_n 0, 1) := by decide +kernel
theorem dX5_dries_68 : decode cX5_dries 68 = .ok (.getfield 129, 3) := by decide +kernel
theorem dX5_dries_71 : decode cX5_dries 71 = .ok (.if_icmp .ge 37, 3) := by decide +kernel
theorem dX5_dries_74 : decode cX5_dries 74 = .ok (.aload_n 0, 1) := by decide +kernel
theorem dX5_dries_75 : decode cX5_dries 75 = .ok (.getfield 37, 3) := by decide +kernel
theorem dX5_dries_78 : decode cX5_dries 78 = .ok (.iload_n 1, 1) := by decide +kernel
theorem dX5_dries_79 : decode cX5_dries 79 = .ok (.aload_n 0, 1) := by decide +kernel
theorem dX5_dries_80 : decode cX5_dries 80 = .ok (.getfield 37, 3) := by decide +kernel
theorem dX5_dries_83 : decode cX5_dries 83 = .ok (.iload_n 1, 1) := by decide +kernel
theorem dX5_dries_84 : decode cX5_dries 84 = .ok (.iconst 1, 1) := by decide +kernel
theorem dX5_dries_85 : decode cX5_dries 85 = .ok (.iadd, 1) := by decide +kernel
theorem dX5_dries_86 : decode cX5_dries 86 = .ok (.iaload, 1) := by decide +kernel
theorem dX5_dries_87 : decode cX5_dries 87 = .ok (.iastore, 1) := by decide +kernel
theorem dX5_dries_88 : decode cX5_dries 88 = .ok (.aload_n 0, 1) := by decide +kernel
theorem dX5_dries_89 : decode cX5_dries 89 = .ok (.getfield 40, 3) := by decide +kernel
theorem dX5_dries_92 : decode cX5_dries 92 = .ok (.iload_n 1, 1) := by decide +kernel
theorem dX5_dries_93 : decode cX5_dries 93 = .ok (.aload_n 0, 1) := by decide +kernel
theorem dX5_dries_94 : decode cX5_dries 94 = .ok (.getfield 40, 3) := by decide +kernel
theorem dX5_dries_97 : decode cX5_dries 97 = .ok (.iload_n 1, 1) := by decide +kernel
theorem dX5_dries_98 : decode cX5_dries 98 = .ok (.iconst 1, 1) := by decide +kernel
theorem dX5_dries_99 : decode cX5_dries 99 = .ok (.iadd, 1) := by decide +kernel
theorem dX5_dries_100 : decode cX5_dries 100 = .ok (.iaload, 1) := by decide +kernel
theorem dX5_dries_101 : decode cX5_dries 101 = .ok (.iastore, 1) := by decide +kernel
theorem dX5_dries_102 : decode cX5_dries 102 = .ok (.iinc 1 1, 3) := by decide +kernel
theorem dX5_dries_105 : decode cX5_dries 105 = .ok (.goto (-39), 3) := by decide +kernel
theorem dX5_dries_108 : decode cX5_dries 108 = .ok (.goto (-108), 3) := by decide +kernel
theorem dX5_dries_111 : decode cX5_dries 111 = .ok (.return_, 1) := by decide +kernel
theorem dX5_oneTick_0 : decode cX5_oneTick 0 = .ok (.aload_n 0, 1) := by decide +kernel
theorem dX5_oneTick_1 : decode cX5_oneTick 1 = .ok (.getfield 34, 3) := by decide +kernel
theorem dX5_oneTick_4 : decode cX5_oneTick 4 = .ok (.bipush 15, 2) := by decide +kernel
theorem dX5_oneTick_6 : decode cX5_oneTick 6 = .ok (.iaload, 1) := by decide +kernel
theorem dX5_oneTick_7 : decode cX5_oneTick 7 = .ok (.iconst 1, 1) := by decide +kernel
theorem dX5_oneTick_8 : decode cX5_oneTick 8 = .ok (.isub, 1) := by decide +kernel
theorem dX5_oneTick_9 : decode cX5_oneTick 9 = .ok (.istore_n 1, 1) := by decide +kernel
theorem dX5_oneTick_10 : decode cX5_oneTick 10 = .ok (.iload_n 1, 1) := by decide +kernel
theorem dX5_oneTick_11 : decode cX5_oneTick 11 = .ok (.ifCond .lt 21, 3) := by decide +kernel
theorem dX5_oneTick_14 : decode cX5_oneTick 14 = .ok (.aload_n 0, 1) := by decide +kernel
theorem dX5_oneTick_15 : decode cX5_oneTick 15 = .ok (.getfield 43, 3) := by decide +kernel
theorem dX5_oneTick_18 : decode cX5_oneTick 18 = .ok (.bipush 8, 2) := by decide +kernel
theorem dX5_oneTick_20 : decode cX5_oneTick 20 = .ok (.aload_n 0, 1) := by decide +kernel
theorem dX5_oneTick_21 : decode cX5_oneTick 21 = .ok (.getfield 7, 3) := by decide +kernel
theorem dX5_oneTick_24 : decode cX5_oneTick 24 = .ok (.iload_n 1, 1) := by decide +kernel
theorem dX5_oneTick_25 : decode cX5_oneTick 25 = .ok (.iaload, 1) := by decide +kernel
theorem dX5_oneTick_26 : decode cX5_oneTick 26 = .ok (.iadd, 1) := by decide +kernel
theorem dX5_oneTick_27 : decode cX5_oneTick 27 = .ok (.dup2, 1) := by decide +kernel
theorem dX5_oneTick_28 : decode cX5_oneTick 28 = .ok (.iaload, 1) := by decide +kernel
theorem dX5_oneTick_29 : decode cX5_oneTick 29 = .ok (.iconst 1, 1) := by decide +kernel
theorem dX5_oneTick_30 : decode cX5_oneTick 30 = .ok (.iadd, 1) := by decide +kernel
theorem dX5_oneTick_31 : decode cX5_oneTick 31 = .ok (.iastore, 1) := by decide +kernel
theorem dX5_oneTick_32 : decode cX5_oneTick 32 = .ok (.bipush 15, 2) := by decide +kernel
theorem dX5_oneTick_34 : decode cX5_oneTick 34 = .ok (.istore_n 2, 1) := by decide +kernel
theorem dX5_oneTick_35 : decode cX5_oneTick 35 = .ok (.iload_n 2, 1) := by decide +kernel
theorem dX5_oneTick_36 : decode cX5_oneTick 36 = .ok (.ifCond .le 23, 3) := by decide +kernel
theorem dX5_oneTick_39 : decode cX5_oneTick 39 = .ok (.aload_n 0, 1) := by decide +kernel
theorem dX5_oneTick_40 : decode cX5_oneTick 40 = .ok (.getfield 34, 3) := by decide +kernel
theorem dX5_oneTick_43 : decode cX5_oneTick 43 = .ok (.iload_n 2, 1) := by decide +kernel
theorem dX5_oneTick_44 : decode cX5_oneTick 44 = .ok (.aload_n 0, 1) := by decide +kernel
theorem dX5_oneTick_45 : decode cX5_oneTick 45 = .ok (.getfield 34, 3) := by decide +kernel
theorem dX5_oneTick_48 : decode cX5_oneTick 48 = .ok (.iload_n 2, 1) := by decide +kernel
theorem dX5_oneTick_49 : decode cX5_oneTick 49 = .ok (.iconst 1, 1) := by decide +kernel
theorem dX5_oneTick_50 : decode cX5_oneTick 50 = .ok (.isub, 1) := by decide +kernel
theorem dX5_oneTick_51 : decode cX5_oneTick 51 = .ok (.iaload, 1) := by decide +kernel
theorem dX5_oneTick_52 : decode cX5_oneTick 52 = .ok (.iastore, 1) := by decide +kernel
theorem dX5_oneTick_53 : decode cX5_oneTick 53 = .ok (.iinc 2 (-1), 3) := by decide +kernel
theorem dX5_oneTick_56 : decode cX5_oneTick 56 = .ok (.goto (-21), 3) := by decide +kernel
theorem dX5_oneTick_59 : decode cX5_oneTick 59 = .ok (.aload_n 0, 1) := by decide +kernel
theorem dX5_oneTick_60 : decode cX5_oneTick 60 = .ok (.getfield 34, 3) := by decide +kernel
theorem dX5_oneTick_63 : decode cX5_oneTick 63 = .ok (.iconst 0, 1) := by decide +kernel
theorem dX5_oneTick_64 : decode cX5_oneTick 64 = .ok (.iconst 0, 1) := by decide +kernel
theorem dX5_oneTick_65 : decode cX5_oneTick 65 = .ok (.iastore, 1) := by decide +kernel
theorem dX5_oneTick_66 : decode cX5_oneTick 66 = .ok (.aload_n 0, 1) := by decide +kernel
theorem dX5_oneTick_67 : decode cX5_oneTick 67 = .ok (.getfield 34, 3) := by decide +kernel
theorem dX5_oneTick_70 : decode cX5_oneTick 70 = .ok (.iconst 2, 1) := by decide +kernel
theorem dX5_oneTick_71 : decode cX5_oneTick 71 = .ok (.iaload, 1) := by decide +kernel
theorem dX5_oneTick_72 : decode cX5_oneTick 72 = .ok (.iconst 1, 1) := by decide +kernel
theorem dX5_oneTick_73 : decode cX5_oneTick 73 = .ok (.isub, 1) := by decide +kernel
theorem dX5_oneTick_74 : decode cX5_oneTick 74 = .ok (.istore_n 2, 1) := by decide +kernel
theorem dX5_oneTick_75 : decode cX5_oneTick 75 = .ok (.iload_n 2, 1) := by decide +kernel
theorem dX5_oneTick_76 : decode cX5_oneTick 76 = .ok (.ifCond .lt 30, 3) := by decide +kernel
theorem dX5_oneTick_79 : decode cX5_oneTick 79 = .ok (.aload_n 0, 1) := by decide +kernel
theorem dX5_oneTick_80 : decode cX5_oneTick 80 = .ok (.getfield 25, 3) := by decide +kernel
theorem dX5_oneTick_83 : decode cX5_oneTick 83 = .ok (.iload_n 2, 1) := by decide +kernel
theorem dX5_oneTick_84 : decode cX5_oneTick 84 = .ok (.aload_n 0, 1) := by decide +kernel
theorem dX5_oneTick_85 : decode cX5_oneTick 85 = .ok (.getfield 13, 3) := by decide +kernel
theorem dX5_oneTick_88 : decode cX5_oneTick 88 = .ok (.iload_n 2, 1) := by decide +kernel
theorem dX5_oneTick_89 : decode cX5_oneTick 89 = .ok (.iaload, 1) := by decide +kernel
theorem dX5_oneTick_90 : decode cX5_oneTick 90 = .ok (.aload_n 0, 1) := by decide +kernel
theorem dX5_oneTick_91 : decode cX5_oneTick 91 = .ok (.getfield 144, 3) := by decide +kernel
theorem dX5_oneTick_94 : decode cX5_oneTick 94 = .ok (.iadd, 1) := by decide +kernel
theorem dX5_oneTick_95 : decode cX5_oneTick 95 = .ok (.iastore, 1) := by decide +kernel
theorem dX5_oneTick_96 : decode cX5_oneTick 96 = .ok (.aload_n 0, 1) := by decide +kernel
theorem dX5_oneTick_97 : decode cX5_oneTick 97 = .ok (.getfield 28, 3) := by decide +kernel
theorem dX5_oneTick_100 : decode cX5_oneTick 100 = .ok (.iload_n 2, 1) := by decide +kernel
theorem dX5_oneTick_101 : decode cX5_oneTick 101 = .ok (.aload_n 0, 1) := by decide +kernel
theorem dX5_oneTick_102 : decode cX5_oneTick 102 = .ok (.getfield 98, 3) := by decide +kernel
theorem dX5_oneTick_105 : decode cX5_oneTick 105 = .ok (.iastore, 1) := by decide +kernel
theorem dX5_oneTick_106 : decode cX5_oneTick 106 = .ok (.aload_n 0, 1) := by decide +kernel
theorem dX5_oneTick_107 : decode cX5_oneTick 107 = .ok (.invokevirtual 147, 3) := by decide +kernel
theorem dX5_oneTick_110 : decode cX5_oneTick 110 = .ok (.iconst 0, 1) := by decide +kernel
theorem dX5_oneTick_111 : decode cX5_oneTick 111 = .ok (.istore_n 3, 1) := by decide +kernel
theorem dX5_oneTick_112 : decode cX5_oneTick 112 = .ok (.iload_n 3, 1) := by decide +kernel
theorem dX5_oneTick_113 : decode cX5_oneTick 113 = .ok (.iconst 4, 1) := by decide +kernel
theorem dX5_oneTick_114 : decode cX5_oneTick 114 = .ok (.if_icmp .ge 14, 3) := by decide +kernel
theorem dX5_oneTick_117 : decode cX5_oneTick 117 = .ok (.aload_n 0, 1) := by decide +kernel
theorem dX5_oneTick_118 : decode cX5_oneTick 118 = .ok (.iload_n 3, 1) := by decide +kernel
theorem dX5_oneTick_119 : decode cX5_oneTick 119 = .ok (.invokevirtual 150, 3) := by decide +kernel
theorem dX5_oneTick_122 : decode cX5_oneTick 122 = .ok (.iinc 3 1, 3) := by decide +kernel
theorem dX5_oneTick_125 : decode cX5_oneTick 125 = .ok (.goto (-13), 3) := by decide +kernel
theorem dX5_oneTick_128 : decode cX5_oneTick 128 = .ok (.aload_n 0, 1) := by decide +kernel
theorem dX5_oneTick_129 : decode cX5_oneTick 129 = .ok (.invokevirtual 153, 3) := by decide +kernel
theorem dX5_oneTick_132 : decode cX5_oneTick 132 = .ok (.aload_n 0, 1) := by decide +kernel
theorem dX5_oneTick_133 : decode cX5_oneTick 133 = .ok (.getfield 106, 3) := by decide +kernel
theorem dX5_oneTick_136 : decode cX5_oneTick 136 = .ok (.ifCond .le 57, 3) := by decide +kernel
theorem dX5_oneTick_139 : decode cX5_oneTick 139 = .ok (.aload_n 0, 1) := by decide +kernel
theorem dX5_oneTick_140 : decode cX5_oneTick 140 = .ok (.getfield 34, 3) := by decide +kernel
theorem dX5_oneTick_143 : decode cX5_oneTick 143 = .ok (.iconst 0, 1) := by decide +kernel
theorem dX5_oneTick_144 : decode cX5_oneTick 144 = .ok (.aload_n 0, 1) := by decide +kernel
theorem dX5_oneTick_145 : decode cX5_oneTick 145 = .ok (.getfield 31, 3) := by decide +kernel
theorem dX5_oneTick_148 : decode cX5_oneTick 148 = .ok (.iconst 0, 1) := by decide +kernel
theorem dX5_oneTick_149 : decode cX5_oneTick 149 = .ok (.iaload, 1) := by decide +kernel
theorem dX5_oneTick_150 : decode cX5_oneTick 150 = .ok (.iconst 1, 1) := by decide +kernel
theorem dX5_oneTick_151 : decode cX5_oneTick 151 = .ok (.iadd, 1) := by decide +kernel
theorem dX5_oneTick_152 : decode cX5_oneTick 152 = .ok (.iastore, 1) := by decide +kernel
theorem dX5_oneTick_153 : decode cX5_oneTick 153 = .ok (.aload_n 0, 1) := by decide +kernel
theorem dX5_oneTick_154 : decode cX5_oneTick 154 = .ok (.dup, 1) := by decide +kernel
theorem dX5_oneTick_155 : decode cX5_oneTick 155 = .ok (.getfield 106, 3) := by decide +kernel
theorem dX5_oneTick_158 : decode cX5_oneTick 158 = .ok (.iconst 1, 1) := by decide +kernel
theorem dX5_oneTick_159 : decode cX5_oneTick 159 = .ok (.isub, 1) := by decide +kernel
theorem dX5_oneTick_160 : decode cX5_oneTick 160 = .ok (.putfield 106, 3) := by decide +kernel
theorem dX5_oneTick_163 : decode cX5_oneTick 163 = .ok (.iconst 0, 1) := by decide +kernel
theorem dX5_oneTick_164 : decode cX5_oneTick 164 = .ok (.istore_n 3, 1) := by decide +kernel
theorem dX5_oneTick_165 : decode cX5_oneTick 165 = .ok (.iload_n 3, 1) := by decide +kernel
theorem dX5_oneTick_166 : decode cX5_oneTick 166 = .ok (.aload_n 0, 1) := by decide +kernel
theorem dX5_oneTick_167 : decode cX5_oneTick 167 = .ok (.getfield 106, 3) := by decide +kernel
theorem dX5_oneTick_170 : decode cX5_oneTick 170 = .ok (.if_icmp .ge 23, 3) := by decide +kernel
theorem dX5_oneTick_173 : decode cX5_oneTick 173 = .ok (.aload_n 0, 1) := by decide +kernel
theorem dX5_oneTick_174 : decode cX5_oneTick 174 = .ok (.getfield 31, 3) := by decide +kernel
theorem dX5_oneTick_177 : decode cX5_oneTick 177 = .ok (.iload_n 3, 1) := by decide +kernel
theorem dX5_oneTick_178 : decode cX5_oneTick 178 = .ok (.aload_n 0, 1) := by decide +kernel
theorem dX5_oneTick_179 : decode cX5_oneTick 179 = .ok (.getfield 31, 3) := by decide +kernel
theorem dX5_oneTick_182 : decode cX5_oneTick 182 = .ok (.iload_n 3, 1) := by decide +kernel
theorem dX5_oneTick_183 : decode cX5_oneTick 183 = .ok (.iconst 1, 1) := by decide +kernel
theorem dX5_oneTick_184 : decode cX5_oneTick 184 = .ok (.iadd, 1) := by decide +kernel
theorem dX5_oneTick_185 : decode cX5_oneTick 185 = .ok (.iaload, 1) := by decide +kernel
theorem dX5_oneTick_186 : decode cX5_oneTick 186 = .ok (.iastore, 1) := by decide +kernel
theorem dX5_oneTick_187 : decode cX5_oneTick 187 = .ok (.iinc 3 1, 3) := by decide +kernel
theorem dX5_oneTick_190 : decode cX5_oneTick 190 = .ok (.goto (-25), 3) := by decide +kernel
theorem dX5_oneTick_193 : decode cX5_oneTick 193 = .ok (.aload_n 0, 1) := by decide +kernel
theorem dX5_oneTick_194 : decode cX5_oneTick 194 = .ok (.dup, 1) := by decide +kernel
theorem dX5_oneTick_195 : decode cX5_oneTick 195 = .ok (.getfield 98, 3) := by decide +kernel
theorem dX5_oneTick_198 : decode cX5_oneTick 198 = .ok (.iconst 1, 1) := by decide +kernel
theorem dX5_oneTick_199 : decode cX5_oneTick 199 = .ok (.iadd, 1) := by decide +kernel
theorem dX5_oneTick_200 : decode cX5_oneTick 200 = .ok (.putfield 98, 3) := by decide +kernel
theorem dX5_oneTick_203 : decode cX5_oneTick 203 = .ok (.return_, 1) := by decide +kernel
theorem dX5_tick_0 : decode cX5_tick 0 = .ok (.iload_n 1, 1) := by decide +kernel
theorem dX5_tick_1 : decode cX5_tick 1 = .ok (.iconst 1, 1) := by decide +kernel
theorem dX5_tick_2 : decode cX5_tick 2 = .ok (.bipush 40, 2) := by decide +kernel
theorem dX5_tick_4 : decode cX5_tick 4 = .ok (.invokestatic 102, 3) := by decide +kernel
theorem dX5_tick_7 : decode cX5_tick 7 = .ok (.ifCond .ne 5, 3) := by decide +kernel
theorem dX5_tick_10 : decode cX5_tick 10 = .ok (.iconst (-1), 1) := by decide +kernel
theorem dX5_tick_11 : decode cX5_tick 11 = .ok (.ireturn, 1) := by decide +kernel
theorem dX5_tick_12 : decode cX5_tick 12 = .ok (.iconst 0, 1) := by decide +kernel
theorem dX5_tick_13 : decode cX5_tick 13 = .ok (.istore_n 2, 1) := by decide +kernel
theorem dX5_tick_14 : decode cX5_tick 14 = .ok (.iload_n 2, 1) := by decide +kernel
theorem dX5_tick_15 : decode cX5_tick 15 = .ok (.iload_n 1, 1) := by decide +kernel
theorem dX5_tick_16 : decode cX5_tick 16 = .ok (.if_icmp .ge 13, 3) := by decide +kernel
theorem dX5_tick_19 : decode cX5_tick 19 = .ok (.aload_n 0, 1) := by decide +kernel
theorem dX5_tick_20 : decode cX5_tick 20 = .ok (.invokevirtual 156, 3) := by decide +kernel
theorem dX5_tick_23 : decode cX5_tick 23 = .ok (.iinc 2 1, 3) := by decide +kernel
theorem dX5_tick_26 : decode cX5_tick 26 = .ok (.goto (-12), 3) := by decide +kernel
theorem dX5_tick_29 : decode cX5_tick 29 = .ok (.aload_n 0, 1) := by decide +kernel
theorem dX5_tick_30 : decode cX5_tick 30 = .ok (.getfield 98, 3) := by decide +kernel
theorem dX5_tick_33 : decode cX5_tick 33 = .ok (.ireturn, 1) := by decide +kernel
theorem dX5_drift_0 : decode cX5_drift 0 = .ok (.iload_n 1, 1) := by decide +kernel
theorem dX5_drift_1 : decode cX5_drift 1 = .ok (.bipush (-9), 2) := by decide +kernel
theorem dX5_drift_3 : decode cX5_drift 3 = .ok (.bipush 9, 2) := by decide +kernel
theorem dX5_drift_5 : decode cX5_drift 5 = .ok (.invokestatic 102, 3) := by decide +kernel
theorem dX5_drift_8 : decode cX5_drift 8 = .ok (.ifCond .ne 7, 3) := by decide +kernel
theorem dX5_drift_11 : decode cX5_drift 11 = .ok (.sipush (-1000), 3) := by decide +kernel
theorem dX5_drift_14 : decode cX5_drift 14 = .ok (.ireturn, 1) := by decide +kernel
theorem dX5_drift_15 : decode cX5_drift 15 = .ok (.aload_n 0, 1) := by decide +kernel
theorem dX5_drift_16 : decode cX5_drift 16 = .ok (.getfield 144, 3) := by decide +kernel
theorem dX5_drift_19 : decode cX5_drift 19 = .ok (.istore_n 2, 1) := by decide +kernel
theorem dX5_drift_20 : decode cX5_drift 20 = .ok (.aload_n 0, 1) := by decide +kernel
theorem dX5_drift_21 : decode cX5_drift 21 = .ok (.iload_n 1, 1) := by decide +kernel
theorem dX5_drift_22 : decode cX5_drift 22 = .ok (.putfield 144, 3) := by decide +kernel
theorem dX5_drift_25 : decode cX5_drift 25 = .ok (.iload_n 2, 1) := by decide +kernel
theorem dX5_drift_26 : decode cX5_drift 26 = .ok (.ireturn, 1) := by decide +kernel
theorem dX5_isPacker_0 : decode cX5_isPacker 0 = .ok (.iload_n 0, 1) := by decide +kernel
theorem dX5_isPacker_1 : decode cX5_isPacker 1 = .ok (.iconst 0, 1) := by decide +kernel
theorem dX5_isPacker_2 : decode cX5_isPacker 2 = .ok (.iconst 3, 1) := by decide +kernel
theorem dX5_isPacker_3 : decode cX5_isPacker 3 = .ok (.invokestatic 102, 3) := by decide +kernel
theorem dX5_isPacker_6 : decode cX5_isPacker 6 = .ok (.ireturn, 1) := by decide +kernel
theorem dX5_grade_0 : decode cX5_grade 0 = .ok (.iload_n 1, 1) := by decide +kernel
theorem dX5_grade_1 : decode cX5_grade 1 = .ok (.invokestatic 159, 3) := by decide +kernel
theorem dX5_grade_4 : decode cX5_grade 4 = .ok (.ifCond .eq 12, 3) := by decide +kernel
theorem dX5_grade_7 : decode cX5_grade 7 = .ok (.iload_n 2, 1) := by decide +kernel
theorem dX5_grade_8 : decode cX5_grade 8 = .ok (.iconst 0, 1) := by decide +kernel
theorem dX5_grade_9 : decode cX5_grade 9 = .ok (.iconst 5, 1) := by decide +kernel
theorem dX5_grade_10 : decode cX5_grade 10 = .ok (.invokestatic 102, 3) := by decide +kernel
theorem dX5_grade_13 : decode cX5_grade 13 = .ok (.ifCond .ne 5, 3) := by decide +kernel
theorem dX5_grade_16 : decode cX5_grade 16 = .ok (.iconst (-1), 1) := by decide +kernel
theorem dX5_grade_17 : decode cX5_grade 17 = .ok (.ireturn, 1) := by decide +kernel
theorem dX5_grade_18 : decode cX5_grade 18 = .ok (.aload_n 0, 1) := by decide +kernel
theorem dX5_grade_19 : decode cX5_grade 19 = .ok (.getfield 56, 3) := by decide +kernel
theorem dX5_grade_22 : decode cX5_grade 22 = .ok (.iload_n 1, 1) := by decide +kernel
theorem dX5_grade_23 : decode cX5_grade 23 = .ok (.iaload, 1) := by decide +kernel
theorem dX5_grade_24 : decode cX5_grade 24 = .ok (.ifCond .le 6, 3) := by decide +kernel
theorem dX5_grade_27 : decode cX5_grade 27 = .ok (.bipush (-2), 2) := by decide +kernel
theorem dX5_grade_29 : decode cX5_grade 29 = .ok (.ireturn, 1) := by decide +kernel
theorem dX5_grade_30 : decode cX5_grade 30 = .ok (.aload_n 0, 1) := by decide +kernel
theorem dX5_grade_31 : decode cX5_grade 31 = .ok (.getfield 46, 3) := by decide +kernel
theorem dX5_grade_34 : decode cX5_grade 34 = .ok (.iload_n 1, 1) := by decide +kernel
theorem dX5_grade_35 : decode cX5_grade 35 = .ok (.iaload, 1) := by decide +kernel
theorem dX5_grade_36 : decode cX5_grade 36 = .ok (.istore_n 3, 1) := by decide +kernel
theorem dX5_grade_37 : decode cX5_grade 37 = .ok (.aload_n 0, 1) := by decide +kernel
theorem dX5_grade_38 : decode cX5_grade 38 = .ok (.getfield 46, 3) := by decide +kernel
theorem dX5_grade_41 : decode cX5_grade 41 = .ok (.iload_n 1, 1) := by decide +kernel
theorem dX5_grade_42 : decode cX5_grade 42 = .ok (.iload_n 2, 1) := by decide +kernel
theorem dX5_grade_43 : decode cX5_grade 43 = .ok (.iastore, 1) := by decide +kernel
theorem dX5_grade_44 : decode cX5_grade 44 = .ok (.iload_n 3, 1) := by decide +kernel
theorem dX5_grade_45 : decode cX5_grade 45 = .ok (.ireturn, 1) := by decide +kernel
theorem dX5_on_0 : decode cX5_on 0 = .ok (.iload_n 1, 1) := by decide +kernel
theorem dX5_on_1 : decode cX5_on 1 = .ok (.invokestatic 159, 3) := by decide +kernel
theorem dX5_on_4 : decode cX5_on 4 = .ok (.ifCond .ne 5, 3) := by decide +kernel
theorem dX5_on_7 : decode cX5_on 7 = .ok (.iconst (-1), 1) := by decide +kernel
theorem dX5_on_8 : decode cX5_on 8 = .ok (.ireturn, 1) := by decide +kernel
theorem dX5_on_9 : decode cX5_on 9 = .ok (.aload_n 0, 1) := by decide +kernel
theorem dX5_on_10 : decode cX5_on 10 = .ok (.getfield 49, 3) := by decide +kernel
theorem dX5_on_13 : decode cX5_on 13 = .ok (.iload_n 1, 1) := by decide +kernel
theorem dX5_on_14 : decode cX5_on 14 = .ok (.baload, 1) := by decide +kernel
theorem dX5_on_15 : decode cX5_on 15 = .ok (.ifCond .eq 7, 3) := by decide +kernel
theorem dX5_on_18 : decode cX5_on 18 = .ok (.iconst 0, 1) := by decide +kernel
theorem dX5_on_19 : decode cX5_on 19 = .ok (.goto 4, 3) := by decide +kernel
theorem dX5_on_22 : decode cX5_on 22 = .ok (.iconst 1, 1) := by decide +kernel
theorem dX5_on_23 : decode cX5_on 23 = .ok (.istore_n 3, 1) := by decide +kernel
theorem dX5_on_24 : decode cX5_on 24 = .ok (.aload_n 0, 1) := by decide +kernel
theorem dX5_on_25 : decode cX5_on 25 = .ok (.getfield 49, 3) := by decide +kernel
theorem dX5_on_28 : decode cX5_on 28 = .ok (.iload_n 1, 1) := by decide +kernel
theorem dX5_on_29 : decode cX5_on 29 = .ok (.iload_n 2, 1) := by decide +kernel
theorem dX5_on_30 : decode cX5_on 30 = .ok (.ifCond .ne 7, 3) := by decide +kernel
theorem dX5_on_33 : decode cX5_on 33 = .ok (.iconst 1, 1) := by decide +kernel
theorem dX5_on_34 : decode cX5_on 34 = .ok (.goto 4, 3) := by decide +kernel
theorem dX5_on_37 : decode cX5_on 37 = .ok (.iconst 0, 1) := by decide +kernel
theorem dX5_on_38 : decode cX5_on 38 = .ok (.bastore, 1) := by decide +kernel
theorem dX5_on_39 : decode cX5_on 39 = .ok (.iload_n 3, 1) := by decide +kernel
theorem dX5_on_40 : decode cX5_on 40 = .ok (.ireturn, 1) := by decide +kernel
theorem dX5_at_0 : decode cX5_at 0 = .ok (.iload_n 1, 1) := by decide +kernel
theorem dX5_at_1 : decode cX5_at 1 = .ok (.iconst 0, 1) := by decide +kernel
theorem dX5_at_2 : decode cX5_at 2 = .ok (.bipush 15, 2) := by decide +kernel
theorem dX5_at_4 : decode cX5_at 4 = .ok (.invokestatic 102, 3) := by decide +kernel
theorem dX5_at_7 : decode cX5_at 7 = .ok (.ifCond .eq 12, 3) := by decide +kernel
theorem dX5_at_10 : decode cX5_at 10 = .ok (.iload_n 2, 1) := by decide +kernel
theorem dX5_at_11 : decode cX5_at 11 = .ok (.iconst 0, 1) := by decide +kernel
theorem dX5_at_12 : decode cX5_at 12 = .ok (.iconst 4, 1) := by decide +kernel
theorem dX5_at_13 : decode cX5_at 13 = .ok (.invokestatic 102, 3) := by decide +kernel
theorem dX5_at_16 : decode cX5_at 16 = .ok (.ifCond .ne 5, 3) := by decide +kernel
theorem dX5_at_19 : decode cX5_at 19 = .ok (.iconst (-1), 1) := by decide +kernel
theorem dX5_at_20 : decode cX5_at 20 = .ok (.ireturn, 1) := by decide +kernel
theorem dX5_at_21 : decode cX5_at 21 = .ok (.aload_n 0, 1) := by decide +kernel
theorem dX5_at_22 : decode cX5_at 22 = .ok (.getfield 34, 3) := by decide +kernel
theorem dX5_at_25 : decode cX5_at 25 = .ok (.iload_n 1, 1) := by decide +kernel
theorem dX5_at_26 : decode cX5_at 26 = .ok (.iaload, 1) := by decide +kernel
theorem dX5_at_27 : decode cX5_at 27 = .ok (.iconst 1, 1) := by decide +kernel
theorem dX5_at_28 : decode cX5_at 28 = .ok (.isub, 1) := by decide +kernel
theorem dX5_at_29 : decode cX5_at 29 = .ok (.istore_n 3, 1) := by decide +kernel
theorem dX5_at_30 : decode cX5_at 30 = .ok (.iload_n 3, 1) := by decide +kernel
theorem dX5_at_31 : decode cX5_at 31 = .ok (.ifCond .ge 6, 3) := by decide +kernel
theorem dX5_at_34 : decode cX5_at 34 = .ok (.bipush (-9), 2) := by decide +kernel
theorem dX5_at_36 : decode cX5_at 36 = .ok (.ireturn, 1) := by decide +kernel
theorem dX5_at_37 : decode cX5_at 37 = .ok (.iload_n 2, 1) := by decide +kernel
theorem dX5_at_38 : decode cX5_at 38 = .ok (.tableswitch 62 0 3 #[30, 32, 39, 46], 30) := by decide +kernel
theorem dX5_at_68 : decode cX5_at 68 = .ok (.iload_n 3, 1) := by decide +kernel
theorem dX5_at_69 : decode cX5_at 69 = .ok (.ireturn, 1) := by decide +kernel
theorem dX5_at_70 : decode cX5_at 70 = .ok (.aload_n 0, 1) := by decide +kernel
theorem dX5_at_71 : decode cX5_at 71 = .ok (.getfield 7, 3) := by decide +kernel
theorem dX5_at_74 : decode cX5_at 74 = .ok (.iload_n 3, 1) := by decide +kernel
theorem dX5_at_75 : decode cX5_at 75 = .ok (.iaload, 1) := by decide +kernel
theorem dX5_at_76 : decode cX5_at 76 = .ok (.ireturn, 1) := by decide +kernel
theorem dX5_at_77 : decode cX5_at 77 = .ok (.aload_n 0, 1) := by decide +kernel
theorem dX5_at_78 : decode cX5_at 78 = .ok (.getfield 13, 3) := by decide +kernel
theorem dX5_at_81 : decode cX5_at 81 = .ok (.iload_n 3, 1) := by decide +kernel
theorem dX5_at_82 : decode cX5_at 82 = .ok (.iaload, 1) := by decide +kernel
theorem dX5_at_83 : decode cX5_at 83 = .ok (.ireturn, 1) := by decide +kernel
theorem dX5_at_84 : decode cX5_at 84 = .ok (.iload_n 1, 1) := by decide +kernel
theorem dX5_at_85 : decode cX5_at 85 = .ok (.iconst 2, 1) := by decide +kernel
theorem dX5_at_86 : decode cX5_at 86 = .ok (.if_icmp .ge 7, 3) := by decide +kernel
theorem dX5_at_89 : decode cX5_at 89 = .ok (.iconst 0, 1) := by decide +kernel
theorem dX5_at_90 : decode cX5_at 90 = .ok (.goto 9, 3) := by decide +kernel
theorem dX5_at_93 : decode cX5_at 93 = .ok (.aload_n 0, 1) := by decide +kernel
theorem dX5_at_94 : decode cX5_at 94 = .ok (.getfield 25, 3) := by decide +kernel
theorem dX5_at_97 : decode cX5_at 97 = .ok (.iload_n 3, 1) := by decide +kernel
theorem dX5_at_98 : decode cX5_at 98 = .ok (.iaload, 1) := by decide +kernel
theorem dX5_at_99 : decode cX5_at 99 = .ok (.ireturn, 1) := by decide +kernel
theorem dX5_at_100 : decode cX5_at 100 = .ok (.iload_n 1, 1) := by decide +kernel
theorem dX5_at_101 : decode cX5_at 101 = .ok (.iconst 2, 1) := by decide +kernel
theorem dX5_at_102 : decode cX5_at 102 = .ok (.if_icmp .ge 8, 3) := by decide +kernel
theorem dX5_at_105 : decode cX5_at 105 = .ok (.bipush (-9), 2) := by decide +kernel
theorem dX5_at_107 : decode cX5_at 107 = .ok (.goto 12, 3) := by decide +kernel
theorem dX5_at_110 : decode cX5_at 110 = .ok (.aload_n 0, 1) := by decide +kernel
theorem dX5_at_111 : decode cX5_at 111 = .ok (.getfield 25, 3) := by decide +kernel
theorem dX5_at_114 : decode cX5_at 114 = .ok (.iload_n 3, 1) := by decide +kernel
theorem dX5_at_115 : decode cX5_at 115 = .ok (.iaload, 1) := by decide +kernel
theorem dX5_at_116 : decode cX5_at 116 = .ok (.invokestatic 138, 3) := by decide +kernel
theorem dX5_at_119 : decode cX5_at 119 = .ok (.ireturn, 1) := by decide +kernel
theorem dX5_packer_0 : decode cX5_packer 0 = .ok (.iload_n 1, 1) := by decide +kernel
theorem dX5_packer_1 : decode cX5_packer 1 = .ok (.invokestatic 159, 3) := by decide +kernel
theorem dX5_packer_4 : decode cX5_packer 4 = .ok (.ifCond .ne 5, 3) := by decide +kernel
theorem dX5_packer_7 : decode cX5_packer 7 = .ok (.iconst (-1), 1) := by decide +kernel
theorem dX5_packer_8 : decode cX5_packer 8 = .ok (.ireturn, 1) := by decide +kernel
theorem dX5_packer_9 : decode cX5_packer 9 = .ok (.iconst 0, 1) := by decide +kernel
theorem dX5_packer_10 : decode cX5_packer 10 = .ok (.istore_n 3, 1) := by decide +kernel
theorem dX5_packer_11 : decode cX5_packer 11 = .ok (.iload_n 2, 1) := by decide +kernel
theorem dX5_packer_12 : decode cX5_packer 12 = .ok (.tableswitch 116 0 4 #[36, 43, 58, 65, 72], 36) := by decide +kernel
theorem dX5_packer_48 : decode cX5_packer 48 = .ok (.aload_n 0, 1) := by decide +kernel
theorem dX5_packer_49 : decode cX5_packer 49 = .ok (.getfield 46, 3) := by decide +kernel
theorem dX5_packer_52 : decode cX5_packer 52 = .ok (.iload_n 1, 1) := by decide +kernel
theorem dX5_packer_53 : decode cX5_packer 53 = .ok (.iaload, 1) := by decide +kernel
theorem dX5_packer_54 : decode cX5_packer 54 = .ok (.ireturn, 1) := by decide +kernel
theorem dX5_packer_55 : decode cX5_packer 55 = .ok (.aload_n 0, 1) := by decide +kernel
theorem dX5_packer_56 : decode cX5_packer 56 = .ok (.getfield 49, 3) := by decide +kernel
theorem dX5_packer_59 : decode cX5_packer 59 = .ok (.iload_n 1, 1) := by decide +kernel
theorem dX5_packer_60 : decode cX5_packer 60 = .ok (.baload, 1) := by decide +kernel
theorem dX5_packer_61 : decode cX5_packer 61 = .ok (.ifCond .eq 7, 3) := by decide +kernel
theorem dX5_packer_64 : decode cX5_packer 64 = .ok (.iconst 0, 1) := by decide +kernel
theorem dX5_packer_65 : decode cX5_packer 65 = .ok (.goto 4, 3) := by decide +kernel
theorem dX5_packer_68 : decode cX5_packer 68 = .ok (.iconst 1, 1) := by decide +kernel
theorem dX5_packer_69 : decode cX5_packer 69 = .ok (.ireturn, 1) := by decide +kernel
theorem dX5_packer_70 : decode cX5_packer 70 = .ok (.aload_n 0, 1) := by decide +kernel
theorem dX5_packer_71 : decode cX5_packer 71 = .ok (.getfield 56, 3) := by decide +kernel
theorem dX5_packer_74 : decode cX5_packer 74 = .ok (.iload_n 1, 1) := by decide +kernel
theorem dX5_packer_75 : decode cX5_packer 75 = .ok (.iaload, 1) := by decide +kernel
theorem dX5_packer_76 : decode cX5_packer 76 = .ok (.ireturn, 1) := by decide +kernel
theorem dX5_packer_77 : decode cX5_packer 77 = .ok (.aload_n 0, 1) := by decide +kernel
theorem dX5_packer_78 : decode cX5_packer 78 = .ok (.getfield 53, 3) := by decide +kernel
theorem dX5_packer_81 : decode cX5_packer 81 = .ok (.iload_n 1, 1) := by decide +kernel
theorem dX5_packer_82 : decode cX5_packer 82 = .ok (.iaload, 1) := by decide +kernel
theorem dX5_packer_83 : decode cX5_packer 83 = .ok (.ireturn, 1) := by decide +kernel
theorem dX5_packer_84 : decode cX5_packer 84 = .ok (.iconst 0, 1) := by decide +kernel
theorem dX5_packer_85 : decode cX5_packer 85 = .ok (.istore 4, 2) := by decide +kernel
theorem dX5_packer_87 : decode cX5_packer 87 = .ok (.iload 4, 2) := by decide +kernel
theorem dX5_packer_89 : decode cX5_packer 89 = .ok (.aload_n 0, 1) := by decide +kernel
theorem dX5_packer_90 : decode cX5_packer 90 = .ok (.getfield 56, 3) := by decide +kernel
theorem dX5_packer_93 : decode cX5_packer 93 = .ok (.iload_n 1, 1) := by decide +kernel
theorem dX5_packer_94 : decode cX5_packer 94 = .ok (.iaload, 1) := by decide +kernel
theorem dX5_packer_95 : decode cX5_packer 95 = .ok (.if_icmp .ge 31, 3) := by decide +kernel
theorem dX5_packer_98 : decode cX5_packer 98 = .ok (.iload_n 3, 1) := by decide +kernel
theorem dX5_packer_99 : decode cX5_packer 99 = .ok (.iconst 1, 1) := by decide +kernel
theorem dX5_packer_100 : decode cX5_packer 100 = .ok (.aload_n 0, 1) := by decide +kernel
theorem dX5_packer_101 : decode cX5_packer 101 = .ok (.getfield 7, 3) := by decide +kernel
theorem dX5_packer_104 : decode cX5_packer 104 = .ok (.aload_n 0, 1) := by decide +kernel
theorem dX5_packer_105 : decode cX5_packer 105 = .ok (.getfield 59, 3) := by decide +kernel
theorem dX5_packer_108 : decode cX5_packer 108 = .ok (.bipush 6, 2) := by decide +kernel
theorem dX5_packer_110 : decode cX5_packer 110 = .ok (.iload_n 1, 1) := by decide +kernel
theorem dX5_packer_111 : decode cX5_packer 111 = .ok (.imul, 1) := by decide +kernel
theorem dX5_packer_112 : decode cX5_packer 112 = .ok (.iload 4, 2) := by decide +kernel
theorem dX5_packer_114 : decode cX5_packer 114 = .ok (.iadd, 1) := by decide +kernel
theorem dX5_packer_115 : decode cX5_packer 115 = .ok (.iaload, 1) := by decide +kernel
theorem dX5_packer_116 : decode cX5_packer 116 = .ok (.iaload, 1) := by decide +kernel
theorem dX5_packer_117 : decode cX5_packer 117 = .ok (.ishl, 1) := by decide +kernel
theorem dX5_packer_118 : decode cX5_packer 118 = .ok (.ior, 1) := by decide +kernel
theorem dX5_packer_119 : decode cX5_packer 119 = .ok (.istore_n 3, 1) := by decide +kernel
theorem dX5_packer_120 : decode cX5_packer 120 = .ok (.iinc 4 1, 3) := by decide +kernel
theorem dX5_packer_123 : decode cX5_packer 123 = .ok (.goto (-36), 3) := by decide +kernel
theorem dX5_packer_126 : decode cX5_packer 126 = .ok (.iload_n 3, 1) := by decide +kernel
theorem dX5_packer_127 : decode cX5_packer 127 = .ok (.ireturn, 1) := by decide +kernel
theorem dX5_packer_128 : decode cX5_packer 128 = .ok (.iconst (-1), 1) := by decide +kernel
theorem dX5_packer_129 : decode cX5_packer 129 = .ok (.ireturn, 1) := by decide +kernel
theorem dX5_allBarns_0 : decode cX5_allBarns 0 = .ok (.aload_n 0, 1) := by decide +kernel
theorem dX5_allBarns_1 : decode cX5_allBarns 1 = .ok (.getfield 43, 3) := by decide +kernel
theorem dX5_allBarns_4 : decode cX5_allBarns 4 = .ok (.iload_n 1, 1) := by decide +kernel
theorem dX5_allBarns_5 : decode cX5_allBarns 5 = .ok (.iaload, 1) := by decide +kernel
theorem dX5_allBarns_6 : decode cX5_allBarns 6 = .ok (.aload_n 0, 1) := by decide +kernel
theorem dX5_allBarns_7 : decode cX5_allBarns 7 = .ok (.getfield 43, 3) := by decide +kernel
theorem dX5_allBarns_10 : decode cX5_allBarns 10 = .ok (.iload_n 1, 1) := by decide +kernel
theorem dX5_allBarns_11 : decode cX5_allBarns 11 = .ok (.iconst 1, 1) := by decide +kernel
theorem dX5_allBarns_12 : decode cX5_allBarns 12 = .ok (.iadd, 1) := by decide +kernel
theorem dX5_allBarns_13 : decode cX5_allBarns 13 = .ok (.iaload, 1) := by decide +kernel
theorem dX5_allBarns_14 : decode cX5_allBarns 14 = .ok (.iadd, 1) := by decide +kernel
theorem dX5_allBarns_15 : decode cX5_allBarns 15 = .ok (.aload_n 0, 1) := by decide +kernel
theorem dX5_allBarns_16 : decode cX5_allBarns 16 = .ok (.getfield 43, 3) := by decide +kernel
theorem dX5_allBarns_19 : decode cX5_allBarns 19 = .ok (.iload_n 1, 1) := by decide +kernel
theorem dX5_allBarns_20 : decode cX5_allBarns 20 = .ok (.iconst 2, 1) := by decide +kernel
theorem dX5_allBarns_21 : decode cX5_allBarns 21 = .ok (.iadd, 1) := by decide +kernel
theorem dX5_allBarns_22 : decode cX5_allBarns 22 = .ok (.iaload, 1) := by decide +kernel
theorem dX5_allBarns_23 : decode cX5_allBarns 23 = .ok (.iadd, 1) := by decide +kernel
theorem dX5_allBarns_24 : decode cX5_allBarns 24 = .ok (.aload_n 0, 1) := by decide +kernel
theorem dX5_allBarns_25 : decode cX5_allBarns 25 = .ok (.getfield 43, 3) := by decide +kernel
theorem dX5_allBarns_28 : decode cX5_allBarns 28 = .ok (.iload_n 1, 1) := by decide +kernel
theorem dX5_allBarns_29 : decode cX5_allBarns 29 = .ok (.iconst 3, 1) := by decide +kernel
theorem dX5_allBarns_30 : decode cX5_allBarns 30 = .ok (.iadd, 1) := by decide +kernel
theorem dX5_allBarns_31 : decode cX5_allBarns 31 = .ok (.iaload, 1) := by decide +kernel
theorem dX5_allBarns_32 : decode cX5_allBarns 32 = .ok (.iadd, 1) := by decide +kernel
theorem dX5_allBarns_33 : decode cX5_allBarns 33 = .ok (.ireturn, 1) := by decide +kernel
theorem dX5_count_0 : decode cX5_count 0 = .ok (.iconst 0, 1) := by decide +kernel
theorem dX5_count_1 : decode cX5_count 1 = .ok (.istore_n 2, 1) := by decide +kernel
theorem dX5_count_2 : decode cX5_count 2 = .ok (.iload_n 1, 1) := by decide +kernel
theorem dX5_count_3 : decode cX5_count 3 = .ok (.tableswitch 161 0 9 #[53, 58, 63, 96, 101, 107, 113, 120, 148, 156], 53) := by decide +kernel
theorem dX5_count_56 : decode cX5_count 56 = .ok (.aload_n 0, 1) := by decide +kernel
theorem dX5_count_57 : decode cX5_count 57 = .ok (.getfield 109, 3) := by decide +kernel
theorem dX5_count_60 : decode cX5_count 60 = .ok (.ireturn, 1) := by decide +kernel
theorem dX5_count_61 : decode cX5_count 61 = .ok (.aload_n 0, 1) := by decide +kernel
theorem dX5_count_62 : decode cX5_count 62 = .ok (.getfield 106, 3) := by decide +kernel
theorem dX5_count_65 : decode cX5_count 65 = .ok (.ireturn, 1) := by decide +kernel
theorem dX5_count_66 : decode cX5_count 66 = .ok (.iconst 0, 1) := by decide +kernel
theorem dX5_count_67 : decode cX5_count 67 = .ok (.istore_n 3, 1) := by decide +kernel
theorem dX5_count_68 : decode cX5_count 68 = .ok (.iload_n 3, 1) := by decide +kernel
theorem dX5_count_69 : decode cX5_count 69 = .ok (.bipush 16, 2) := by decide +kernel
theorem dX5_count_71 : decode cX5_count 71 = .ok (.if_icmp .ge 26, 3) := by decide +kernel
theorem dX5_count_74 : decode cX5_count 74 = .ok (.iload_n 2, 1) := by decide +kernel
theorem dX5_count_75 : decode cX5_count 75 = .ok (.aload_n 0, 1) := by decide +kernel
theorem dX5_count_76 : decode cX5_count 76 = .ok (.getfield 34, 3) := by decide +kernel
theorem dX5_count_79 : decode cX5_count 79 = .ok (.iload_n 3, 1) := by decide +kernel
theorem dX5_count_80 : decode cX5_count 80 = .ok (.iaload, 1) := by decide +kernel
theorem dX5_count_81 : decode cX5_count 81 = .ok (.ifCond .le 7, 3) := by decide +kernel
theorem dX5_count_84 : decode cX5_count 84 = .ok (.iconst 1, 1) := by decide +kernel
theorem dX5_count_85 : decode cX5_count 85 = .ok (.goto 4, 3) := by decide +kernel
theorem dX5_count_88 : decode cX5_count 88 = .ok (.iconst 0, 1) := by decide +kernel
theorem dX5_count_89 : decode cX5_count 89 = .ok (.iadd, 1) := by decide +kernel
theorem dX5_count_90 : decode cX5_count 90 = .ok (.istore_n 2, 1) := by decide +kernel
theorem dX5_count_91 : decode cX5_count 91 = .ok (.iinc 3 1, 3) := by decide +kernel
theorem dX5_count_94 : decode cX5_count 94 = .ok (.goto (-26), 3) := by decide +kernel
theorem dX5_count_97 : decode cX5_count 97 = .ok (.iload_n 2, 1) := by decide +kernel
theorem dX5_count_98 : decode cX5_count 98 = .ok (.ireturn, 1) := by decide +kernel
theorem dX5_count_99 : decode cX5_count 99 = .ok (.aload_n 0, 1) := by decide +kernel
theorem dX5_count_100 : decode cX5_count 100 = .ok (.getfield 129, 3) := by decide +kernel
theorem dX5_count_103 : decode cX5_count 103 = .ok (.ireturn, 1) := by decide +kernel
theorem dX5_count_104 : decode cX5_count 104 = .ok (.aload_n 0, 1) := by decide +kernel
theorem dX5_count_105 : decode cX5_count 105 = .ok (.iconst 0, 1) := by decide +kernel
theorem dX5_count_106 : decode cX5_count 106 = .ok (.invokevirtual 163, 3) := by decide +kernel
theorem dX5_count_109 : decode cX5_count 109 = .ok (.ireturn, 1) := by decide +kernel
theorem dX5_count_110 : decode cX5_count 110 = .ok (.aload_n 0, 1) := by decide +kernel
theorem dX5_count_111 : decode cX5_count 111 = .ok (.iconst 4, 1) := by decide +kernel
theorem dX5_count_112 : decode cX5_count 112 = .ok (.invokevirtual 163, 3) := by decide +kernel
theorem dX5_count_115 : decode cX5_count 115 = .ok (.ireturn, 1) := by decide +kernel
theorem dX5_count_116 : decode cX5_count 116 = .ok (.aload_n 0, 1) := by decide +kernel
theorem dX5_count_117 : decode cX5_count 117 = .ok (.bipush 8, 2) := by decide +kernel
theorem dX5_count_119 : decode cX5_count 119 = .ok (.invokevirtual 163, 3) := by decide +kernel
theorem dX5_count_122 : decode cX5_count 122 = .ok (.ireturn, 1) := by decide +kernel
theorem dX5_count_123 : decode cX5_count 123 = .ok (.aload_n 0, 1) := by decide +kernel
theorem dX5_count_124 : decode cX5_count 124 = .ok (.getfield 56, 3) := by decide +kernel
theorem dX5_count_127 : decode cX5_count 127 = .ok (.iconst 0, 1) := by decide +kernel
theorem dX5_count_128 : decode cX5_count 128 = .ok (.iaload, 1) := by decide +kernel
theorem dX5_count_129 : decode cX5_count 129 = .ok (.aload_n 0, 1) := by decide +kernel
theorem dX5_count_130 : decode cX5_count 130 = .ok (.getfield 56, 3) := by decide +kernel
theorem dX5_count_133 : decode cX5_count 133 = .ok (.iconst 1, 1) := by decide +kernel
theorem dX5_count_134 : decode cX5_count 134 = .ok (.iaload, 1) := by decide +kernel
theorem dX5_count_135 : decode cX5_count 135 = .ok (.iadd, 1) := by decide +kernel
theorem dX5_count_136 : decode cX5_count 136 = .ok (.aload_n 0, 1) := by decide +kernel
theorem dX5_count_137 : decode cX5_count 137 = .ok (.getfield 56, 3) := by decide +kernel
theorem dX5_count_140 : decode cX5_count 140 = .ok (.iconst 2, 1) := by decide +kernel
theorem dX5_count_141 : decode cX5_count 141 = .ok (.iaload, 1) := by decide +kernel
theorem dX5_count_142 : decode cX5_count 142 = .ok (.iadd, 1) := by decide +kernel
theorem dX5_count_143 : decode cX5_count 143 = .ok (.aload_n 0, 1) := by decide +kernel
theorem dX5_count_144 : decode cX5_count 144 = .ok (.getfield 56, 3) := by decide +kernel
theorem dX5_count_147 : decode cX5_count 147 = .ok (.iconst 3, 1) := by decide +kernel
theorem dX5_count_148 : decode cX5_count 148 = .ok (.iaload, 1) := by decide +kernel
theorem dX5_count_149 : decode cX5_count 149 = .ok (.iadd, 1) := by decide +kernel
theorem dX5_count_150 : decode cX5_count 150 = .ok (.ireturn, 1) := by decide +kernel
theorem dX5_count_151 : decode cX5_count 151 = .ok (.bipush 6, 2) := by decide +kernel
theorem dX5_count_153 : decode cX5_count 153 = .ok (.aload_n 0, 1) := by decide +kernel
theorem dX5_count_154 : decode cX5_count 154 = .ok (.getfield 135, 3) := by decide +kernel
theorem dX5_count_157 : decode cX5_count 157 = .ok (.imul, 1) := by decide +kernel
theorem dX5_count_158 : decode cX5_count 158 = .ok (.ireturn, 1) := by decide +kernel
theorem dX5_count_159 : decode cX5_count 159 = .ok (.aload_n 0, 1) := by decide +kernel
theorem dX5_count_160 : decode cX5_count 160 = .ok (.getfield 132, 3) := by decide +kernel
theorem dX5_count_163 : decode cX5_count 163 = .ok (.ireturn, 1) := by decide +kernel
theorem dX5_count_164 : decode cX5_count 164 = .ok (.iconst (-1), 1) := by decide +kernel
theorem dX5_count_165 : decode cX5_count 165 = .ok (.ireturn, 1) := by decide +kernel
theorem dX5_barn_0 : decode cX5_barn 0 = .ok (.iload_n 1, 1) := by decide +kernel
theorem dX5_barn_1 : decode cX5_barn 1 = .ok (.iconst 0, 1) := by decide +kernel
theorem dX5_barn_2 : decode cX5_barn 2 = .ok (.iconst 3, 1) := by decide +kernel
theorem dX5_barn_3 : decode cX5_barn 3 = .ok (.invokestatic 102, 3) := by decide +kernel
theorem dX5_barn_6 : decode cX5_barn 6 = .ok (.ifCond .eq 12, 3) := by decide +kernel
theorem dX5_barn_9 : decode cX5_barn 9 = .ok (.iload_n 2, 1) := by decide +kernel
theorem dX5_barn_10 : decode cX5_barn 10 = .ok (.iconst 0, 1) := by decide +kernel
theorem dX5_barn_11 : decode cX5_barn 11 = .ok (.iconst 4, 1) := by decide +kernel
theorem dX5_barn_12 : decode cX5_barn 12 = .ok (.invokestatic 102, 3) := by decide +kernel
theorem dX5_barn_15 : decode cX5_barn 15 = .ok (.ifCond .ne 5, 3) := by decide +kernel
theorem dX5_barn_18 : decode cX5_barn 18 = .ok (.iconst (-1), 1) := by decide +kernel
theorem dX5_barn_19 : decode cX5_barn 19 = .ok (.ireturn, 1) := by decide +kernel
theorem dX5_barn_20 : decode cX5_barn 20 = .ok (.iload_n 2, 1) := by decide +kernel
theorem dX5_barn_21 : decode cX5_barn 21 = .ok (.ifCond .ne 15, 3) := by decide +kernel
theorem dX5_barn_24 : decode cX5_barn 24 = .ok (.aload_n 0, 1) := by decide +kernel
theorem dX5_barn_25 : decode cX5_barn 25 = .ok (.getfield 43, 3) := by decide +kernel
theorem dX5_barn_28 : decode cX5_barn 28 = .ok (.bipush 16, 2) := by decide +kernel
theorem dX5_barn_30 : decode cX5_barn 30 = .ok (.iload_n 1, 1) := by decide +kernel
theorem dX5_barn_31 : decode cX5_barn 31 = .ok (.iadd, 1) := by decide +kernel
theorem dX5_barn_32 : decode cX5_barn 32 = .ok (.iaload, 1) := by decide +kernel
theorem dX5_barn_33 : decode cX5_barn 33 = .ok (.goto 15, 3) := by decide +kernel
theorem dX5_barn_36 : decode cX5_barn 36 = .ok (.aload_n 0, 1) := by decide +kernel
theorem dX5_barn_37 : decode cX5_barn 37 = .ok (.getfield 43, 3) := by decide +kernel
theorem dX5_barn_40 : decode cX5_barn 40 = .ok (.iconst 4, 1) := by decide +kernel
theorem dX5_barn_41 : decode cX5_barn 41 = .ok (.iload_n 2, 1) := by decide +kernel
theorem dX5_barn_42 : decode cX5_barn 42 = .ok (.iconst 1, 1) := by decide +kernel
theorem dX5_barn_43 : decode cX5_barn 43 = .ok (.isub, 1) := by decide +kernel
theorem dX5_barn_44 : decode cX5_barn 44 = .ok (.imul, 1) := by decide +kernel
theorem dX5_barn_45 : decode cX5_barn 45 = .ok (.iload_n 1, 1) := by decide +kernel
theorem dX5_barn_46 : decode cX5_barn 46 = .ok (.iadd, 1) := by decide +kernel
theorem dX5_barn_47 : decode cX5_barn 47 = .ok (.iaload, 1) := by decide +kernel
theorem dX5_barn_48 : decode cX5_barn 48 = .ok (.ireturn, 1) := by decide +kernel
theorem dX5_isPack_0 : decode cX5_isPack 0 = .ok (.iload_n 1, 1) := by decide +kernel
theorem dX5_isPack_1 : decode cX5_isPack 1 = .ok (.iconst 0, 1) := by decide +kernel
theorem dX5_isPack_2 : decode cX5_isPack 2 = .ok (.aload_n 0, 1) := by decide +kernel
theorem dX5_isPack_3 : decode cX5_isPack 3 = .ok (.getfield 135, 3) := by decide +kernel
theorem dX5_isPack_6 : decode cX5_isPack 6 = .ok (.iconst 1, 1) := by decide +kernel
theorem dX5_isPack_7 : decode cX5_isPack 7 = .ok (.isub, 1) := by decide +kernel
theorem dX5_isPack_8 : decode cX5_isPack 8 = .ok (.invokestatic 102, 3) := by decide +kernel
theorem dX5_isPack_11 : decode cX5_isPack 11 = .ok (.ireturn, 1) := by decide +kernel
theorem dX5_pack_0 : decode cX5_pack 0 = .ok (.aload_n 0, 1) := by decide +kernel
theorem dX5_pack_1 : decode cX5_pack 1 = .ok (.iload_n 1, 1) := by decide +kernel
theorem dX5_pack_2 : decode cX5_pack 2 = .ok (.invokevirtual 166, 3) := by decide +kernel
theorem dX5_pack_5 : decode cX5_pack 5 = .ok (.ifCond .ne 5, 3) := by decide +kernel
theorem dX5_pack_8 : decode cX5_pack 8 = .ok (.iconst (-1), 1) := by decide +kernel
theorem dX5_pack_9 : decode cX5_pack 9 = .ok (.ireturn, 1) := by decide +kernel
theorem dX5_pack_10 : decode cX5_pack 10 = .ok (.iload_n 2, 1) := by decide +kernel
theorem dX5_pack_11 : decode cX5_pack 11 = .ok (.tableswitch 109 0 7 #[45, 52, 59, 66, 73, 80, 95, 102], 45) := by decide +kernel
theorem dX5_pack_56 : decode cX5_pack 56 = .ok (.aload_n 0, 1) := by decide +kernel
theorem dX5_pack_57 : decode cX5_pack 57 = .ok (.getfield 62, 3) := by decide +kernel
theorem dX5_pack_60 : decode cX5_pack 60 = .ok (.iload_n 1, 1) := by decide +kernel
theorem dX5_pack_61 : decode cX5_pack 61 = .ok (.iaload, 1) := by decide +kernel
theorem dX5_pack_62 : decode cX5_pack 62 = .ok (.ireturn, 1) := by decide +kernel
theorem dX5_pack_63 : decode cX5_pack 63 = .ok (.aload_n 0, 1) := by decide +kernel
theorem dX5_pack_64 : decode cX5_pack 64 = .ok (.getfield 65, 3) := by decide +kernel
theorem dX5_pack_67 : decode cX5_pack 67 = .ok (.iload_n 1, 1) := by decide +kernel
theorem dX5_pack_68 : decode cX5_pack 68 = .ok (.iaload, 1) := by decide +kernel
theorem dX5_pack_69 : decode cX5_pack 69 = .ok (.ireturn, 1) := by decide +kernel
theorem dX5_pack_70 : decode cX5_pack 70 = .ok (.aload_n 0, 1) := by decide +kernel
theorem dX5_pack_71 : decode cX5_pack 71 = .ok (.getfield 68, 3) := by decide +kernel
theorem dX5_pack_74 : decode cX5_pack 74 = .ok (.iload_n 1, 1) := by decide +kernel
theorem dX5_pack_75 : decode cX5_pack 75 = .ok (.iaload, 1) := by decide +kernel
theorem dX5_pack_76 : decode cX5_pack 76 = .ok (.ireturn, 1) := by decide +kernel
theorem dX5_pack_77 : decode cX5_pack 77 = .ok (.aload_n 0, 1) := by decide +kernel
theorem dX5_pack_78 : decode cX5_pack 78 = .ok (.getfield 71, 3) := by decide +kernel
theorem dX5_pack_81 : decode cX5_pack 81 = .ok (.iload_n 1, 1) := by decide +kernel
theorem dX5_pack_82 : decode cX5_pack 82 = .ok (.iaload, 1) := by decide +kernel
theorem dX5_pack_83 : decode cX5_pack 83 = .ok (.ireturn, 1) := by decide +kernel
theorem dX5_pack_84 : decode cX5_pack 84 = .ok (.aload_n 0, 1) := by decide +kernel
theorem dX5_pack_85 : decode cX5_pack 85 = .ok (.getfield 80, 3) := by decide +kernel
theorem dX5_pack_88 : decode cX5_pack 88 = .ok (.iload_n 1, 1) := by decide +kernel
theorem dX5_pack_89 : decode cX5_pack 89 = .ok (.iaload, 1) := by decide +kernel
theorem dX5_pack_90 : decode cX5_pack 90 = .ok (.ireturn, 1) := by decide +kernel
theorem dX5_pack_91 : decode cX5_pack 91 = .ok (.aload_n 0, 1) := by decide +kernel
theorem dX5_pack_92 : decode cX5_pack 92 = .ok (.getfield 83, 3) := by decide +kernel
theorem dX5_pack_95 : decode cX5_pack 95 = .ok (.iload_n 1, 1) := by decide +kernel
theorem dX5_pack_96 : decode cX5_pack 96 = .ok (.baload, 1) := by decide +kernel
theorem dX5_pack_97 : decode cX5_pack 97 = .ok (.ifCond .eq 7, 3) := by decide +kernel
theorem dX5_pack_100 : decode cX5_pack 100 = .ok (.iconst 1, 1) := by decide +kernel
theorem dX5_pack_101 : decode cX5_pack 101 = .ok (.goto 4, 3) := by decide +kernel
theorem dX5_pack_104 : decode cX5_pack 104 = .ok (.iconst 0, 1) := by decide +kernel
theorem dX5_pack_105 : decode cX5_pack 105 = .ok (.ireturn, 1) := by decide +kernel
theorem dX5_pack_106 : decode cX5_pack 106 = .ok (.aload_n 0, 1) := by decide +kernel
theorem dX5_pack_107 : decode cX5_pack 107 = .ok (.getfield 74, 3) := by decide +kernel
theorem dX5_pack_110 : decode cX5_pack 110 = .ok (.iload_n 1, 1) := by decide +kernel
theorem dX5_pack_111 : decode cX5_pack 111 = .ok (.iaload, 1) := by decide +kernel
theorem dX5_pack_112 : decode cX5_pack 112 = .ok (.ireturn, 1) := by decide +kernel
theorem dX5_pack_113 : decode cX5_pack 113 = .ok (.aload_n 0, 1) := by decide +kernel
theorem dX5_pack_114 : decode cX5_pack 114 = .ok (.getfield 77, 3) := by decide +kernel
theorem dX5_pack_117 : decode cX5_pack 117 = .ok (.iload_n 1, 1) := by decide +kernel
theorem dX5_pack_118 : decode cX5_pack 118 = .ok (.iaload, 1) := by decide +kernel
theorem dX5_pack_119 : decode cX5_pack 119 = .ok (.ireturn, 1) := by decide +kernel
theorem dX5_pack_120 : decode cX5_pack 120 = .ok (.iconst (-1), 1) := by decide +kernel
theorem dX5_pack_121 : decode cX5_pack 121 = .ok (.ireturn, 1) := by decide +kernel
theorem dX5_isFree_0 : decode cX5_isFree 0 = .ok (.aload_n 0, 1) := by decide +kernel
theorem dX5_isFree_1 : decode cX5_isFree 1 = .ok (.getfield 80, 3) := by decide +kernel
theorem dX5_isFree_4 : decode cX5_isFree 4 = .ok (.iload_n 1, 1) := by decide +kernel
theorem dX5_isFree_5 : decode cX5_isFree 5 = .ok (.iaload, 1) := by decide +kernel
theorem dX5_isFree_6 : decode cX5_isFree 6 = .ok (.bipush (-9), 2) := by decide +kernel
theorem dX5_isFree_8 : decode cX5_isFree 8 = .ok (.if_icmp .ne 16, 3) := by decide +kernel
theorem dX5_isFree_11 : decode cX5_isFree 11 = .ok (.aload_n 0, 1) := by decide +kernel
theorem dX5_isFree_12 : decode cX5_isFree 12 = .ok (.getfield 83, 3) := by decide +kernel
theorem dX5_isFree_15 : decode cX5_isFree 15 = .ok (.iload_n 1, 1) := by decide +kernel
theorem dX5_isFree_16 : decode cX5_isFree 16 = .ok (.baload, 1) := by decide +kernel
theorem dX5_isFree_17 : decode cX5_isFree 17 = .ok (.ifCond .ne 7, 3) := by decide +kernel
theorem dX5_isFree_20 : decode cX5_isFree 20 = .ok (.iconst 1, 1) := by decide +kernel
theorem dX5_isFree_21 : decode cX5_isFree 21 = .ok (.goto 4, 3) := by decide +kernel
theorem dX5_isFree_24 : decode cX5_isFree 24 = .ok (.iconst 0, 1) := by decide +kernel
theorem dX5_isFree_25 : decode cX5_isFree 25 = .ok (.ireturn, 1) := by decide +kernel
theorem dX5_freeOf_0 : decode cX5_freeOf 0 = .ok (.iconst 0, 1) := by decide +kernel
theorem dX5_freeOf_1 : decode cX5_freeOf 1 = .ok (.istore_n 2, 1) := by decide +kernel
theorem dX5_freeOf_2 : decode cX5_freeOf 2 = .ok (.iconst 0, 1) := by decide +kernel
theorem dX5_freeOf_3 : decode cX5_freeOf 3 = .ok (.istore_n 3, 1) := by decide +kernel
theorem dX5_freeOf_4 : decode cX5_freeOf 4 = .ok (.iload_n 3, 1) := by decide +kernel
theorem dX5_freeOf_5 : decode cX5_freeOf 5 = .ok (.aload_n 0, 1) := by decide +kernel
theorem dX5_freeOf_6 : decode cX5_freeOf 6 = .ok (.getfield 135, 3) := by decide +kernel
theorem dX5_freeOf_9 : decode cX5_freeOf 9 = .ok (.if_icmp .ge 35, 3) := by decide +kernel
theorem dX5_freeOf_12 : decode cX5_freeOf 12 = .ok (.iload_n 2, 1) := by decide +kernel
theorem dX5_freeOf_13 : decode cX5_freeOf 13 = .ok (.aload_n 0, 1) := by decide +kernel
theorem dX5_freeOf_14 : decode cX5_freeOf 14 = .ok (.getfield 62, 3) := by decide +kernel
theorem dX5_freeOf_17 : decode cX5_freeOf 17 = .ok (.iload_n 3, 1) := by decide +kernel
theorem dX5_freeOf_18 : decode cX5_freeOf 18 = .ok (.iaload, 1) := by decide +kernel
theorem dX5_freeOf_19 : decode cX5_freeOf 19 = .ok (.iload_n 1, 1) := by decide +kernel
theorem dX5_freeOf_20 : decode cX5_freeOf 20 = .ok (.if_icmp .ne 15, 3) := by decide +kernel
theorem dX5_freeOf_23 : decode cX5_freeOf 23 = .ok (.aload_n 0, 1) := by decide +kernel
theorem dX5_freeOf_24 : decode cX5_freeOf 24 = .ok (.iload_n 3, 1) := by decide +kernel
theorem dX5_freeOf_25 : decode cX5_freeOf 25 = .ok (.invokevirtual 169, 3) := by decide +kernel
theorem dX5_freeOf_28 : decode cX5_freeOf 28 = .ok (.ifCond .eq 7, 3) := by decide +kernel
theorem dX5_freeOf_31 : decode cX5_freeOf 31 = .ok (.iconst 1, 1) := by decide +kernel
theorem dX5_freeOf_32 : decode cX5_freeOf 32 = .ok (.goto 4, 3) := by decide +kernel
theorem dX5_freeOf_35 : decode cX5_freeOf 35 = .ok (.iconst 0, 1) := by decide +kernel
theorem dX5_freeOf_36 : decode cX5_freeOf 36 = .ok (.iadd, 1) := by decide +kernel
theorem dX5_freeOf_37 : decode cX5_freeOf 37 = .ok (.istore_n 2, 1) := by decide +kernel
theorem dX5_freeOf_38 : decode cX5_freeOf 38 = .ok (.iinc 3 1, 3) := by decide +kernel
theorem dX5_freeOf_41 : decode cX5_freeOf 41 = .ok (.goto (-37), 3) := by decide +kernel
theorem dX5_freeOf_44 : decode cX5_freeOf 44 = .ok (.iload_n 2, 1) := by decide +kernel
theorem dX5_freeOf_45 : decode cX5_freeOf 45 = .ok (.ireturn, 1) := by decide +kernel
theorem dX5_free_0 : decode cX5_free 0 = .ok (.iload_n 1, 1) := by decide +kernel
theorem dX5_free_1 : decode cX5_free 1 = .ok (.iconst 0, 1) := by decide +kernel
theorem dX5_free_2 : decode cX5_free 2 = .ok (.iconst 5, 1) := by decide +kernel
theorem dX5_free_3 : decode cX5_free 3 = .ok (.invokestatic 102, 3) := by decide +kernel
theorem dX5_free_6 : decode cX5_free 6 = .ok (.ifCond .eq 11, 3) := by decide +kernel
theorem dX5_free_9 : decode cX5_free 9 = .ok (.aload_n 0, 1) := by decide +kernel
theorem dX5_free_10 : decode cX5_free 10 = .ok (.iload_n 1, 1) := by decide +kernel
theorem dX5_free_11 : decode cX5_free 11 = .ok (.invokevirtual 172, 3) := by decide +kernel
theorem dX5_free_14 : decode cX5_free 14 = .ok (.goto 4, 3) := by decide +kernel
theorem dX5_free_17 : decode cX5_free 17 = .ok (.iconst (-1), 1) := by decide +kernel
theorem dX5_free_18 : decode cX5_free 18 = .ok (.ireturn, 1) := by decide +kernel
theorem dX5_order_0 : decode cX5_order 0 = .ok (.iload_n 1, 1) := by decide +kernel
theorem dX5_order_1 : decode cX5_order 1 = .ok (.iconst 0, 1) := by decide +kernel
theorem dX5_order_2 : decode cX5_order 2 = .ok (.iconst 5, 1) := by decide +kernel
theorem dX5_order_3 : decode cX5_order 3 = .ok (.invokestatic 102, 3) := by decide +kernel
theorem dX5_order_6 : decode cX5_order 6 = .ok (.ifCond .eq 24, 3) := by decide +kernel
theorem dX5_order_9 : decode cX5_order 9 = .ok (.iload_n 2, 1) := by decide +kernel
theorem dX5_order_10 : decode cX5_order 10 = .ok (.iconst 1, 1) := by decide +kernel
theorem dX5_order_11 : decode cX5_order 11 = .ok (.bipush 9, 2) := by decide +kernel
theorem dX5_order_13 : decode cX5_order 13 = .ok (.invokestatic 102, 3) := by decide +kernel
theorem dX5_order_16 : decode cX5_order 16 = .ok (.ifCond .eq 14, 3) := by decide +kernel
theorem dX5_order_19 : decode cX5_order 19 = .ok (.iload_n 3, 1) := by decide +kernel
theorem dX5_order_20 : decode cX5_order 20 = .ok (.iconst 1, 1) := by decide +kernel
theorem dX5_order_21 : decode cX5_order 21 = .ok (.sipush 1000, 3) := by decide +kernel
theorem dX5_order_24 : decode cX5_order 24 = .ok (.invokestatic 102, 3) := by decide +kernel
theorem dX5_order_27 : decode cX5_order 27 = .ok (.ifCond .ne 5, 3) := by decide +kernel
theorem dX5_order_30 : decode cX5_order 30 = .ok (.iconst (-1), 1) := by decide +kernel
theorem dX5_order_31 : decode cX5_order 31 = .ok (.ireturn, 1) := by decide +kernel
theorem dX5_order_32 : decode cX5_order 32 = .ok (.aload_n 0, 1) := by decide +kernel
theorem dX5_order_33 : decode cX5_order 33 = .ok (.getfield 175, 3) := by decide +kernel
theorem dX5_order_36 : decode cX5_order 36 = .ok (.bipush 6, 2) := by decide +kernel
theorem dX5_order_38 : decode cX5_order 38 = .ok (.if_icmp .ne 6, 3) := by decide +kernel
theorem dX5_order_41 : decode cX5_order 41 = .ok (.bipush (-3), 2) := by decide +kernel
theorem dX5_order_43 : decode cX5_order 43 = .ok (.ireturn, 1) := by decide +kernel
theorem dX5_order_44 : decode cX5_order 44 = .ok (.aload_n 0, 1) := by decide +kernel
theorem dX5_order_45 : decode cX5_order 45 = .ok (.getfield 86, 3) := by decide +kernel
theorem dX5_order_48 : decode cX5_order 48 = .ok (.aload_n 0, 1) := by decide +kernel
theorem dX5_order_49 : decode cX5_order 49 = .ok (.getfield 175, 3) := by decide +kernel
theorem dX5_order_52 : decode cX5_order 52 = .ok (.iload_n 1, 1) := by decide +kernel
theorem dX5_order_53 : decode cX5_order 53 = .ok (.iastore, 1) := by decide +kernel
theorem dX5_order_54 : decode cX5_order 54 = .ok (.aload_n 0, 1) := by decide +kernel
theorem dX5_order_55 : decode cX5_order 55 = .ok (.getfield 89, 3) := by decide +kernel
theorem dX5_order_58 : decode cX5_order 58 = .ok (.aload_n 0, 1) := by decide +kernel
theorem dX5_order_59 : decode cX5_order 59 = .ok (.getfield 175, 3) := by decide +kernel
theorem dX5_order_62 : decode cX5_order 62 = .ok (.iload_n 2, 1) := by decide +kernel
theorem dX5_order_63 : decode cX5_order 63 = .ok (.iastore, 1) := by decide +kernel
theorem dX5_order_64 : decode cX5_order 64 = .ok (.aload_n 0, 1) := by decide +kernel
theorem dX5_order_65 : decode cX5_order 65 = .ok (.getfield 92, 3) := by decide +kernel
theorem dX5_order_68 : decode cX5_order 68 = .ok (.aload_n 0, 1) := by decide +kernel
theorem dX5_order_69 : decode cX5_order 69 = .ok (.getfield 175, 3) := by decide +kernel
theorem dX5_order_72 : decode cX5_order 72 = .ok (.iload_n 3, 1) := by decide +kernel
theorem dX5_order_73 : decode cX5_order 73 = .ok (.iastore, 1) := by decide +kernel
theorem dX5_order_74 : decode cX5_order 74 = .ok (.aload_n 0, 1) := by decide +kernel
theorem dX5_order_75 : decode cX5_order 75 = .ok (.getfield 95, 3) := by decide +kernel
theorem dX5_order_78 : decode cX5_order 78 = .ok (.aload_n 0, 1) := by decide +kernel
theorem dX5_order_79 : decode cX5_order 79 = .ok (.getfield 175, 3) := by decide +kernel
theorem dX5_order_82 : decode cX5_order 82 = .ok (.iconst 0, 1) := by decide +kernel
theorem dX5_order_83 : decode cX5_order 83 = .ok (.bastore, 1) := by decide +kernel
theorem dX5_order_84 : decode cX5_order 84 = .ok (.aload_n 0, 1) := by decide +kernel
theorem dX5_order_85 : decode cX5_order 85 = .ok (.dup, 1) := by decide +kernel
theorem dX5_order_86 : decode cX5_order 86 = .ok (.getfield 175, 3) := by decide +kernel
theorem dX5_order_89 : decode cX5_order 89 = .ok (.iconst 1, 1) := by decide +kernel
theorem dX5_order_90 : decode cX5_order 90 = .ok (.iadd, 1) := by decide +kernel
theorem dX5_order_91 : decode cX5_order 91 = .ok (.putfield 175, 3) := by decide +kernel
theorem dX5_order_94 : decode cX5_order 94 = .ok (.aload_n 0, 1) := by decide +kernel
theorem dX5_order_95 : decode cX5_order 95 = .ok (.getfield 175, 3) := by decide +kernel
theorem dX5_order_98 : decode cX5_order 98 = .ok (.iconst 1, 1) := by decide +kernel
theorem dX5_order_99 : decode cX5_order 99 = .ok (.isub, 1) := by decide +kernel
theorem dX5_order_100 : decode cX5_order 100 = .ok (.ireturn, 1) := by decide +kernel
theorem dX5_worthOf_0 : decode cX5_worthOf 0 = .ok (.iconst 0, 1) := by decide +kernel
theorem dX5_worthOf_1 : decode cX5_worthOf 1 = .ok (.istore_n 2, 1) := by decide +kernel
theorem dX5_worthOf_2 : decode cX5_worthOf 2 = .ok (.iconst 0, 1) := by decide +kernel
theorem dX5_worthOf_3 : decode cX5_worthOf 3 = .ok (.istore_n 3, 1) := by decide +kernel
theorem dX5_worthOf_4 : decode cX5_worthOf 4 = .ok (.iload_n 3, 1) := by decide +kernel
theorem dX5_worthOf_5 : decode cX5_worthOf 5 = .ok (.aload_n 0, 1) := by decide +kernel
theorem dX5_worthOf_6 : decode cX5_worthOf 6 = .ok (.getfield 175, 3) := by decide +kernel
theorem dX5_worthOf_9 : decode cX5_worthOf 9 = .ok (.if_icmp .ge 31, 3) := by decide +kernel
theorem dX5_worthOf_12 : decode cX5_worthOf 12 = .ok (.iload_n 2, 1) := by decide +kernel
theorem dX5_worthOf_13 : decode cX5_worthOf 13 = .ok (.iload_n 1, 1) := by decide +kernel
theorem dX5_worthOf_14 : decode cX5_worthOf 14 = .ok (.iload_n 3, 1) := by decide +kernel
theorem dX5_worthOf_15 : decode cX5_worthOf 15 = .ok (.ishr, 1) := by decide +kernel
theorem dX5_worthOf_16 : decode cX5_worthOf 16 = .ok (.iconst 1, 1) := by decide +kernel
theorem dX5_worthOf_17 : decode cX5_worthOf 17 = .ok (.iand, 1) := by decide +kernel
theorem dX5_worthOf_18 : decode cX5_worthOf 18 = .ok (.iconst 1, 1) := by decide +kernel
theorem dX5_worthOf_19 : decode cX5_worthOf 19 = .ok (.if_icmp .ne 12, 3) := by decide +kernel
theorem dX5_worthOf_22 : decode cX5_worthOf 22 = .ok (.aload_n 0, 1) := by decide +kernel
theorem dX5_worthOf_23 : decode cX5_worthOf 23 = .ok (.getfield 92, 3) := by decide +kernel
theorem dX5_worthOf_26 : decode cX5_worthOf 26 = .ok (.iload_n 3, 1) := by decide +kernel
theorem dX5_worthOf_27 : decode cX5_worthOf 27 = .ok (.iaload, 1) := by decide +kernel
theorem dX5_worthOf_28 : decode cX5_worthOf 28 = .ok (.goto 4, 3) := by decide +kernel
theorem dX5_worthOf_31 : decode cX5_worthOf 31 = .ok (.iconst 0, 1) := by decide +kernel
theorem dX5_worthOf_32 : decode cX5_worthOf 32 = .ok (.iadd, 1) := by decide +kernel
theorem dX5_worthOf_33 : decode cX5_worthOf 33 = .ok (.istore_n 2, 1) := by decide +kernel
theorem dX5_worthOf_34 : decode cX5_worthOf 34 = .ok (.iinc 3 1, 3) := by decide +kernel
theorem dX5_worthOf_37 : decode cX5_worthOf 37 = .ok (.goto (-33), 3) := by decide +kernel
theorem dX5_worthOf_40 : decode cX5_worthOf 40 = .ok (.iload_n 2, 1) := by decide +kernel
theorem dX5_worthOf_41 : decode cX5_worthOf 41 = .ok (.ireturn, 1) := by decide +kernel
theorem dX5_canServe_0 : decode cX5_canServe 0 = .ok (.iconst 1, 1) := by decide +kernel
theorem dX5_canServe_1 : decode cX5_canServe 1 = .ok (.istore_n 2, 1) := by decide +kernel
theorem dX5_canServe_2 : decode cX5_canServe 2 = .ok (.iconst 0, 1) := by decide +kernel
theorem dX5_canServe_3 : decode cX5_canServe 3 = .ok (.istore_n 3, 1) := by decide +kernel
theorem dX5_canServe_4 : decode cX5_canServe 4 = .ok (.iload_n 3, 1) := by decide +kernel
theorem dX5_canServe_5 : decode cX5_canServe 5 = .ok (.bipush 6, 2) := by decide +kernel
theorem dX5_canServe_7 : decode cX5_canServe 7 = .ok (.if_icmp .ge 87, 3) := by decide +kernel
theorem dX5_canServe_10 : decode cX5_canServe 10 = .ok (.iconst 0, 1) := by decide +kernel
theorem dX5_canServe_11 : decode cX5_canServe 11 = .ok (.istore 4, 2) := by decide +kernel
theorem dX5_canServe_13 : decode cX5_canServe 13 = .ok (.iconst 0, 1) := by decide +kernel
theorem dX5_canServe_14 : decode cX5_canServe 14 = .ok (.istore 5, 2) := by decide +kernel
theorem dX5_canServe_16 : decode cX5_canServe 16 = .ok (.iload 5, 2) := by decide +kernel
theorem dX5_canServe_18 : decode cX5_canServe 18 = .ok (.aload_n 0, 1) := by decide +kernel
theorem dX5_canServe_19 : decode cX5_canServe 19 = .ok (.getfield 175, 3) := by decide +kernel
theorem dX5_canServe_22 : decode cX5_canServe 22 = .ok (.if_icmp .ge 46, 3) := by decide +kernel
theorem dX5_canServe_25 : decode cX5_canServe 25 = .ok (.iload 4, 2) := by decide +kernel
theorem dX5_canServe_27 : decode cX5_canServe 27 = .ok (.iload_n 1, 1) := by decide +kernel
theorem dX5_canServe_28 : decode cX5_canServe 28 = .ok (.iload 5, 2) := by decide +kernel
theorem dX5_canServe_30 : decode cX5_canServe 30 = .ok (.ishr, 1) := by decide +kernel
theorem dX5_canServe_31 : decode cX5_canServe 31 = .ok (.iconst 1, 1) := by decide +kernel
theorem dX5_canServe_32 : decode cX5_canServe 32 = .ok (.iand, 1) := by decide +kernel
theorem dX5_canServe_33 : decode cX5_canServe 33 = .ok (.iconst 1, 1) := by decide +kernel
theorem dX5_canServe_34 : decode cX5_canServe 34 = .ok (.if_icmp .ne 24, 3) := by decide +kernel
theorem dX5_canServe_37 : decode cX5_canServe 37 = .ok (.aload_n 0, 1) := by decide +kernel
theorem dX5_canServe_38 : decode cX5_canServe 38 = .ok (.getfield 86, 3) := by decide +kernel
theorem dX5_canServe_41 : decode cX5_canServe 41 = .ok (.iload 5, 2) := by decide +kernel
theorem dX5_canServe_43 : decode cX5_canServe 43 = .ok (.iaload, 1) := by decide +kernel
theorem dX5_canServe_44 : decode cX5_canServe 44 = .ok (.iload_n 3, 1) := by decide +kernel
theorem dX5_canServe_45 : decode cX5_canServe 45 = .ok (.if_icmp .ne 13, 3) := by decide +kernel
theorem dX5_canServe_48 : decode cX5_canServe 48 = .ok (.aload_n 0, 1) := by decide +kernel
theorem dX5_canServe_49 : decode cX5_canServe 49 = .ok (.getfield 89, 3) := by decide +kernel
theorem dX5_canServe_52 : decode cX5_canServe 52 = .ok (.iload 5, 2) := by decide +kernel
theorem dX5_canServe_54 : decode cX5_canServe 54 = .ok (.iaload, 1) := by decide +kernel
theorem dX5_canServe_55 : decode cX5_canServe 55 = .ok (.goto 4, 3) := by decide +kernel
theorem dX5_canServe_58 : decode cX5_canServe 58 = .ok (.iconst 0, 1) := by decide +kernel
theorem dX5_canServe_59 : decode cX5_canServe 59 = .ok (.iadd, 1) := by decide +kernel
theorem dX5_canServe_60 : decode cX5_canServe 60 = .ok (.istore 4, 2) := by decide +kernel
theorem dX5_canServe_62 : decode cX5_canServe 62 = .ok (.iinc 5 1, 3) := by decide +kernel
theorem dX5_canServe_65 : decode cX5_canServe 65 = .ok (.goto (-49), 3) := by decide +kernel
theorem dX5_canServe_68 : decode cX5_canServe 68 = .ok (.iload_n 2, 1) := by decide +kernel
theorem dX5_canServe_69 : decode cX5_canServe 69 = .ok (.ifCond .eq 17, 3) := by decide +kernel
theorem dX5_canServe_72 : decode cX5_canServe 72 = .ok (.iload 4, 2) := by decide +kernel
theorem dX5_canServe_74 : decode cX5_canServe 74 = .ok (.aload_n 0, 1) := by decide +kernel
theorem dX5_canServe_75 : decode cX5_canServe 75 = .ok (.iload_n 3, 1) := by decide +kernel
theorem dX5_canServe_76 : decode cX5_canServe 76 = .ok (.invokevirtual 172, 3) := by decide +kernel
theorem dX5_canServe_79 : decode cX5_canServe 79 = .ok (.if_icmp .gt 7, 3) := by decide +kernel
theorem dX5_canServe_82 : decode cX5_canServe 82 = .ok (.iconst 1, 1) := by decide +kernel
theorem dX5_canServe_83 : decode cX5_canServe 83 = .ok (.goto 4, 3) := by decide +kernel
theorem dX5_canServe_86 : decode cX5_canServe 86 = .ok (.iconst 0, 1) := by decide +kernel
theorem dX5_canServe_87 : decode cX5_canServe 87 = .ok (.istore_n 2, 1) := by decide +kernel
theorem dX5_canServe_88 : decode cX5_canServe 88 = .ok (.iinc 3 1, 3) := by decide +kernel
theorem dX5_canServe_91 : decode cX5_canServe 91 = .ok (.goto (-87), 3) := by decide +kernel
theorem dX5_canServe_94 : decode cX5_canServe 94 = .ok (.iconst 0, 1) := by decide +kernel
theorem dX5_canServe_95 : decode cX5_canServe 95 = .ok (.istore_n 3, 1) := by decide +kernel
theorem dX5_canServe_96 : decode cX5_canServe 96 = .ok (.iload_n 3, 1) := by decide +kernel
theorem dX5_canServe_97 : decode cX5_canServe 97 = .ok (.aload_n 0, 1) := by decide +kernel
theorem dX5_canServe_98 : decode cX5_canServe 98 = .ok (.getfield 175, 3) := by decide +kernel
theorem dX5_canServe_101 : decode cX5_canServe 101 = .ok (.if_icmp .ge 36, 3) := by decide +kernel
theorem dX5_canServe_104 : decode cX5_canServe 104 = .ok (.iload_n 2, 1) := by decide +kernel
theorem dX5_canServe_105 : decode cX5_canServe 105 = .ok (.ifCond .eq 24, 3) := by decide +kernel
theorem dX5_canServe_108 : decode cX5_canServe 108 = .ok (.iload_n 1, 1) := by decide +kernel
theorem dX5_canServe_109 : decode cX5_canServe 109 = .ok (.iload_n 3, 1) := by decide +kernel
theorem dX5_canServe_110 : decode cX5_canServe 110 = .ok (.ishr, 1) := by decide +kernel
theorem dX5_canServe_111 : decode cX5_canServe 111 = .ok (.iconst 1, 1) := by decide +kernel
theorem dX5_canServe_112 : decode cX5_canServe 112 = .ok (.iand, 1) := by decide +kernel
theorem dX5_canServe_113 : decode cX5_canServe 113 = .ok (.ifCond .eq 12, 3) := by decide +kernel
theorem dX5_canServe_116 : decode cX5_canServe 116 = .ok (.aload_n 0, 1) := by decide +kernel
theorem dX5_canServe_117 : decode cX5_canServe 117 = .ok (.getfield 95, 3) := by decide +kernel
theorem dX5_canServe_120 : decode cX5_canServe 120 = .ok (.iload_n 3, 1) := by decide +kernel
theorem dX5_canServe_121 : decode cX5_canServe 121 = .ok (.baload, 1) := by decide +kernel
theorem dX5_canServe_122 : decode cX5_canServe 122 = .ok (.ifCond .ne 7, 3) := by decide +kernel
theorem dX5_canServe_125 : decode cX5_canServe 125 = .ok (.iconst 1, 1) := by decide +kernel
theorem dX5_canServe_126 : decode cX5_canServe 126 = .ok (.goto 4, 3) := by decide +kernel
theorem dX5_canServe_129 : decode cX5_canServe 129 = .ok (.iconst 0, 1) := by decide +kernel
theorem dX5_canServe_130 : decode cX5_canServe 130 = .ok (.istore_n 2, 1) := by decide +kernel
theorem dX5_canServe_131 : decode cX5_canServe 131 = .ok (.iinc 3 1, 3) := by decide +kernel
theorem dX5_canServe_134 : decode cX5_canServe 134 = .ok (.goto (-38), 3) := by decide +kernel
theorem dX5_canServe_137 : decode cX5_canServe 137 = .ok (.iload_n 2, 1) := by decide +kernel
theorem dX5_canServe_138 : decode cX5_canServe 138 = .ok (.ireturn, 1) := by decide +kernel
theorem dX5_bestSet_0 : decode cX5_bestSet 0 = .ok (.iconst 0, 1) := by decide +kernel
theorem dX5_bestSet_1 : decode cX5_bestSet 1 = .ok (.istore_n 1, 1) := by decide +kernel
theorem dX5_bestSet_2 : decode cX5_bestSet 2 = .ok (.iconst 1, 1) := by decide +kernel
theorem dX5_bestSet_3 : decode cX5_bestSet 3 = .ok (.istore_n 2, 1) := by decide +kernel
theorem dX5_bestSet_4 : decode cX5_bestSet 4 = .ok (.iload_n 2, 1) := by decide +kernel
theorem dX5_bestSet_5 : decode cX5_bestSet 5 = .ok (.iconst 1, 1) := by decide +kernel
theorem dX5_bestSet_6 : decode cX5_bestSet 6 = .ok (.aload_n 0, 1) := by decide +kernel
theorem dX5_bestSet_7 : decode cX5_bestSet 7 = .ok (.getfield 175, 3) := by decide +kernel
theorem dX5_bestSet_10 : decode cX5_bestSet 10 = .ok (.ishl, 1) := by decide +kernel
theorem dX5_bestSet_11 : decode cX5_bestSet 11 = .ok (.if_icmp .ge 36, 3) := by decide +kernel
theorem dX5_bestSet_14 : decode cX5_bestSet 14 = .ok (.aload_n 0, 1) := by decide +kernel
theorem dX5_bestSet_15 : decode cX5_bestSet 15 = .ok (.iload_n 2, 1) := by decide +kernel
theorem dX5_bestSet_16 : decode cX5_bestSet 16 = .ok (.invokevirtual 178, 3) := by decide +kernel
theorem dX5_bestSet_19 : decode cX5_bestSet 19 = .ok (.ifCond .eq 20, 3) := by decide +kernel
theorem dX5_bestSet_22 : decode cX5_bestSet 22 = .ok (.aload_n 0, 1) := by decide +kernel
theorem dX5_bestSet_23 : decode cX5_bestSet 23 = .ok (.iload_n 2, 1) := by decide +kernel
theorem dX5_bestSet_24 : decode cX5_bestSet 24 = .ok (.invokevirtual 181, 3) := by decide +kernel
theorem dX5_bestSet_27 : decode cX5_bestSet 27 = .ok (.aload_n 0, 1) := by decide +kernel
theorem dX5_bestSet_28 : decode cX5_bestSet 28 = .ok (.iload_n 1, 1) := by decide +kernel
theorem dX5_bestSet_29 : decode cX5_bestSet 29 = .ok (.invokevirtual 181, 3) := by decide +kernel
theorem dX5_bestSet_32 : decode cX5_bestSet 32 = .ok (.if_icmp .le 7, 3) := by decide +kernel
theorem dX5_bestSet_35 : decode cX5_bestSet 35 = .ok (.iload_n 2, 1) := by decide +kernel
theorem dX5_bestSet_36 : decode cX5_bestSet 36 = .ok (.goto 4, 3) := by decide +kernel
theorem dX5_bestSet_39 : decode cX5_bestSet 39 = .ok (.iload_n 1, 1) := by decide +kernel
theorem dX5_bestSet_40 : decode cX5_bestSet 40 = .ok (.istore_n 1, 1) := by decide +kernel
theorem dX5_bestSet_41 : decode cX5_bestSet 41 = .ok (.iinc 2 1, 3) := by decide +kernel
theorem dX5_bestSet_44 : decode cX5_bestSet 44 = .ok (.goto (-40), 3) := by decide +kernel
theorem dX5_bestSet_47 : decode cX5_bestSet 47 = .ok (.iload_n 1, 1) := by decide +kernel
theorem dX5_bestSet_48 : decode cX5_bestSet 48 = .ok (.ireturn, 1) := by decide +kernel
theorem dX5_best_0 : decode cX5_best 0 = .ok (.iload_n 1, 1) := by decide +kernel
theorem dX5_best_1 : decode cX5_best 1 = .ok (.iconst 0, 1) := by decide +kernel
theorem dX5_best_2 : decode cX5_best 2 = .ok (.iconst 1, 1) := by decide +kernel
theorem dX5_best_3 : decode cX5_best 3 = .ok (.invokestatic 102, 3) := by decide +kernel
theorem dX5_best_6 : decode cX5_best 6 = .ok (.ifCond .ne 7, 3) := by decide +kernel
theorem dX5_best_9 : decode cX5_best 9 = .ok (.iconst (-1), 1) := by decide +kernel
theorem dX5_best_10 : decode cX5_best 10 = .ok (.goto 22, 3) := by decide +kernel
theorem dX5_best_13 : decode cX5_best 13 = .ok (.iload_n 1, 1) := by decide +kernel
theorem dX5_best_14 : decode cX5_best 14 = .ok (.ifCond .ne 10, 3) := by decide +kernel
theorem dX5_best_17 : decode cX5_best 17 = .ok (.aload_n 0, 1) := by decide +kernel
theorem dX5_best_18 : decode cX5_best 18 = .ok (.invokevirtual 184, 3) := by decide +kernel
theorem dX5_best_21 : decode cX5_best 21 = .ok (.goto 11, 3) := by decide +kernel
theorem dX5_best_24 : decode cX5_best 24 = .ok (.aload_n 0, 1) := by decide +kernel
theorem dX5_best_25 : decode cX5_best 25 = .ok (.aload_n 0, 1) := by decide +kernel
theorem dX5_best_26 : decode cX5_best 26 = .ok (.invokevirtual 184, 3) := by decide +kernel
theorem dX5_best_29 : decode cX5_best 29 = .ok (.invokevirtual 181, 3) := by decide +kernel
theorem dX5_best_32 : decode cX5_best 32 = .ok (.ireturn, 1) := by decide +kernel
theorem dX5_serve_0 : decode cX5_serve 0 = .ok (.aload_n 0, 1) := by decide +kernel
theorem dX5_serve_1 : decode cX5_serve 1 = .ok (.invokevirtual 184, 3) := by decide +kernel
theorem dX5_serve_4 : decode cX5_serve 4 = .ok (.istore_n 1, 1) := by decide +kernel
theorem dX5_serve_5 : decode cX5_serve 5 = .ok (.iconst 0, 1) := by decide +kernel
theorem dX5_serve_6 : decode cX5_serve 6 = .ok (.istore_n 2, 1) := by decide +kernel
theorem dX5_serve_7 : decode cX5_serve 7 = .ok (.iconst 0, 1) := by decide +kernel
theorem dX5_serve_8 : decode cX5_serve 8 = .ok (.istore_n 3, 1) := by decide +kernel
theorem dX5_serve_9 : decode cX5_serve 9 = .ok (.iload_n 3, 1) := by decide +kernel
theorem dX5_serve_10 : decode cX5_serve 10 = .ok (.aload_n 0, 1) := by decide +kernel
theorem dX5_serve_11 : decode cX5_serve 11 = .ok (.getfield 175, 3) := by decide +kernel
theorem dX5_serve_14 : decode cX5_serve 14 = .ok (.if_icmp .ge 95, 3) := by decide +kernel
theorem dX5_serve_17 : decode cX5_serve 17 = .ok (.iload_n 1, 1) := by decide +kernel
theorem dX5_serve_18 : decode cX5_serve 18 = .ok (.iload_n 3, 1) := by decide +kernel
theorem dX5_serve_19 : decode cX5_serve 19 = .ok (.ishr, 1) := by decide +kernel
theorem dX5_serve_20 : decode cX5_serve 20 = .ok (.iconst 1, 1) := by decide +kernel
theorem dX5_serve_21 : decode cX5_serve 21 = .ok (.iand, 1) := by decide +kernel
theorem dX5_serve_22 : decode cX5_serve 22 = .ok (.iconst 1, 1) := by decide +kernel
theorem dX5_serve_23 : decode cX5_serve 23 = .ok (.if_icmp .ne 80, 3) := by decide +kernel
theorem dX5_serve_26 : decode cX5_serve 26 = .ok (.aload_n 0, 1) := by decide +kernel
theorem dX5_serve_27 : decode cX5_serve 27 = .ok (.getfield 89, 3) := by decide +kernel
theorem dX5_serve_30 : decode cX5_serve 30 = .ok (.iload_n 3, 1) := by decide +kernel
theorem dX5_serve_31 : decode cX5_serve 31 = .ok (.iaload, 1) := by decide +kernel
theorem dX5_serve_32 : decode cX5_serve 32 = .ok (.istore 4, 2) := by decide +kernel
theorem dX5_serve_34 : decode cX5_serve 34 = .ok (.iconst 0, 1) := by decide +kernel
theorem dX5_serve_35 : decode cX5_serve 35 = .ok (.istore 5, 2) := by decide +kernel
theorem dX5_serve_37 : decode cX5_serve 37 = .ok (.iload 5, 2) := by decide +kernel
theorem dX5_serve_39 : decode cX5_serve 39 = .ok (.aload_n 0, 1) := by decide +kernel
theorem dX5_serve_40 : decode cX5_serve 40 = .ok (.getfield 135, 3) := by decide +kernel
theorem dX5_serve_43 : decode cX5_serve 43 = .ok (.if_icmp .ge 53, 3) := by decide +kernel
theorem dX5_serve_46 : decode cX5_serve 46 = .ok (.iload 4, 2) := by decide +kernel
theorem dX5_serve_48 : decode cX5_serve 48 = .ok (.ifCond .le 48, 3) := by decide +kernel
theorem dX5_serve_51 : decode cX5_serve 51 = .ok (.aload_n 0, 1) := by decide +kernel
theorem dX5_serve_52 : decode cX5_serve 52 = .ok (.getfield 62, 3) := by decide +kernel
theorem dX5_serve_55 : decode cX5_serve 55 = .ok (.iload 5, 2) := by decide +kernel
theorem dX5_serve_57 : decode cX5_serve 57 = .ok (.iaload, 1) := by decide +kernel
theorem dX5_serve_58 : decode cX5_serve 58 = .ok (.aload_n 0, 1) := by decide +kernel
theorem dX5_serve_59 : decode cX5_serve 59 = .ok (.getfield 86, 3) := by decide +kernel
theorem dX5_serve_62 : decode cX5_serve 62 = .ok (.iload_n 3, 1) := by decide +kernel
theorem dX5_serve_63 : decode cX5_serve 63 = .ok (.iaload, 1) := by decide +kernel
theorem dX5_serve_64 : decode cX5_serve 64 = .ok (.if_icmp .ne 26, 3) := by decide +kernel
theorem dX5_serve_67 : decode cX5_serve 67 = .ok (.aload_n 0, 1) := by decide +kernel
theorem dX5_serve_68 : decode cX5_serve 68 = .ok (.iload 5, 2) := by decide +kernel
theorem dX5_serve_70 : decode cX5_serve 70 = .ok (.invokevirtual 169, 3) := by decide +kernel
theorem dX5_serve_73 : decode cX5_serve 73 = .ok (.ifCond .eq 17, 3) := by decide +kernel
theorem dX5_serve_76 : decode cX5_serve 76 = .ok (.aload_n 0, 1) := by decide +kernel
theorem dX5_serve_77 : decode cX5_serve 77 = .ok (.getfield 80, 3) := by decide +kernel
theorem dX5_serve_80 : decode cX5_serve 80 = .ok (.iload 5, 2) := by decide +kernel
theorem dX5_serve_82 : decode cX5_serve 82 = .ok (.iload_n 3, 1) := by decide +kernel
theorem dX5_serve_83 : decode cX5_serve 83 = .ok (.iastore, 1) := by decide +kernel
theorem dX5_serve_84 : decode cX5_serve 84 = .ok (.iinc 4 (-1), 3) := by decide +kernel
theorem dX5_serve_87 : decode cX5_serve 87 = .ok (.iinc 2 1, 3) := by decide +kernel
theorem dX5_serve_90 : decode cX5_serve 90 = .ok (.iinc 5 1, 3) := by decide +kernel
theorem dX5_serve_93 : decode cX5_serve 93 = .ok (.goto (-56), 3) := by decide +kernel
theorem dX5_serve_96 : decode cX5_serve 96 = .ok (.aload_n 0, 1) := by decide +kernel
theorem dX5_serve_97 : decode cX5_serve 97 = .ok (.getfield 95, 3) := by decide +kernel
theorem dX5_serve_100 : decode cX5_serve 100 = .ok (.iload_n 3, 1) := by decide +kernel
theorem dX5_serve_101 : decode cX5_serve 101 = .ok (.iconst 1, 1) := by decide +kernel
theorem dX5_serve_102 : decode cX5_serve 102 = .ok (.bastore, 1) := by decide +kernel
theorem dX5_serve_103 : decode cX5_serve 103 = .ok (.iinc 3 1, 3) := by decide +kernel
theorem dX5_serve_106 : decode cX5_serve 106 = .ok (.goto (-97), 3) := by decide +kernel
theorem dX5_serve_109 : decode cX5_serve 109 = .ok (.iload_n 2, 1) := by decide +kernel
theorem dX5_serve_110 : decode cX5_serve 110 = .ok (.ireturn, 1) := by decide +kernel
theorem dX5_about_0 : decode cX5_about 0 = .ok (.iload_n 1, 1) := by decide +kernel
theorem dX5_about_1 : decode cX5_about 1 = .ok (.iconst 0, 1) := by decide +kernel
theorem dX5_about_2 : decode cX5_about 2 = .ok (.aload_n 0, 1) := by decide +kernel
theorem dX5_about_3 : decode cX5_about 3 = .ok (.getfield 175, 3) := by decide +kernel
theorem dX5_about_6 : decode cX5_about 6 = .ok (.iconst 1, 1) := by decide +kernel
theorem dX5_about_7 : decode cX5_about 7 = .ok (.isub, 1) := by decide +kernel
theorem dX5_about_8 : decode cX5_about 8 = .ok (.invokestatic 102, 3) := by decide +kernel
theorem dX5_about_11 : decode cX5_about 11 = .ok (.ifCond .ne 5, 3) := by decide +kernel
theorem dX5_about_14 : decode cX5_about 14 = .ok (.iconst (-1), 1) := by decide +kernel
theorem dX5_about_15 : decode cX5_about 15 = .ok (.ireturn, 1) := by decide +kernel
theorem dX5_about_16 : decode cX5_about 16 = .ok (.iload_n 2, 1) := by decide +kernel
theorem dX5_about_17 : decode cX5_about 17 = .ok (.tableswitch 67 0 3 #[31, 38, 45, 52], 31) := by decide +kernel
theorem dX5_about_48 : decode cX5_about 48 = .ok (.aload_n 0, 1) := by decide +kernel
theorem dX5_about_49 : decode cX5_about 49 = .ok (.getfield 86, 3) := by decide +kernel
theorem dX5_about_52 : decode cX5_about 52 = .ok (.iload_n 1, 1) := by decide +kernel
theorem dX5_about_53 : decode cX5_about 53 = .ok (.iaload, 1) := by decide +kernel
theorem dX5_about_54 : decode cX5_about 54 = .ok (.ireturn, 1) := by decide +kernel
theorem dX5_about_55 : decode cX5_about 55 = .ok (.aload_n 0, 1) := by decide +kernel
theorem dX5_about_56 : decode cX5_about 56 = .ok (.getfield 89, 3) := by decide +kernel
theorem dX5_about_59 : decode cX5_about 59 = .ok (.iload_n 1, 1) := by decide +kernel
theorem dX5_about_60 : decode cX5_about 60 = .ok (.iaload, 1) := by decide +kernel
theorem dX5_about_61 : decode cX5_about 61 = .ok (.ireturn, 1) := by decide +kernel
theorem dX5_about_62 : decode cX5_about 62 = .ok (.aload_n 0, 1) := by decide +kernel
theorem dX5_about_63 : decode cX5_about 63 = .ok (.getfield 92, 3) := by decide +kernel
theorem dX5_about_66 : decode cX5_about 66 = .ok (.iload_n 1, 1) := by decide +kernel
theorem dX5_about_67 : decode cX5_about 67 = .ok (.iaload, 1) := by decide +kernel
theorem dX5_about_68 : decode cX5_about 68 = .ok (.ireturn, 1) := by decide +kernel
theorem dX5_about_69 : decode cX5_about 69 = .ok (.aload_n 0, 1) := by decide +kernel
theorem dX5_about_70 : decode cX5_about 70 = .ok (.getfield 95, 3) := by decide +kernel
theorem dX5_about_73 : decode cX5_about 73 = .ok (.iload_n 1, 1) := by decide +kernel
theorem dX5_about_74 : decode cX5_about 74 = .ok (.baload, 1) := by decide +kernel
theorem dX5_about_75 : decode cX5_about 75 = .ok (.ifCond .eq 7, 3) := by decide +kernel
theorem dX5_about_78 : decode cX5_about 78 = .ok (.iconst 1, 1) := by decide +kernel
theorem dX5_about_79 : decode cX5_about 79 = .ok (.goto 4, 3) := by decide +kernel
theorem dX5_about_82 : decode cX5_about 82 = .ok (.iconst 0, 1) := by decide +kernel
theorem dX5_about_83 : decode cX5_about 83 = .ok (.ireturn, 1) := by decide +kernel
theorem dX5_about_84 : decode cX5_about 84 = .ok (.iconst (-1), 1) := by decide +kernel
theorem dX5_about_85 : decode cX5_about 85 = .ok (.ireturn, 1) := by decide +kernel
theorem dX5_doubts_0 : decode cX5_doubts 0 = .ok (.iconst 0, 1) := by decide +kernel
theorem dX5_doubts_1 : decode cX5_doubts 1 = .ok (.istore 5, 2) := by decide +kernel
theorem dX5_doubts_3 : decode cX5_doubts 3 = .ok (.iconst 0, 1) := by decide +kernel
theorem dX5_doubts_4 : decode cX5_doubts 4 = .ok (.istore 6, 2) := by decide +kernel
theorem dX5_doubts_6 : decode cX5_doubts 6 = .ok (.iload 6, 2) := by decide +kernel
theorem dX5_doubts_8 : decode cX5_doubts 8 = .ok (.aload_n 0, 1) := by decide +kernel
theorem dX5_doubts_9 : decode cX5_doubts 9 = .ok (.getfield 135, 3) := by decide +kernel
theorem dX5_doubts_12 : decode cX5_doubts 12 = .ok (.if_icmp .ge 85, 3) := by decide +kernel
theorem dX5_doubts_15 : decode cX5_doubts 15 = .ok (.aload_n 0, 1) := by decide +kernel
theorem dX5_doubts_16 : decode cX5_doubts 16 = .ok (.getfield 65, 3) := by decide +kernel
theorem dX5_doubts_19 : decode cX5_doubts 19 = .ok (.iload 6, 2) := by decide +kernel
theorem dX5_doubts_21 : decode cX5_doubts 21 = .ok (.iaload, 1) := by decide +kernel
theorem dX5_doubts_22 : decode cX5_doubts 22 = .ok (.iload_n 1, 1) := by decide +kernel
theorem dX5_doubts_23 : decode cX5_doubts 23 = .ok (.iand, 1) := by decide +kernel
theorem dX5_doubts_24 : decode cX5_doubts 24 = .ok (.ifCond .eq 67, 3) := by decide +kernel
theorem dX5_doubts_27 : decode cX5_doubts 27 = .ok (.aload_n 0, 1) := by decide +kernel
theorem dX5_doubts_28 : decode cX5_doubts 28 = .ok (.getfield 68, 3) := by decide +kernel
theorem dX5_doubts_31 : decode cX5_doubts 31 = .ok (.iload 6, 2) := by decide +kernel
theorem dX5_doubts_33 : decode cX5_doubts 33 = .ok (.iaload, 1) := by decide +kernel
theorem dX5_doubts_34 : decode cX5_doubts 34 = .ok (.iload_n 3, 1) := by decide +kernel
theorem dX5_doubts_35 : decode cX5_doubts 35 = .ok (.if_icmp .gt 56, 3) := by decide +kernel
theorem dX5_doubts_38 : decode cX5_doubts 38 = .ok (.aload_n 0, 1) := by decide +kernel
theorem dX5_doubts_39 : decode cX5_doubts 39 = .ok (.getfield 71, 3) := by decide +kernel
theorem dX5_doubts_42 : decode cX5_doubts 42 = .ok (.iload 6, 2) := by decide +kernel
theorem dX5_doubts_44 : decode cX5_doubts 44 = .ok (.iaload, 1) := by decide +kernel
theorem dX5_doubts_45 : decode cX5_doubts 45 = .ok (.iload_n 2, 1) := by decide +kernel
theorem dX5_doubts_46 : decode cX5_doubts 46 = .ok (.if_icmp .lt 45, 3) := by decide +kernel
theorem dX5_doubts_49 : decode cX5_doubts 49 = .ok (.iinc 5 1, 3) := by decide +kernel
theorem dX5_doubts_52 : decode cX5_doubts 52 = .ok (.aload_n 0, 1) := by decide +kernel
theorem dX5_doubts_53 : decode cX5_doubts 53 = .ok (.getfield 83, 3) := by decide +kernel
theorem dX5_doubts_56 : decode cX5_doubts 56 = .ok (.iload 6, 2) := by decide +kernel
theorem dX5_doubts_58 : decode cX5_doubts 58 = .ok (.aload_n 0, 1) := by decide +kernel
theorem dX5_doubts_59 : decode cX5_doubts 59 = .ok (.getfield 83, 3) := by decide +kernel
theorem dX5_doubts_62 : decode cX5_doubts 62 = .ok (.iload 6, 2) := by decide +kernel
theorem dX5_doubts_64 : decode cX5_doubts 64 = .ok (.baload, 1) := by decide +kernel
theorem dX5_doubts_65 : decode cX5_doubts 65 = .ok (.ifCond .ne 20, 3) := by decide +kernel
theorem dX5_doubts_68 : decode cX5_doubts 68 = .ok (.iload 4, 2) := by decide +kernel
theorem dX5_doubts_70 : decode cX5_doubts 70 = .ok (.ifCond .eq 19, 3) := by decide +kernel
theorem dX5_doubts_73 : decode cX5_doubts 73 = .ok (.aload_n 0, 1) := by decide +kernel
theorem dX5_doubts_74 : decode cX5_doubts 74 = .ok (.getfield 80, 3) := by decide +kernel
theorem dX5_doubts_77 : decode cX5_doubts 77 = .ok (.iload 6, 2) := by decide +kernel
theorem dX5_doubts_79 : decode cX5_doubts 79 = .ok (.iaload, 1) := by decide +kernel
theorem dX5_doubts_80 : decode cX5_doubts 80 = .ok (.bipush (-9), 2) := by decide +kernel
theorem dX5_doubts_82 : decode cX5_doubts 82 = .ok (.if_icmp .ne 7, 3) := by decide +kernel
theorem dX5_doubts_85 : decode cX5_doubts 85 = .ok (.iconst 1, 1) := by decide +kernel
theorem dX5_doubts_86 : decode cX5_doubts 86 = .ok (.goto 4, 3) := by decide +kernel
theorem dX5_doubts_89 : decode cX5_doubts 89 = .ok (.iconst 0, 1) := by decide +kernel
theorem dX5_doubts_90 : decode cX5_doubts 90 = .ok (.bastore, 1) := by decide +kernel
theorem dX5_doubts_91 : decode cX5_doubts 91 = .ok (.iinc 6 1, 3) := by decide +kernel
theorem dX5_doubts_94 : decode cX5_doubts 94 = .ok (.goto (-88), 3) := by decide +kernel
theorem dX5_doubts_97 : decode cX5_doubts 97 = .ok (.iload 5, 2) := by decide +kernel
theorem dX5_doubts_99 : decode cX5_doubts 99 = .ok (.ireturn, 1) := by decide +kernel
theorem dX5_doubt_0 : decode cX5_doubt 0 = .ok (.iload_n 1, 1) := by decide +kernel
theorem dX5_doubt_1 : decode cX5_doubt 1 = .ok (.iconst 0, 1) := by decide +kernel
theorem dX5_doubt_2 : decode cX5_doubt 2 = .ok (.iconst 3, 1) := by decide +kernel
theorem dX5_doubt_3 : decode cX5_doubt 3 = .ok (.invokestatic 102, 3) := by decide +kernel
theorem dX5_doubt_6 : decode cX5_doubt 6 = .ok (.ifCond .eq 19, 3) := by decide +kernel
theorem dX5_doubt_9 : decode cX5_doubt 9 = .ok (.aload_n 0, 1) := by decide +kernel
theorem dX5_doubt_10 : decode cX5_doubt 10 = .ok (.iconst 1, 1) := by decide +kernel
theorem dX5_doubt_11 : decode cX5_doubt 11 = .ok (.iload_n 1, 1) := by decide +kernel
theorem dX5_doubt_12 : decode cX5_doubt 12 = .ok (.ishl, 1) := by decide +kernel
theorem dX5_doubt_13 : decode cX5_doubt 13 = .ok (.iconst 0, 1) := by decide +kernel
theorem dX5_doubt_14 : decode cX5_doubt 14 = .ok (.aload_n 0, 1) := by decide +kernel
theorem dX5_doubt_15 : decode cX5_doubt 15 = .ok (.getfield 98, 3) := by decide +kernel
theorem dX5_doubt_18 : decode cX5_doubt 18 = .ok (.iload_n 2, 1) := by decide +kernel
theorem dX5_doubt_19 : decode cX5_doubt 19 = .ok (.invokevirtual 188, 3) := by decide +kernel
theorem dX5_doubt_22 : decode cX5_doubt 22 = .ok (.goto 4, 3) := by decide +kernel
theorem dX5_doubt_25 : decode cX5_doubt 25 = .ok (.iconst (-1), 1) := by decide +kernel
theorem dX5_doubt_26 : decode cX5_doubt 26 = .ok (.ireturn, 1) := by decide +kernel
theorem dX5_hours_0 : decode cX5_hours 0 = .ok (.iload_n 1, 1) := by decide +kernel
theorem dX5_hours_1 : decode cX5_hours 1 = .ok (.ifCond .lt 8, 3) := by decide +kernel
theorem dX5_hours_4 : decode cX5_hours 4 = .ok (.iload_n 2, 1) := by decide +kernel
theorem dX5_hours_5 : decode cX5_hours 5 = .ok (.iload_n 1, 1) := by decide +kernel
theorem dX5_hours_6 : decode cX5_hours 6 = .ok (.if_icmp .ge 7, 3) := by decide +kernel
theorem dX5_hours_9 : decode cX5_hours 9 = .ok (.iconst (-1), 1) := by decide +kernel
theorem dX5_hours_10 : decode cX5_hours 10 = .ok (.goto 12, 3) := by decide +kernel
theorem dX5_hours_13 : decode cX5_hours 13 = .ok (.aload_n 0, 1) := by decide +kernel
theorem dX5_hours_14 : decode cX5_hours 14 = .ok (.bipush 15, 2) := by decide +kernel
theorem dX5_hours_16 : decode cX5_hours 16 = .ok (.iload_n 1, 1) := by decide +kernel
theorem dX5_hours_17 : decode cX5_hours 17 = .ok (.iload_n 2, 1) := by decide +kernel
theorem dX5_hours_18 : decode cX5_hours 18 = .ok (.iload_n 3, 1) := by decide +kernel
theorem dX5_hours_19 : decode cX5_hours 19 = .ok (.invokevirtual 188, 3) := by decide +kernel
theorem dX5_hours_22 : decode cX5_hours 22 = .ok (.ireturn, 1) := by decide +kernel
theorem dX5_clear_0 : decode cX5_clear 0 = .ok (.aload_n 0, 1) := by decide +kernel
theorem dX5_clear_1 : decode cX5_clear 1 = .ok (.iload_n 1, 1) := by decide +kernel
theorem dX5_clear_2 : decode cX5_clear 2 = .ok (.invokevirtual 166, 3) := by decide +kernel
theorem dX5_clear_5 : decode cX5_clear 5 = .ok (.ifCond .ne 5, 3) := by decide +kernel
theorem dX5_clear_8 : decode cX5_clear 8 = .ok (.iconst (-1), 1) := by decide +kernel
theorem dX5_clear_9 : decode cX5_clear 9 = .ok (.ireturn, 1) := by decide +kernel
theorem dX5_clear_10 : decode cX5_clear 10 = .ok (.aload_n 0, 1) := by decide +kernel
theorem dX5_clear_11 : decode cX5_clear 11 = .ok (.getfield 83, 3) := by decide +kernel
theorem dX5_clear_14 : decode cX5_clear 14 = .ok (.iload_n 1, 1) := by decide +kernel
theorem dX5_clear_15 : decode cX5_clear 15 = .ok (.baload, 1) := by decide +kernel
theorem dX5_clear_16 : decode cX5_clear 16 = .ok (.ifCond .ne 6, 3) := by decide +kernel
theorem dX5_clear_19 : decode cX5_clear 19 = .ok (.bipush (-2), 2) := by decide +kernel
theorem dX5_clear_21 : decode cX5_clear 21 = .ok (.ireturn, 1) := by decide +kernel
theorem dX5_clear_22 : decode cX5_clear 22 = .ok (.aload_n 0, 1) := by decide +kernel
theorem dX5_clear_23 : decode cX5_clear 23 = .ok (.getfield 83, 3) := by decide +kernel
theorem dX5_clear_26 : decode cX5_clear 26 = .ok (.iload_n 1, 1) := by decide +kernel
theorem dX5_clear_27 : decode cX5_clear 27 = .ok (.iconst 0, 1) := by decide +kernel
theorem dX5_clear_28 : decode cX5_clear 28 = .ok (.bastore, 1) := by decide +kernel
theorem dX5_clear_29 : decode cX5_clear 29 = .ok (.iconst 1, 1) := by decide +kernel
theorem dX5_clear_30 : decode cX5_clear 30 = .ok (.ireturn, 1) := by decide +kernel
theorem dX5_told_0 : decode cX5_told 0 = .ok (.iconst 0, 1) := by decide +kernel
theorem dX5_told_1 : decode cX5_told 1 = .ok (.istore_n 2, 1) := by decide +kernel
theorem dX5_told_2 : decode cX5_told 2 = .ok (.iload_n 1, 1) := by decide +kernel
theorem dX5_told_3 : decode cX5_told 3 = .ok (.tableswitch 129 0 5 #[37, 42, 47, 84, 119, 124], 37) := by decide +kernel
theorem dX5_told_40 : decode cX5_told 40 = .ok (.aload_n 0, 1) := by decide +kernel
theorem dX5_told_41 : decode cX5_told 41 = .ok (.getfield 135, 3) := by decide +kernel
theorem dX5_told_44 : decode cX5_told 44 = .ok (.ireturn, 1) := by decide +kernel
theorem dX5_told_45 : decode cX5_told 45 = .ok (.aload_n 0, 1) := by decide +kernel
theorem dX5_told_46 : decode cX5_told 46 = .ok (.getfield 175, 3) := by decide +kernel
theorem dX5_told_49 : decode cX5_told 49 = .ok (.ireturn, 1) := by decide +kernel
theorem dX5_told_50 : decode cX5_told 50 = .ok (.iconst 0, 1) := by decide +kernel
theorem dX5_told_51 : decode cX5_told 51 = .ok (.istore_n 3, 1) := by decide +kernel
theorem dX5_told_52 : decode cX5_told 52 = .ok (.iload_n 3, 1) := by decide +kernel
theorem dX5_told_53 : decode cX5_told 53 = .ok (.aload_n 0, 1) := by decide +kernel
theorem dX5_told_54 : decode cX5_told 54 = .ok (.getfield 135, 3) := by decide +kernel
theorem dX5_told_57 : decode cX5_told 57 = .ok (.if_icmp .ge 28, 3) := by decide +kernel
theorem dX5_told_60 : decode cX5_told 60 = .ok (.iload_n 2, 1) := by decide +kernel
theorem dX5_told_61 : decode cX5_told 61 = .ok (.aload_n 0, 1) := by decide +kernel
theorem dX5_told_62 : decode cX5_told 62 = .ok (.getfield 80, 3) := by decide +kernel
theorem dX5_told_65 : decode cX5_told 65 = .ok (.iload_n 3, 1) := by decide +kernel
theorem dX5_told_66 : decode cX5_told 66 = .ok (.iaload, 1) := by decide +kernel
theorem dX5_told_67 : decode cX5_told 67 = .ok (.bipush (-9), 2) := by decide +kernel
theorem dX5_told_69 : decode cX5_told 69 = .ok (.if_icmp .ne 7, 3) := by decide +kernel
theorem dX5_told_72 : decode cX5_told 72 = .ok (.iconst 0, 1) := by decide +kernel
theorem dX5_told_73 : decode cX5_told 73 = .ok (.goto 4, 3) := by decide +kernel
theorem dX5_told_76 : decode cX5_told 76 = .ok (.iconst 1, 1) := by decide +kernel
theorem dX5_told_77 : decode cX5_told 77 = .ok (.iadd, 1) := by decide +kernel
theorem dX5_told_78 : decode cX5_told 78 = .ok (.istore_n 2, 1) := by decide +kernel
theorem dX5_told_79 : decode cX5_told 79 = .ok (.iinc 3 1, 3) := by decide +kernel
theorem dX5_told_82 : decode cX5_told 82 = .ok (.goto (-30), 3) := by decide +kernel
theorem dX5_told_85 : decode cX5_told 85 = .ok (.iload_n 2, 1) := by decide +kernel
theorem dX5_told_86 : decode cX5_told 86 = .ok (.ireturn, 1) := by decide +kernel
theorem dX5_told_87 : decode cX5_told 87 = .ok (.iconst 0, 1) := by decide +kernel
theorem dX5_told_88 : decode cX5_told 88 = .ok (.istore_n 3, 1) := by decide +kernel
theorem dX5_told_89 : decode cX5_told 89 = .ok (.iload_n 3, 1) := by decide +kernel
theorem dX5_told_90 : decode cX5_told 90 = .ok (.aload_n 0, 1) := by decide +kernel
theorem dX5_told_91 : decode cX5_told 91 = .ok (.getfield 135, 3) := by decide +kernel
theorem dX5_told_94 : decode cX5_told 94 = .ok (.if_icmp .ge 26, 3) := by decide +kernel
theorem dX5_told_97 : decode cX5_told 97 = .ok (.iload_n 2, 1) := by decide +kernel
theorem dX5_told_98 : decode cX5_told 98 = .ok (.aload_n 0, 1) := by decide +kernel
theorem dX5_told_99 : decode cX5_told 99 = .ok (.getfield 83, 3) := by decide +kernel
theorem dX5_told_102 : decode cX5_told 102 = .ok (.iload_n 3, 1) := by decide +kernel
theorem dX5_told_103 : decode cX5_told 103 = .ok (.baload, 1) := by decide +kernel
theorem dX5_told_104 : decode cX5_told 104 = .ok (.ifCond .eq 7, 3) := by decide +kernel
theorem dX5_told_107 : decode cX5_told 107 = .ok (.iconst 1, 1) := by decide +kernel
theorem dX5_told_108 : decode cX5_told 108 = .ok (.goto 4, 3) := by decide +kernel
theorem dX5_told_111 : decode cX5_told 111 = .ok (.iconst 0, 1) := by decide +kernel
theorem dX5_told_112 : decode cX5_told 112 = .ok (.iadd, 1) := by decide +kernel
theorem dX5_told_113 : decode cX5_told 113 = .ok (.istore_n 2, 1) := by decide +kernel
theorem dX5_told_114 : decode cX5_told 114 = .ok (.iinc 3 1, 3) := by decide +kernel
theorem dX5_told_117 : decode cX5_told 117 = .ok (.goto (-28), 3) := by decide +kernel
theorem dX5_told_120 : decode cX5_told 120 = .ok (.iload_n 2, 1) := by decide +kernel
theorem dX5_told_121 : decode cX5_told 121 = .ok (.ireturn, 1) := by decide +kernel
theorem dX5_told_122 : decode cX5_told 122 = .ok (.aload_n 0, 1) := by decide +kernel
theorem dX5_told_123 : decode cX5_told 123 = .ok (.getfield 98, 3) := by decide +kernel
theorem dX5_told_126 : decode cX5_told 126 = .ok (.ireturn, 1) := by decide +kernel
theorem dX5_told_127 : decode cX5_told 127 = .ok (.aload_n 0, 1) := by decide +kernel
theorem dX5_told_128 : decode cX5_told 128 = .ok (.getfield 144, 3) := by decide +kernel
theorem dX5_told_131 : decode cX5_told 131 = .ok (.ireturn, 1) := by decide +kernel
theorem dX5_told_132 : decode cX5_told 132 = .ok (.sipush (-1000), 3) := by decide +kernel
theorem dX5_told_135 : decode cX5_told 135 = .ok (.ireturn, 1) := by decide +kernel
theorem dX5_trace_0 : decode cX5_trace 0 = .ok (.aload_n 0, 1) := by decide +kernel
theorem dX5_trace_1 : decode cX5_trace 1 = .ok (.getfield 112, 3) := by decide +kernel
theorem dX5_trace_4 : decode cX5_trace 4 = .ok (.lreturn, 1) := by decide +kernel
end
section
/-! words of EggHouseModel in the tables -/
theorem ini5 : Cond.initialized RX5 ∈ gtbl := gtbl_in (by decide +kernel) rfl
theorem fl5_7 : Cond.fieldLink RX5 7 "EggHouseModel" "barn" "[I" ∈ gtbl := gtbl_in (by decide +kernel) rfl
theorem fl5_13 : Cond.fieldLink RX5 13 "EggHouseModel" "weight" "[I" ∈ gtbl := gtbl_in (by decide +kernel) rfl
theorem fl5_16 : Cond.fieldLink RX5 16 "EggHouseModel" "taps" "[I" ∈ gtbl := gtbl_in (by decide +kernel) rfl
theorem fl5_19 : Cond.fieldLink RX5 19 "EggHouseModel" "blood" "[I" ∈ gtbl := gtbl_in (by decide +kernel) rfl
theorem fl5_22 : Cond.fieldLink RX5 22 "EggHouseModel" "dirt" "[I" ∈ gtbl := gtbl_in (by decide +kernel) rfl
theorem fl5_25 : Cond.fieldLink RX5 25 "EggHouseModel" "told" "[I" ∈ gtbl := gtbl_in (by decide +kernel) rfl
theorem fl5_28 : Cond.fieldLink RX5 28 "EggHouseModel" "weighed" "[I" ∈ gtbl := gtbl_in (by decide +kernel) rfl
theorem fl5_31 : Cond.fieldLink RX5 31 "EggHouseModel" "queue" "[I" ∈ gtbl := gtbl_in (by decide +kernel) rfl
theorem fl5_34 : Cond.fieldLink RX5 34 "EggHouseModel" "line" "[I" ∈ gtbl := gtbl_in (by decide +kernel) rfl
theorem fl5_37 : Cond.fieldLink RX5 37 "EggHouseModel" "wash" "[I" ∈ gtbl := gtbl_in (by decide +kernel) rfl
theorem fl5_40 : Cond.fieldLink RX5 40 "EggHouseModel" "comesIn" "[I" ∈ gtbl := gtbl_in (by decide +kernel) rfl
theorem fl5_43 : Cond.fieldLink RX5 43 "EggHouseModel" "ofBarn" "[I" ∈ gtbl := gtbl_in (by decide +kernel) rfl
theorem fl5_46 : Cond.fieldLink RX5 46 "EggHouseModel" "gradeOf" "[I" ∈ gtbl := gtbl_in (by decide +kernel) rfl
theorem fl5_49 : Cond.fieldLink RX5 49 "EggHouseModel" "isOff" "[Z" ∈ gtbl := gtbl_in (by decide +kernel) rfl
theorem fl5_53 : Cond.fieldLink RX5 53 "EggHouseModel" "busy" "[I" ∈ gtbl := gtbl_in (by decide +kernel) rfl
theorem fl5_56 : Cond.fieldLink RX5 56 "EggHouseModel" "trayed" "[I" ∈ gtbl := gtbl_in (by decide +kernel) rfl
theorem fl5_59 : Cond.fieldLink RX5 59 "EggHouseModel" "tray" "[I" ∈ gtbl := gtbl_in (by decide +kernel) rfl
theorem fl5_62 : Cond.fieldLink RX5 62 "EggHouseModel" "packGrade" "[I" ∈ gtbl := gtbl_in (by decide +kernel) rfl
theorem fl5_65 : Cond.fieldLink RX5 65 "EggHouseModel" "packBarns" "[I" ∈ gtbl := gtbl_in (by decide +kernel) rfl
theorem fl5_68 : Cond.fieldLink RX5 68 "EggHouseModel" "packFirst" "[I" ∈ gtbl := gtbl_in (by decide +kernel) rfl
theorem fl5_71 : Cond.fieldLink RX5 71 "EggHouseModel" "packLast" "[I" ∈ gtbl := gtbl_in (by decide +kernel) rfl
theorem fl5_74 : Cond.fieldLink RX5 74 "EggHouseModel" "packWeight" "[I" ∈ gtbl := gtbl_in (by decide +kernel) rfl
theorem fl5_77 : Cond.fieldLink RX5 77 "EggHouseModel" "packTold" "[I" ∈ gtbl := gtbl_in (by decide +kernel) rfl
theorem fl5_80 : Cond.fieldLink RX5 80 "EggHouseModel" "soldTo" "[I" ∈ gtbl := gtbl_in (by decide +kernel) rfl
theorem fl5_83 : Cond.fieldLink RX5 83 "EggHouseModel" "isHeld" "[Z" ∈ gtbl := gtbl_in (by decide +kernel) rfl
theorem fl5_86 : Cond.fieldLink RX5 86 "EggHouseModel" "orderGrade" "[I" ∈ gtbl := gtbl_in (by decide +kernel) rfl
theorem fl5_89 : Cond.fieldLink RX5 89 "EggHouseModel" "orderMany" "[I" ∈ gtbl := gtbl_in (by decide +kernel) rfl
theorem fl5_92 : Cond.fieldLink RX5 92 "EggHouseModel" "orderWorth" "[I" ∈ gtbl := gtbl_in (by decide +kernel) rfl
theorem fl5_95 : Cond.fieldLink RX5 95 "EggHouseModel" "isServed" "[Z" ∈ gtbl := gtbl_in (by decide +kernel) rfl
theorem fl5_98 : Cond.fieldLink RX5 98 "EggHouseModel" "now" "I" ∈ gtbl := gtbl_in (by decide +kernel) rfl
theorem fl5_106 : Cond.fieldLink RX5 106 "EggHouseModel" "queued" "I" ∈ gtbl := gtbl_in (by decide +kernel) rfl
theorem fl5_109 : Cond.fieldLink RX5 109 "EggHouseModel" "eggs" "I" ∈ gtbl := gtbl_in (by decide +kernel) rfl
theorem fl5_112 : Cond.fieldLink RX5 112 "EggHouseModel" "trace" "J" ∈ gtbl := gtbl_in (by decide +kernel) rfl
theorem fl5_129 : Cond.fieldLink RX5 129 "EggHouseModel" "washing" "I" ∈ gtbl := gtbl_in (by decide +kernel) rfl
theorem fl5_132 : Cond.fieldLink RX5 132 "EggHouseModel" "washed" "I" ∈ gtbl := gtbl_in (by decide +kernel) rfl
theorem fl5_135 : Cond.fieldLink RX5 135 "EggHouseModel" "packs" "I" ∈ gtbl := gtbl_in (by decide +kernel) rfl
theorem fl5_144 : Cond.fieldLink RX5 144 "EggHouseModel" "drift" "I" ∈ gtbl := gtbl_in (by decide +kernel) rfl
theorem fl5_175 : Cond.fieldLink RX5 175 "EggHouseModel" "orders" "I" ∈ gtbl := gtbl_in (by decide +kernel) rfl
theorem ml5_102 : Cond.methodLink RX5 102 yX5_in ∈ gtbl := gtbl_in (by decide +kernel) rfl
theorem ml5_118 : Cond.methodLink RX5 118 yX5_dull ∈ gtbl := gtbl_in (by decide +kernel) rfl
theorem ml5_126 : Cond.methodLink RX5 126 yX5_whereTo ∈ gtbl := gtbl_in (by decide +kernel) rfl
theorem ml5_138 : Cond.methodLink RX5 138 yX5_gradeBy ∈ gtbl := gtbl_in (by decide +kernel) rfl
theorem ml5_141 : Cond.methodLink RX5 141 yX5_packs ∈ gtbl := gtbl_in (by decide +kernel) rfl
theorem ml5_147 : Cond.methodLink RX5 147 yX5_looks ∈ gtbl := gtbl_in (by decide +kernel) rfl
theorem ml5_150 : Cond.methodLink RX5 150 yX5_takes ∈ gtbl := gtbl_in (by decide +kernel) rfl
theorem ml5_153 : Cond.methodLink RX5 153 yX5_dries ∈ gtbl := gtbl_in (by decide +kernel) rfl
theorem ml5_156 : Cond.methodLink RX5 156 yX5_oneTick ∈ gtbl := gtbl_in (by decide +kernel) rfl
theorem ml5_159 : Cond.methodLink RX5 159 yX5_isPacker ∈ gtbl := gtbl_in (by decide +kernel) rfl
theorem ml5_163 : Cond.methodLink RX5 163 yX5_allBarns ∈ gtbl := gtbl_in (by decide +kernel) rfl
theorem ml5_166 : Cond.methodLink RX5 166 yX5_isPack ∈ gtbl := gtbl_in (by decide +kernel) rfl
theorem ml5_169 : Cond.methodLink RX5 169 yX5_isFree ∈ gtbl := gtbl_in (by decide +kernel) rfl
theorem ml5_172 : Cond.methodLink RX5 172 yX5_freeOf ∈ gtbl := gtbl_in (by decide +kernel) rfl
theorem ml5_178 : Cond.methodLink RX5 178 yX5_canServe ∈ gtbl := gtbl_in (by decide +kernel) rfl
theorem ml5_181 : Cond.methodLink RX5 181 yX5_worthOf ∈ gtbl := gtbl_in (by decide +kernel) rfl
theorem ml5_184 : Cond.methodLink RX5 184 yX5_bestSet ∈ gtbl := gtbl_in (by decide +kernel) rfl
theorem ml5_188 : Cond.methodLink RX5 188 yX5_doubts ∈ gtbl := gtbl_in (by decide +kernel) rfl
theorem cl5_116 : Cond.constantLong RX5 116 (1000) ∈ gtbl := gtbl_in (by decide +kernel) rfl
theorem cl5_122 : Cond.constantLong RX5 122 (100) ∈ gtbl := gtbl_in (by decide +kernel) rfl
theorem cl5_124 : Cond.constantLong RX5 124 (10) ∈ gtbl := gtbl_in (by decide +kernel) rfl
theorem co5_in : Cond.code yX5_in cX5_in 3 (some .boolean) ∈ gtbl := gtbl_in (by decide +kernel) rfl
theorem st5_in : Cond.static yX5_in ∈ gtbl := gtbl_in (by decide +kernel) rfl
theorem rm5_in {R : Room} {k n fr lo mc ms : Nat} (h1 : fr + 1 ≤ R.frames) (h2 : 8 + (3 + 11) + lo ≤ R.locals) (h3 : k + mc ≤ R.cells) (h4 : n + ms ≤ R.slots) : Rm R k n yX5_in cX5_in 3 (some .boolean) fr lo mc ms 3 := ⟨⟨h1, h2⟩, ⟨h3, h4⟩, co5_in, ini5, by decide +kernel⟩
theorem co5_egg : Cond.code yX5_egg cX5_egg 6 (some .int) ∈ gtbl := gtbl_in (by decide +kernel) rfl
theorem im5_egg : Cond.instanceMethod yX5_egg ∈ gtbl := gtbl_in (by decide +kernel) rfl
theorem se5_egg : Cond.selects RX5 yX5_egg yX5_egg ∈ gtbl := gtbl_in (by decide +kernel) rfl
theorem rm5_egg {R : Room} {k n fr lo mc ms : Nat} (h1 : fr + 1 ≤ R.frames) (h2 : 8 + (6 + 11) + lo ≤ R.locals) (h3 : k + mc ≤ R.cells) (h4 : n + ms ≤ R.slots) : Rm R k n yX5_egg cX5_egg 6 (some .int) fr lo mc ms 5 := ⟨⟨h1, h2⟩, ⟨h3, h4⟩, co5_egg, ini5, by decide +kernel⟩
theorem co5_gradeBy : Cond.code yX5_gradeBy cX5_gradeBy 1 (some .int) ∈ gtbl := gtbl_in (by decide +kernel) rfl
theorem st5_gradeBy : Cond.static yX5_gradeBy ∈ gtbl := gtbl_in (by decide +kernel) rfl
theorem rm5_gradeBy {R : Room} {k n fr lo mc ms : Nat} (h1 : fr + 1 ≤ R.frames) (h2 : 8 + (1 + 11) + lo ≤ R.locals) (h3 : k + mc ≤ R.cells) (h4 : n + ms ≤ R.slots) : Rm R k n yX5_gradeBy cX5_gradeBy 1 (some .int) fr lo mc ms 1 := ⟨⟨h1, h2⟩, ⟨h3, h4⟩, co5_gradeBy, ini5, by decide +kernel⟩
theorem co5_dull : Cond.code yX5_dull cX5_dull 1 (some .int) ∈ gtbl := gtbl_in (by decide +kernel) rfl
theorem st5_dull : Cond.static yX5_dull ∈ gtbl := gtbl_in (by decide +kernel) rfl
theorem rm5_dull {R : Room} {k n fr lo mc ms : Nat} (h1 : fr + 1 ≤ R.frames) (h2 : 8 + (1 + 11) + lo ≤ R.locals) (h3 : k + mc ≤ R.cells) (h4 : n + ms ≤ R.slots) : Rm R k n yX5_dull cX5_dull 1 (some .int) fr lo mc ms 1 := ⟨⟨h1, h2⟩, ⟨h3, h4⟩, co5_dull, ini5, by decide +kernel⟩
theorem co5_whereTo : Cond.code yX5_whereTo cX5_whereTo 2 (some .int) ∈ gtbl := gtbl_in (by decide +kernel) rfl
theorem im5_whereTo : Cond.instanceMethod yX5_whereTo ∈ gtbl := gtbl_in (by decide +kernel) rfl
theorem se5_whereTo : Cond.selects RX5 yX5_whereTo yX5_whereTo ∈ gtbl := gtbl_in (by decide +kernel) rfl
theorem rm5_whereTo {R : Room} {k n fr lo mc ms : Nat} (h1 : fr + 1 ≤ R.frames) (h2 : 8 + (2 + 11) + lo ≤ R.locals) (h3 : k + mc ≤ R.cells) (h4 : n + ms ≤ R.slots) : Rm R k n yX5_whereTo cX5_whereTo 2 (some .int) fr lo mc ms 1 := ⟨⟨h1, h2⟩, ⟨h3, h4⟩, co5_whereTo, ini5, by decide +kernel⟩
theorem co5_looks : Cond.code yX5_looks cX5_looks 3 none ∈ gtbl := gtbl_in (by decide +kernel) rfl
theorem im5_looks : Cond.instanceMethod yX5_looks ∈ gtbl := gtbl_in (by decide +kernel) rfl
theorem se5_looks : Cond.selects RX5 yX5_looks yX5_looks ∈ gtbl := gtbl_in (by decide +kernel) rfl
theorem rm5_looks {R : Room} {k n fr lo mc ms : Nat} (h1 : fr + 1 ≤ R.frames) (h2 : 8 + (3 + 11) + lo ≤ R.locals) (h3 : k + mc ≤ R.cells) (h4 : n + ms ≤ R.slots) : Rm R k n yX5_looks cX5_looks 3 none fr lo mc ms 0 := ⟨⟨h1, h2⟩, ⟨h3, h4⟩, co5_looks, ini5, by decide +kernel⟩
theorem co5_packs : Cond.code yX5_packs cX5_packs 5 none ∈ gtbl := gtbl_in (by decide +kernel) rfl
theorem im5_packs : Cond.instanceMethod yX5_packs ∈ gtbl := gtbl_in (by decide +kernel) rfl
theorem se5_packs : Cond.selects RX5 yX5_packs yX5_packs ∈ gtbl := gtbl_in (by decide +kernel) rfl
theorem rm5_packs {R : Room} {k n fr lo mc ms : Nat} (h1 : fr + 1 ≤ R.frames) (h2 : 8 + (5 + 11) + lo ≤ R.locals) (h3 : k + mc ≤ R.cells) (h4 : n + ms ≤ R.slots) : Rm R k n yX5_packs cX5_packs 5 none fr lo mc ms 1 := ⟨⟨h1, h2⟩, ⟨h3, h4⟩, co5_packs, ini5, by decide +kernel⟩
theorem co5_takes : Cond.code yX5_takes cX5_takes 4 none ∈ gtbl := gtbl_in (by decide +kernel) rfl
theorem im5_takes : Cond.instanceMethod yX5_takes ∈ gtbl := gtbl_in (by decide +kernel) rfl
theorem se5_takes : Cond.selects RX5 yX5_takes yX5_takes ∈ gtbl := gtbl_in (by decide +kernel) rfl
theorem rm5_takes {R : Room} {k n fr lo mc ms : Nat} (h1 : fr + 1 ≤ R.frames) (h2 : 8 + (4 + 11) + lo ≤ R.locals) (h3 : k + mc ≤ R.cells) (h4 : n + ms ≤ R.slots) : Rm R k n yX5_takes cX5_takes 4 none fr lo mc ms 1 := ⟨⟨h1, h2⟩, ⟨h3, h4⟩, co5_takes, ini5, by decide +kernel⟩
theorem co5_dries : Cond.code yX5_dries cX5_dries 2 none ∈ gtbl := gtbl_in (by decide +kernel) rfl
theorem im5_dries : Cond.instanceMethod yX5_dries ∈ gtbl := gtbl_in (by decide +kernel) rfl
theorem se5_dries : Cond.selects RX5 yX5_dries yX5_dries ∈ gtbl := gtbl_in (by decide +kernel) rfl
theorem rm5_dries {R : Room} {k n fr lo mc ms : Nat} (h1 : fr + 1 ≤ R.frames) (h2 : 8 + (2 + 11) + lo ≤ R.locals) (h3 : k + mc ≤ R.cells) (h4 : n + ms ≤ R.slots) : Rm R k n yX5_dries cX5_dries 2 none fr lo mc ms 0 := ⟨⟨h1, h2⟩, ⟨h3, h4⟩, co5_dries, ini5, by decide +kernel⟩
theorem co5_oneTick : Cond.code yX5_oneTick cX5_oneTick 4 none ∈ gtbl := gtbl_in (by decide +kernel) rfl
theorem im5_oneTick : Cond.instanceMethod yX5_oneTick ∈ gtbl := gtbl_in (by decide +kernel) rfl
theorem se5_oneTick : Cond.selects RX5 yX5_oneTick yX5_oneTick ∈ gtbl := gtbl_in (by decide +kernel) rfl
theorem rm5_oneTick {R : Room} {k n fr lo mc ms : Nat} (h1 : fr + 1 ≤ R.frames) (h2 : 8 + (4 + 11) + lo ≤ R.locals) (h3 : k + mc ≤ R.cells) (h4 : n + ms ≤ R.slots) : Rm R k n yX5_oneTick cX5_oneTick 4 none fr lo mc ms 0 := ⟨⟨h1, h2⟩, ⟨h3, h4⟩, co5_oneTick, ini5, by decide +kernel⟩
theorem co5_tick : Cond.code yX5_tick cX5_tick 3 (some .int) ∈ gtbl := gtbl_in (by decide +kernel) rfl
theorem im5_tick : Cond.instanceMethod yX5_tick ∈ gtbl := gtbl_in (by decide +kernel) rfl
theorem se5_tick : Cond.selects RX5 yX5_tick yX5_tick ∈ gtbl := gtbl_in (by decide +kernel) rfl
theorem rm5_tick {R : Room} {k n fr lo mc ms : Nat} (h1 : fr + 1 ≤ R.frames) (h2 : 8 + (3 + 11) + lo ≤ R.locals) (h3 : k + mc ≤ R.cells) (h4 : n + ms ≤ R.slots) : Rm R k n yX5_tick cX5_tick 3 (some .int) fr lo mc ms 1 := ⟨⟨h1, h2⟩, ⟨h3, h4⟩, co5_tick, ini5, by decide +kernel⟩
theorem co5_drift : Cond.code yX5_drift cX5_drift 3 (some .int) ∈ gtbl := gtbl_in (by decide +kernel) rfl
theorem im5_drift : Cond.instanceMethod yX5_drift ∈ gtbl := gtbl_in (by decide +kernel) rfl
theorem se5_drift : Cond.selects RX5 yX5_drift yX5_drift ∈ gtbl := gtbl_in (by decide +kernel) rfl
theorem rm5_drift {R : Room} {k n fr lo mc ms : Nat} (h1 : fr + 1 ≤ R.frames) (h2 : 8 + (3 + 11) + lo ≤ R.locals) (h3 : k + mc ≤ R.cells) (h4 : n + ms ≤ R.slots) : Rm R k n yX5_drift cX5_drift 3 (some .int) fr lo mc ms 1 := ⟨⟨h1, h2⟩, ⟨h3, h4⟩, co5_drift, ini5, by decide +kernel⟩
theorem co5_isPacker : Cond.code yX5_isPacker cX5_isPacker 1 (some .boolean) ∈ gtbl := gtbl_in (by decide +kernel) rfl
theorem st5_isPacker : Cond.static yX5_isPacker ∈ gtbl := gtbl_in (by decide +kernel) rfl
theorem rm5_isPacker {R : Room} {k n fr lo mc ms : Nat} (h1 : fr + 1 ≤ R.frames) (h2 : 8 + (1 + 11) + lo ≤ R.locals) (h3 : k + mc ≤ R.cells) (h4 : n + ms ≤ R.slots) : Rm R k n yX5_isPacker cX5_isPacker 1 (some .boolean) fr lo mc ms 1 := ⟨⟨h1, h2⟩, ⟨h3, h4⟩, co5_isPacker, ini5, by decide +kernel⟩
theorem co5_grade : Cond.code yX5_grade cX5_grade 4 (some .int) ∈ gtbl := gtbl_in (by decide +kernel) rfl
theorem im5_grade : Cond.instanceMethod yX5_grade ∈ gtbl := gtbl_in (by decide +kernel) rfl
theorem se5_grade : Cond.selects RX5 yX5_grade yX5_grade ∈ gtbl := gtbl_in (by decide +kernel) rfl
theorem rm5_grade {R : Room} {k n fr lo mc ms : Nat} (h1 : fr + 1 ≤ R.frames) (h2 : 8 + (4 + 11) + lo ≤ R.locals) (h3 : k + mc ≤ R.cells) (h4 : n + ms ≤ R.slots) : Rm R k n yX5_grade cX5_grade 4 (some .int) fr lo mc ms 2 := ⟨⟨h1, h2⟩, ⟨h3, h4⟩, co5_grade, ini5, by decide +kernel⟩
theorem co5_on : Cond.code yX5_on cX5_on 4 (some .int) ∈ gtbl := gtbl_in (by decide +kernel) rfl
theorem im5_on : Cond.instanceMethod yX5_on ∈ gtbl := gtbl_in (by decide +kernel) rfl
theorem se5_on : Cond.selects RX5 yX5_on yX5_on ∈ gtbl := gtbl_in (by decide +kernel) rfl
theorem rm5_on {R : Room} {k n fr lo mc ms : Nat} (h1 : fr + 1 ≤ R.frames) (h2 : 8 + (4 + 11) + lo ≤ R.locals) (h3 : k + mc ≤ R.cells) (h4 : n + ms ≤ R.slots) : Rm R k n yX5_on cX5_on 4 (some .int) fr lo mc ms 2 := ⟨⟨h1, h2⟩, ⟨h3, h4⟩, co5_on, ini5, by decide +kernel⟩
theorem co5_at : Cond.code yX5_at cX5_at 4 (some .int) ∈ gtbl := gtbl_in (by decide +kernel) rfl
theorem im5_at : Cond.instanceMethod yX5_at ∈ gtbl := gtbl_in (by decide +kernel) rfl
theorem se5_at : Cond.selects RX5 yX5_at yX5_at ∈ gtbl := gtbl_in (by decide +kernel) rfl
theorem rm5_at {R : Room} {k n fr lo mc ms : Nat} (h1 : fr + 1 ≤ R.frames) (h2 : 8 + (4 + 11) + lo ≤ R.locals) (h3 : k + mc ≤ R.cells) (h4 : n + ms ≤ R.slots) : Rm R k n yX5_at cX5_at 4 (some .int) fr lo mc ms 2 := ⟨⟨h1, h2⟩, ⟨h3, h4⟩, co5_at, ini5, by decide +kernel⟩
theorem co5_packer : Cond.code yX5_packer cX5_packer 5 (some .int) ∈ gtbl := gtbl_in (by decide +kernel) rfl
theorem im5_packer : Cond.instanceMethod yX5_packer ∈ gtbl := gtbl_in (by decide +kernel) rfl
theorem se5_packer : Cond.selects RX5 yX5_packer yX5_packer ∈ gtbl := gtbl_in (by decide +kernel) rfl
theorem rm5_packer {R : Room} {k n fr lo mc ms : Nat} (h1 : fr + 1 ≤ R.frames) (h2 : 8 + (5 + 11) + lo ≤ R.locals) (h3 : k + mc ≤ R.cells) (h4 : n + ms ≤ R.slots) : Rm R k n yX5_packer cX5_packer 5 (some .int) fr lo mc ms 2 := ⟨⟨h1, h2⟩, ⟨h3, h4⟩, co5_packer, ini5, by decide +kernel⟩
theorem co5_allBarns : Cond.code yX5_allBarns cX5_allBarns 2 (some .int) ∈ gtbl := gtbl_in (by decide +kernel) rfl
theorem im5_allBarns : Cond.instanceMethod yX5_allBarns ∈ gtbl := gtbl_in (by decide +kernel) rfl
theorem se5_allBarns : Cond.selects RX5 yX5_allBarns yX5_allBarns ∈ gtbl := gtbl_in (by decide +kernel) rfl
theorem rm5_allBarns {R : Room} {k n fr lo mc ms : Nat} (h1 : fr + 1 ≤ R.frames) (h2 : 8 + (2 + 11) + lo ≤ R.locals) (h3 : k + mc ≤ R.cells) (h4 : n + ms ≤ R.slots) : Rm R k n yX5_allBarns cX5_allBarns 2 (some .int) fr lo mc ms 1 := ⟨⟨h1, h2⟩, ⟨h3, h4⟩, co5_allBarns, ini5, by decide +kernel⟩
theorem co5_count : Cond.code yX5_count cX5_count 4 (some .int) ∈ gtbl := gtbl_in (by decide +kernel) rfl
theorem im5_count : Cond.instanceMethod yX5_count ∈ gtbl := gtbl_in (by decide +kernel) rfl
theorem se5_count : Cond.selects RX5 yX5_count yX5_count ∈ gtbl := gtbl_in (by decide +kernel) rfl
theorem rm5_count {R : Room} {k n fr lo mc ms : Nat} (h1 : fr + 1 ≤ R.frames) (h2 : 8 + (4 + 11) + lo ≤ R.locals) (h3 : k + mc ≤ R.cells) (h4 : n + ms ≤ R.slots) : Rm R k n yX5_count cX5_count 4 (some .int) fr lo mc ms 1 := ⟨⟨h1, h2⟩, ⟨h3, h4⟩, co5_count, ini5, by decide +kernel⟩
theorem co5_barn : Cond.code yX5_barn cX5_barn 3 (some .int) ∈ gtbl := gtbl_in (by decide +kernel) rfl
theorem im5_barn : Cond.instanceMethod yX5_barn ∈ gtbl := gtbl_in (by decide +kernel) rfl
theorem se5_barn : Cond.selects RX5 yX5_barn yX5_barn ∈ gtbl := gtbl_in (by decide +kernel) rfl
theorem rm5_barn {R : Room} {k n fr lo mc ms : Nat} (h1 : fr + 1 ≤ R.frames) (h2 : 8 + (3 + 11) + lo ≤ R.locals) (h3 : k + mc ≤ R.cells) (h4 : n + ms ≤ R.slots) : Rm R k n yX5_barn cX5_barn 3 (some .int) fr lo mc ms 2 := ⟨⟨h1, h2⟩, ⟨h3, h4⟩, co5_barn, ini5, by decide +kernel⟩
theorem co5_isPack : Cond.code yX5_isPack cX5_isPack 2 (some .boolean) ∈ gtbl := gtbl_in (by decide +kernel) rfl
theorem im5_isPack : Cond.instanceMethod yX5_isPack ∈ gtbl := gtbl_in (by decide +kernel) rfl
theorem se5_isPack : Cond.selects RX5 yX5_isPack yX5_isPack ∈ gtbl := gtbl_in (by decide +kernel) rfl
theorem rm5_isPack {R : Room} {k n fr lo mc ms : Nat} (h1 : fr + 1 ≤ R.frames) (h2 : 8 + (2 + 11) + lo ≤ R.locals) (h3 : k + mc ≤ R.cells) (h4 : n + ms ≤ R.slots) : Rm R k n yX5_isPack cX5_isPack 2 (some .boolean) fr lo mc ms 1 := ⟨⟨h1, h2⟩, ⟨h3, h4⟩, co5_isPack, ini5, by decide +kernel⟩
theorem co5_pack : Cond.code yX5_pack cX5_pack 3 (some .int) ∈ gtbl := gtbl_in (by decide +kernel) rfl
theorem im5_pack : Cond.instanceMethod yX5_pack ∈ gtbl := gtbl_in (by decide +kernel) rfl
theorem se5_pack : Cond.selects RX5 yX5_pack yX5_pack ∈ gtbl := gtbl_in (by decide +kernel) rfl
theorem rm5_pack {R : Room} {k n fr lo mc ms : Nat} (h1 : fr + 1 ≤ R.frames) (h2 : 8 + (3 + 11) + lo ≤ R.locals) (h3 : k + mc ≤ R.cells) (h4 : n + ms ≤ R.slots) : Rm R k n yX5_pack cX5_pack 3 (some .int) fr lo mc ms 2 := ⟨⟨h1, h2⟩, ⟨h3, h4⟩, co5_pack, ini5, by decide +kernel⟩
theorem co5_isFree : Cond.code yX5_isFree cX5_isFree 2 (some .boolean) ∈ gtbl := gtbl_in (by decide +kernel) rfl
theorem im5_isFree : Cond.instanceMethod yX5_isFree ∈ gtbl := gtbl_in (by decide +kernel) rfl
theorem se5_isFree : Cond.selects RX5 yX5_isFree yX5_isFree ∈ gtbl := gtbl_in (by decide +kernel) rfl
theorem rm5_isFree {R : Room} {k n fr lo mc ms : Nat} (h1 : fr + 1 ≤ R.frames) (h2 : 8 + (2 + 11) + lo ≤ R.locals) (h3 : k + mc ≤ R.cells) (h4 : n + ms ≤ R.slots) : Rm R k n yX5_isFree cX5_isFree 2 (some .boolean) fr lo mc ms 1 := ⟨⟨h1, h2⟩, ⟨h3, h4⟩, co5_isFree, ini5, by decide +kernel⟩
theorem co5_freeOf : Cond.code yX5_freeOf cX5_freeOf 4 (some .int) ∈ gtbl := gtbl_in (by decide +kernel) rfl
theorem im5_freeOf : Cond.instanceMethod yX5_freeOf ∈ gtbl := gtbl_in (by decide +kernel) rfl
theorem se5_freeOf : Cond.selects RX5 yX5_freeOf yX5_freeOf ∈ gtbl := gtbl_in (by decide +kernel) rfl
theorem rm5_freeOf {R : Room} {k n fr lo mc ms : Nat} (h1 : fr + 1 ≤ R.frames) (h2 : 8 + (4 + 11) + lo ≤ R.locals) (h3 : k + mc ≤ R.cells) (h4 : n + ms ≤ R.slots) : Rm R k n yX5_freeOf cX5_freeOf 4 (some .int) fr lo mc ms 1 := ⟨⟨h1, h2⟩, ⟨h3, h4⟩, co5_freeOf, ini5, by decide +kernel⟩
theorem co5_free : Cond.code yX5_free cX5_free 2 (some .int) ∈ gtbl := gtbl_in (by decide +kernel) rfl
theorem im5_free : Cond.instanceMethod yX5_free ∈ gtbl := gtbl_in (by decide +kernel) rfl
theorem se5_free : Cond.selects RX5 yX5_free yX5_free ∈ gtbl := gtbl_in (by decide +kernel) rfl
theorem rm5_free {R : Room} {k n fr lo mc ms : Nat} (h1 : fr + 1 ≤ R.frames) (h2 : 8 + (2 + 11) + lo ≤ R.locals) (h3 : k + mc ≤ R.cells) (h4 : n + ms ≤ R.slots) : Rm R k n yX5_free cX5_free 2 (some .int) fr lo mc ms 1 := ⟨⟨h1, h2⟩, ⟨h3, h4⟩, co5_free, ini5, by decide +kernel⟩
theorem co5_order : Cond.code yX5_order cX5_order 4 (some .int) ∈ gtbl := gtbl_in (by decide +kernel) rfl
theorem im5_order : Cond.instanceMethod yX5_order ∈ gtbl := gtbl_in (by decide +kernel) rfl
theorem se5_order : Cond.selects RX5 yX5_order yX5_order ∈ gtbl := gtbl_in (by decide +kernel) rfl
theorem rm5_order {R : Room} {k n fr lo mc ms : Nat} (h1 : fr + 1 ≤ R.frames) (h2 : 8 + (4 + 11) + lo ≤ R.locals) (h3 : k + mc ≤ R.cells) (h4 : n + ms ≤ R.slots) : Rm R k n yX5_order cX5_order 4 (some .int) fr lo mc ms 3 := ⟨⟨h1, h2⟩, ⟨h3, h4⟩, co5_order, ini5, by decide +kernel⟩
theorem co5_worthOf : Cond.code yX5_worthOf cX5_worthOf 4 (some .int) ∈ gtbl := gtbl_in (by decide +kernel) rfl
theorem im5_worthOf : Cond.instanceMethod yX5_worthOf ∈ gtbl := gtbl_in (by decide +kernel) rfl
theorem se5_worthOf : Cond.selects RX5 yX5_worthOf yX5_worthOf ∈ gtbl := gtbl_in (by decide +kernel) rfl
theorem rm5_worthOf {R : Room} {k n fr lo mc ms : Nat} (h1 : fr + 1 ≤ R.frames) (h2 : 8 + (4 + 11) + lo ≤ R.locals) (h3 : k + mc ≤ R.cells) (h4 : n + ms ≤ R.slots) : Rm R k n yX5_worthOf cX5_worthOf 4 (some .int) fr lo mc ms 1 := ⟨⟨h1, h2⟩, ⟨h3, h4⟩, co5_worthOf, ini5, by decide +kernel⟩
theorem co5_canServe : Cond.code yX5_canServe cX5_canServe 6 (some .boolean) ∈ gtbl := gtbl_in (by decide +kernel) rfl
theorem im5_canServe : Cond.instanceMethod yX5_canServe ∈ gtbl := gtbl_in (by decide +kernel) rfl
theorem se5_canServe : Cond.selects RX5 yX5_canServe yX5_canServe ∈ gtbl := gtbl_in (by decide +kernel) rfl
theorem rm5_canServe {R : Room} {k n fr lo mc ms : Nat} (h1 : fr + 1 ≤ R.frames) (h2 : 8 + (6 + 11) + lo ≤ R.locals) (h3 : k + mc ≤ R.cells) (h4 : n + ms ≤ R.slots) : Rm R k n yX5_canServe cX5_canServe 6 (some .boolean) fr lo mc ms 1 := ⟨⟨h1, h2⟩, ⟨h3, h4⟩, co5_canServe, ini5, by decide +kernel⟩
theorem co5_bestSet : Cond.code yX5_bestSet cX5_bestSet 3 (some .int) ∈ gtbl := gtbl_in (by decide +kernel) rfl
theorem im5_bestSet : Cond.instanceMethod yX5_bestSet ∈ gtbl := gtbl_in (by decide +kernel) rfl
theorem se5_bestSet : Cond.selects RX5 yX5_bestSet yX5_bestSet ∈ gtbl := gtbl_in (by decide +kernel) rfl
theorem rm5_bestSet {R : Room} {k n fr lo mc ms : Nat} (h1 : fr + 1 ≤ R.frames) (h2 : 8 + (3 + 11) + lo ≤ R.locals) (h3 : k + mc ≤ R.cells) (h4 : n + ms ≤ R.slots) : Rm R k n yX5_bestSet cX5_bestSet 3 (some .int) fr lo mc ms 0 := ⟨⟨h1, h2⟩, ⟨h3, h4⟩, co5_bestSet, ini5, by decide +kernel⟩
theorem co5_best : Cond.code yX5_best cX5_best 2 (some .int) ∈ gtbl := gtbl_in (by decide +kernel) rfl
theorem im5_best : Cond.instanceMethod yX5_best ∈ gtbl := gtbl_in (by decide +kernel) rfl
theorem se5_best : Cond.selects RX5 yX5_best yX5_best ∈ gtbl := gtbl_in (by decide +kernel) rfl
theorem rm5_best {R : Room} {k n fr lo mc ms : Nat} (h1 : fr + 1 ≤ R.frames) (h2 : 8 + (2 + 11) + lo ≤ R.locals) (h3 : k + mc ≤ R.cells) (h4 : n + ms ≤ R.slots) : Rm R k n yX5_best cX5_best 2 (some .int) fr lo mc ms 1 := ⟨⟨h1, h2⟩, ⟨h3, h4⟩, co5_best, ini5, by decide +kernel⟩
theorem co5_serve : Cond.code yX5_serve cX5_serve 6 (some .int) ∈ gtbl := gtbl_in (by decide +kernel) rfl
theorem im5_serve : Cond.instanceMethod yX5_serve ∈ gtbl := gtbl_in (by decide +kernel) rfl
theorem se5_serve : Cond.selects RX5 yX5_serve yX5_serve ∈ gtbl := gtbl_in (by decide +kernel) rfl
theorem rm5_serve {R : Room} {k n fr lo mc ms : Nat} (h1 : fr + 1 ≤ R.frames) (h2 : 8 + (6 + 11) + lo ≤ R.locals) (h3 : k + mc ≤ R.cells) (h4 : n + ms ≤ R.slots) : Rm R k n yX5_serve cX5_serve 6 (some .int) fr lo mc ms 0 := ⟨⟨h1, h2⟩, ⟨h3, h4⟩, co5_serve, ini5, by decide +kernel⟩
theorem co5_about : Cond.code yX5_about cX5_about 3 (some .int) ∈ gtbl := gtbl_in (by decide +kernel) rfl
theorem im5_about : Cond.instanceMethod yX5_about ∈ gtbl := gtbl_in (by decide +kernel) rfl
theorem se5_about : Cond.selects RX5 yX5_about yX5_about ∈ gtbl := gtbl_in (by decide +kernel) rfl
theorem rm5_about {R : Room} {k n fr lo mc ms : Nat} (h1 : fr + 1 ≤ R.frames) (h2 : 8 + (3 + 11) + lo ≤ R.locals) (h3 : k + mc ≤ R.cells) (h4 : n + ms ≤ R.slots) : Rm R k n yX5_about cX5_about 3 (some .int) fr lo mc ms 2 := ⟨⟨h1, h2⟩, ⟨h3, h4⟩, co5_about, ini5, by decide +kernel⟩
theorem co5_doubts : Cond.code yX5_doubts cX5_doubts 7 (some .int) ∈ gtbl := gtbl_in (by decide +kernel) rfl
theorem im5_doubts : Cond.instanceMethod yX5_doubts ∈ gtbl := gtbl_in (by decide +kernel) rfl
theorem se5_doubts : Cond.selects RX5 yX5_doubts yX5_doubts ∈ gtbl := gtbl_in (by decide +kernel) rfl
theorem rm5_doubts {R : Room} {k n fr lo mc ms : Nat} (h1 : fr + 1 ≤ R.frames) (h2 : 8 + (7 + 11) + lo ≤ R.locals) (h3 : k + mc ≤ R.cells) (h4 : n + ms ≤ R.slots) : Rm R k n yX5_doubts cX5_doubts 7 (some .int) fr lo mc ms 4 := ⟨⟨h1, h2⟩, ⟨h3, h4⟩, co5_doubts, ini5, by decide +kernel⟩
theorem co5_doubt : Cond.code yX5_doubt cX5_doubt 3 (some .int) ∈ gtbl := gtbl_in (by decide +kernel) rfl
theorem im5_doubt : Cond.instanceMethod yX5_doubt ∈ gtbl := gtbl_in (by decide +kernel) rfl
theorem se5_doubt : Cond.selects RX5 yX5_doubt yX5_doubt ∈ gtbl := gtbl_in (by decide +kernel) rfl
theorem rm5_doubt {R : Room} {k n fr lo mc ms : Nat} (h1 : fr + 1 ≤ R.frames) (h2 : 8 + (3 + 11) + lo ≤ R.locals) (h3 : k + mc ≤ R.cells) (h4 : n + ms ≤ R.slots) : Rm R k n yX5_doubt cX5_doubt 3 (some .int) fr lo mc ms 2 := ⟨⟨h1, h2⟩, ⟨h3, h4⟩, co5_doubt, ini5, by decide +kernel⟩
theorem co5_hours : Cond.code yX5_hours cX5_hours 4 (some .int) ∈ gtbl := gtbl_in (by decide +kernel) rfl
theorem im5_hours : Cond.instanceMethod yX5_hours ∈ gtbl := gtbl_in (by decide +kernel) rfl
theorem se5_hours : Cond.selects RX5 yX5_hours yX5_hours ∈ gtbl := gtbl_in (by decide +kernel) rfl
theorem rm5_hours {R : Room} {k n fr lo mc ms : Nat} (h1 : fr + 1 ≤ R.frames) (h2 : 8 + (4 + 11) + lo ≤ R.locals) (h3 : k + mc ≤ R.cells) (h4 : n + ms ≤ R.slots) : Rm R k n yX5_hours cX5_hours 4 (some .int) fr lo mc ms 3 := ⟨⟨h1, h2⟩, ⟨h3, h4⟩, co5_hours, ini5, by decide +kernel⟩
theorem co5_clear : Cond.code yX5_clear cX5_clear 2 (some .int) ∈ gtbl := gtbl_in (by decide +kernel) rfl
theorem im5_clear : Cond.instanceMethod yX5_clear ∈ gtbl := gtbl_in (by decide +kernel) rfl
theorem se5_clear : Cond.selects RX5 yX5_clear yX5_clear ∈ gtbl := gtbl_in (by decide +kernel) rfl
theorem rm5_clear {R : Room} {k n fr lo mc ms : Nat} (h1 : fr + 1 ≤ R.frames) (h2 : 8 + (2 + 11) + lo ≤ R.locals) (h3 : k + mc ≤ R.cells) (h4 : n + ms ≤ R.slots) : Rm R k n yX5_clear cX5_clear 2 (some .int) fr lo mc ms 1 := ⟨⟨h1, h2⟩, ⟨h3, h4⟩, co5_clear, ini5, by decide +kernel⟩
theorem co5_told : Cond.code yX5_told cX5_told 4 (some .int) ∈ gtbl := gtbl_in (by decide +kernel) rfl
theorem im5_told : Cond.instanceMethod yX5_told ∈ gtbl := gtbl_in (by decide +kernel) rfl
theorem se5_told : Cond.selects RX5 yX5_told yX5_told ∈ gtbl := gtbl_in (by decide +kernel) rfl
theorem rm5_told {R : Room} {k n fr lo mc ms : Nat} (h1 : fr + 1 ≤ R.frames) (h2 : 8 + (4 + 11) + lo ≤ R.locals) (h3 : k + mc ≤ R.cells) (h4 : n + ms ≤ R.slots) : Rm R k n yX5_told cX5_told 4 (some .int) fr lo mc ms 1 := ⟨⟨h1, h2⟩, ⟨h3, h4⟩, co5_told, ini5, by decide +kernel⟩
theorem co5_trace : Cond.code yX5_trace cX5_trace 1 (some .long) ∈ gtbl := gtbl_in (by decide +kernel) rfl
theorem im5_trace : Cond.instanceMethod yX5_trace ∈ gtbl := gtbl_in (by decide +kernel) rfl
theorem se5_trace : Cond.selects RX5 yX5_trace yX5_trace ∈ gtbl := gtbl_in (by decide +kernel) rfl
theorem rm5_trace {R : Room} {k n fr lo mc ms : Nat} (h1 : fr + 1 ≤ R.frames) (h2 : 8 + (1 + 11) + lo ≤ R.locals) (h3 : k + mc ≤ R.cells) (h4 : n + ms ≤ R.slots) : Rm R k n yX5_trace cX5_trace 1 (some .long) fr lo mc ms 0 := ⟨⟨h1, h2⟩, ⟨h3, h4⟩, co5_trace, ini5, by decide +kernel⟩
def mkd : Nat → Nat
  | 0 => 2
  | 1 => 0
  | 2 => 0
  | 3 => 0
  | 4 => 0
  | 5 => 0
  | 6 => 0
  | 7 => 0
  | 8 => 2
  | 9 => 0
  | 10 => 0
  | 11 => 2
  | 12 => 0
  | 13 => 0
  | 14 => 2
  | 15 => 0
  | 16 => 0
  | 17 => 1
  | 18 => 0
  | 19 => 0
  | 20 => 0
  | 21 => 2
  | 22 => 0
  | 23 => 0
  | 24 => 0
  | 25 => 0
  | 26 => 0
  | 27 => 0
  | 28 => 0
  | 29 => 1
  | 30 => 2
  | 31 => 0
  | 32 => 0
  | 33 => 0
  | 34 => 1
  | 35 => 2
  | 36 => 2
  | 37 => 3
  | _ => 4
def mlen : Nat → Nat
  | 1 => 600
  | 2 => 600
  | 3 => 600
  | 4 => 600
  | 5 => 600
  | 6 => 600
  | 7 => 600
  | 9 => 20
  | 10 => 16
  | 12 => 30
  | 13 => 30
  | 15 => 20
  | 16 => 4
  | 17 => 4
  | 18 => 4
  | 19 => 4
  | 20 => 24
  | 22 => 60
  | 23 => 60
  | 24 => 60
  | 25 => 60
  | 26 => 60
  | 27 => 60
  | 28 => 60
  | 29 => 60
  | 31 => 6
  | 32 => 6
  | 33 => 6
  | 34 => 6
  | _ => 0
def mplc : Nat → Nat
  | 1 => 1
  | 2 => 2
  | 3 => 3
  | 4 => 4
  | 5 => 5
  | 6 => 6
  | 7 => 7
  | 9 => 8
  | 10 => 9
  | 12 => 10
  | 13 => 11
  | 15 => 12
  | 16 => 13
  | 17 => 14
  | 18 => 15
  | 19 => 16
  | 20 => 17
  | 22 => 18
  | 23 => 19
  | 24 => 20
  | 25 => 21
  | 26 => 22
  | 27 => 23
  | 28 => 24
  | 29 => 25
  | 31 => 26
  | 32 => 27
  | 33 => 28
  | 34 => 29
  | _ => 0
/-- the fields of the model: M k 0 the number in field k, M k the contents of the array in field k, T the trace -/
def mF (ad : Nat → Nat) (M : Nat → Nat → Int32) (T : Int64) : List Value := [.int (M 0 0), .ref (ad 1), .ref (ad 2), .ref (ad 3), .ref (ad 4), .ref (ad 5), .ref (ad 6), .ref (ad 7), .int (M 8 0), .ref (ad 9), .ref (ad 10), .int (M 11 0), .ref (ad 12), .ref (ad 13), .int (M 14 0), .ref (ad 15), .ref (ad 16), .ref (ad 17), .ref (ad 18), .ref (ad 19), .ref (ad 20), .int (M 21 0), .ref (ad 22), .ref (ad 23), .ref (ad 24), .ref (ad 25), .ref (ad 26), .ref (ad 27), .ref (ad 28), .ref (ad 29), .int (M 30 0), .ref (ad 31), .ref (ad 32), .ref (ad 33), .ref (ad 34), .int (M 35 0), .int (M 36 0), .long T]
/-- the model's world: its object at h1, its arrays at ad k -/
def mW (ar : Nat → ClassId) (h1 : Nat) (ad : Nat → Nat) (M : Nat → Nat → Int32) (T : Int64) : va_W := (h1, .inr (5, mF ad M T)) :: [(ad 1, .inl (ar 0, 600, .inl (M 1))), (ad 2, .inl (ar 0, 600, .inl (M 2))), (ad 3, .inl (ar 0, 600, .inl (M 3))), (ad 4, .inl (ar 0, 600, .inl (M 4))), (ad 5, .inl (ar 0, 600, .inl (M 5))), (ad 6, .inl (ar 0, 600, .inl (M 6))), (ad 7, .inl (ar 0, 600, .inl (M 7))), (ad 9, .inl (ar 0, 20, .inl (M 9))), (ad 10, .inl (ar 0, 16, .inl (M 10))), (ad 12, .inl (ar 0, 30, .inl (M 12))), (ad 13, .inl (ar 0, 30, .inl (M 13))), (ad 15, .inl (ar 0, 20, .inl (M 15))), (ad 16, .inl (ar 0, 4, .inl (M 16))), (ad 17, .inl (ar 1, 4, .inl (M 17))), (ad 18, .inl (ar 0, 4, .inl (M 18))), (ad 19, .inl (ar 0, 4, .inl (M 19))), (ad 20, .inl (ar 0, 24, .inl (M 20))), (ad 22, .inl (ar 0, 60, .inl (M 22))), (ad 23, .inl (ar 0, 60, .inl (M 23))), (ad 24, .inl (ar 0, 60, .inl (M 24))), (ad 25, .inl (ar 0, 60, .inl (M 25))), (ad 26, .inl (ar 0, 60, .inl (M 26))), (ad 27, .inl (ar 0, 60, .inl (M 27))), (ad 28, .inl (ar 0, 60, .inl (M 28))), (ad 29, .inl (ar 1, 60, .inl (M 29))), (ad 31, .inl (ar 0, 6, .inl (M 31))), (ad 32, .inl (ar 0, 6, .inl (M 32))), (ad 33, .inl (ar 0, 6, .inl (M 33))), (ad 34, .inl (ar 1, 6, .inl (M 34)))]
def up2 (M : Nat → Nat → Int32) (f i : Nat) (v : Int32) : Nat → Nat → Int32 := fun g => if g = f then upd (M g) i v else M g
theorem up2_s {M : Nat → Nat → Int32} {f i : Nat} {v : Int32} : up2 M f i v f = upd (M f) i v := if_pos rfl
theorem up2_n {M : Nat → Nat → Int32} {f g i : Nat} {v : Int32} (h : g ≠ f) : up2 M f i v g = M g := if_neg h
theorem mF_I {ad : Nat → Nat} {M : Nat → Nat → Int32} {T : Int64} : ∀ {k : Nat}, mkd k = 2 → (mF ad M T)[k]? = some (.int (M k 0))
  | 0, h => rfl
  | 1, h => by cases h
  | 2, h => by cases h
  | 3, h => by cases h
  | 4, h => by cases h
  | 5, h => by cases h
  | 6, h => by cases h
  | 7, h => by cases h
  | 8, h => rfl
  | 9, h => by cases h
  | 10, h => by cases h
  | 11, h => rfl
  | 12, h => by cases h
  | 13, h => by cases h
  | 14, h => rfl
  | 15, h => by cases h
  | 16, h => by cases h
  | 17, h => by cases h
  | 18, h => by cases h
  | 19, h => by cases h
  | 20, h => by cases h
  | 21, h => rfl
  | 22, h => by cases h
  | 23, h => by cases h
  | 24, h => by cases h
  | 25, h => by cases h
  | 26, h => by cases h
  | 27, h => by cases h
  | 28, h => by cases h
  | 29, h => by cases h
  | 30, h => rfl
  | 31, h => by cases h
  | 32, h => by cases h
  | 33, h => by cases h
  | 34, h => by cases h
  | 35, h => rfl
  | 36, h => rfl
  | 37, h => by cases h
  | _ + 38, h => by cases h
theorem mF_A {ad : Nat → Nat} {M : Nat → Nat → Int32} {T : Int64} : ∀ {k : Nat}, mkd k ≤ 1 → (mF ad M T)[k]? = some (.ref (ad k))
  | 0, h => absurd h (by decide)
  | 1, h => rfl
  | 2, h => rfl
  | 3, h => rfl
  | 4, h => rfl
  | 5, h => rfl
  | 6, h => rfl
  | 7, h => rfl
  | 8, h => absurd h (by decide)
  | 9, h => rfl
  | 10, h => rfl
  | 11, h => absurd h (by decide)
  | 12, h => rfl
  | 13, h => rfl
  | 14, h => absurd h (by decide)
  | 15, h => rfl
  | 16, h => rfl
  | 17, h => rfl
  | 18, h => rfl
  | 19, h => rfl
  | 20, h => rfl
  | 21, h => absurd h (by decide)
  | 22, h => rfl
  | 23, h => rfl
  | 24, h => rfl
  | 25, h => rfl
  | 26, h => rfl
  | 27, h => rfl
  | 28, h => rfl
  | 29, h => rfl
  | 30, h => absurd h (by decide)
  | 31, h => rfl
  | 32, h => rfl
  | 33, h => rfl
  | 34, h => rfl
  | 35, h => absurd h (by decide)
  | 36, h => absurd h (by decide)
  | 37, h => absurd h (by decide)
  | n + 38, h => absurd h (by show ¬ 4 ≤ 1; decide)
theorem mW_at {ar : Nat → ClassId} {h1 : Nat} {ad : Nat → Nat} {M : Nat → Nat → Int32} {T : Int64} : ∀ {k : Nat}, mkd k ≤ 1 → (mW ar h1 ad M T)[mplc k]? = some (ad k, .inl (ar (mkd k), mlen k, .inl (M k)))
  | 0, h => absurd h (by decide)
  | 1, h => rfl
  | 2, h => rfl
  | 3, h => rfl
  | 4, h => rfl
  | 5, h => rfl
  | 6, h => rfl
  | 7, h => rfl
  | 8, h => absurd h (by decide)
  | 9, h => rfl
  | 10, h => rfl
  | 11, h => absurd h (by decide)
  | 12, h => rfl
  | 13, h => rfl
  | 14, h => absurd h (by decide)
  | 15, h => rfl
  | 16, h => rfl
  | 17, h => rfl
  | 18, h => rfl
  | 19, h => rfl
  | 20, h => rfl
  | 21, h => absurd h (by decide)
  | 22, h => rfl
  | 23, h => rfl
  | 24, h => rfl
  | 25, h => rfl
  | 26, h => rfl
  | 27, h => rfl
  | 28, h => rfl
  | 29, h => rfl
  | 30, h => absurd h (by decide)
  | 31, h => rfl
  | 32, h => rfl
  | 33, h => rfl
  | 34, h => rfl
  | 35, h => absurd h (by decide)
  | 36, h => absurd h (by decide)
  | 37, h => absurd h (by decide)
  | n + 38, h => absurd h (by show ¬ 4 ≤ 1; decide)
theorem mW_set {ar : Nat → ClassId} {h1 : Nat} {ad : Nat → Nat} {M : Nat → Nat → Int32} {T : Int64} {x : Nat} {v : Int32} : ∀ {k : Nat}, mkd k ≤ 1 → (mW ar h1 ad M T).set (mplc k) (ad k, .inl (ar (mkd k), mlen k, .inl (upd (M k) x v))) = mW ar h1 ad (up2 M k x v) T
  | 0, h => absurd h (by decide)
  | 1, h => rfl
  | 2, h => rfl
  | 3, h => rfl
  | 4, h => rfl
  | 5, h => rfl
  | 6, h => rfl
  | 7, h => rfl
  | 8, h => absurd h (by decide)
  | 9, h => rfl
  | 10, h => rfl
  | 11, h => absurd h (by decide)
  | 12, h => rfl
  | 13, h => rfl
  | 14, h => absurd h (by decide)
  | 15, h => rfl
  | 16, h => rfl
  | 17, h => rfl
  | 18, h => rfl
  | 19, h => rfl
  | 20, h => rfl
  | 21, h => absurd h (by decide)
  | 22, h => rfl
  | 23, h => rfl
  | 24, h => rfl
  | 25, h => rfl
  | 26, h => rfl
  | 27, h => rfl
  | 28, h => rfl
  | 29, h => rfl
  | 30, h => absurd h (by decide)
  | 31, h => rfl
  | 32, h => rfl
  | 33, h => rfl
  | 34, h => rfl
  | 35, h => absurd h (by decide)
  | 36, h => absurd h (by decide)
  | 37, h => absurd h (by decide)
  | n + 38, h => absurd h (by show ¬ 4 ≤ 1; decide)
theorem mW_put {ar : Nat → ClassId} {h1 : Nat} {ad : Nat → Nat} {M : Nat → Nat → Int32} {T : Int64} {v : Int32} : ∀ {k : Nat}, mkd k = 2 → (mW ar h1 ad M T).set 0 (h1, .inr (5, (mF ad M T).set k (.int v))) = mW ar h1 ad (up2 M k 0 v) T
  | 0, h => rfl
  | 1, h => by cases h
  | 2, h => by cases h
  | 3, h => by cases h
  | 4, h => by cases h
  | 5, h => by cases h
  | 6, h => by cases h
  | 7, h => by cases h
  | 8, h => rfl
  | 9, h => by cases h
  | 10, h => by cases h
  | 11, h => rfl
  | 12, h => by cases h
  | 13, h => by cases h
  | 14, h => rfl
  | 15, h => by cases h
  | 16, h => by cases h
  | 17, h => by cases h
  | 18, h => by cases h
  | 19, h => by cases h
  | 20, h => by cases h
  | 21, h => rfl
  | 22, h => by cases h
  | 23, h => by cases h
  | 24, h => by cases h
  | 25, h => by cases h
  | 26, h => by cases h
  | 27, h => by cases h
  | 28, h => by cases h
  | 29, h => by cases h
  | 30, h => rfl
  | 31, h => by cases h
  | 32, h => by cases h
  | 33, h => by cases h
  | 34, h => by cases h
  | 35, h => rfl
  | 36, h => rfl
  | 37, h => by cases h
  | _ + 38, h => by cases h
theorem mkd_lt : ∀ {k : Nat}, mkd k ≤ 3 → k < 38
  | 0, _ => by decide
  | 1, _ => by decide
  | 2, _ => by decide
  | 3, _ => by decide
  | 4, _ => by decide
  | 5, _ => by decide
  | 6, _ => by decide
  | 7, _ => by decide
  | 8, _ => by decide
  | 9, _ => by decide
  | 10, _ => by decide
  | 11, _ => by decide
  | 12, _ => by decide
  | 13, _ => by decide
  | 14, _ => by decide
  | 15, _ => by decide
  | 16, _ => by decide
  | 17, _ => by decide
  | 18, _ => by decide
  | 19, _ => by decide
  | 20, _ => by decide
  | 21, _ => by decide
  | 22, _ => by decide
  | 23, _ => by decide
  | 24, _ => by decide
  | 25, _ => by decide
  | 26, _ => by decide
  | 27, _ => by decide
  | 28, _ => by decide
  | 29, _ => by decide
  | 30, _ => by decide
  | 31, _ => by decide
  | 32, _ => by decide
  | 33, _ => by decide
  | 34, _ => by decide
  | 35, _ => by decide
  | 36, _ => by decide
  | 37, _ => by decide
  | n + 38, h => absurd h (by show ¬ 4 ≤ 3; decide)
theorem mlen_lt : ∀ {k : Nat}, mlen k < 2 ^ 31
  | 0 => by decide
  | 1 => by decide
  | 2 => by decide
  | 3 => by decide
  | 4 => by decide
  | 5 => by decide
  | 6 => by decide
  | 7 => by decide
  | 8 => by decide
  | 9 => by decide
  | 10 => by decide
  | 11 => by decide
  | 12 => by decide
  | 13 => by decide
  | 14 => by decide
  | 15 => by decide
  | 16 => by decide
  | 17 => by decide
  | 18 => by decide
  | 19 => by decide
  | 20 => by decide
  | 21 => by decide
  | 22 => by decide
  | 23 => by decide
  | 24 => by decide
  | 25 => by decide
  | 26 => by decide
  | 27 => by decide
  | 28 => by decide
  | 29 => by decide
  | 30 => by decide
  | 31 => by decide
  | 32 => by decide
  | 33 => by decide
  | 34 => by decide
  | 35 => by decide
  | 36 => by decide
  | 37 => by decide
  | n + 38 => by show 0 < 2 ^ 31; decide
theorem mfin : ∀ {k : Nat}, 2 ≤ mkd k → mkd k ≤ 3 → (TX5 k).2.2.2 = false
  | 0, h, _ => rfl
  | 1, h, _ => absurd h (by decide)
  | 2, h, _ => absurd h (by decide)
  | 3, h, _ => absurd h (by decide)
  | 4, h, _ => absurd h (by decide)
  | 5, h, _ => absurd h (by decide)
  | 6, h, _ => absurd h (by decide)
  | 7, h, _ => absurd h (by decide)
  | 8, h, _ => rfl
  | 9, h, _ => absurd h (by decide)
  | 10, h, _ => absurd h (by decide)
  | 11, h, _ => rfl
  | 12, h, _ => absurd h (by decide)
  | 13, h, _ => absurd h (by decide)
  | 14, h, _ => rfl
  | 15, h, _ => absurd h (by decide)
  | 16, h, _ => absurd h (by decide)
  | 17, h, _ => absurd h (by decide)
  | 18, h, _ => absurd h (by decide)
  | 19, h, _ => absurd h (by decide)
  | 20, h, _ => absurd h (by decide)
  | 21, h, _ => rfl
  | 22, h, _ => absurd h (by decide)
  | 23, h, _ => absurd h (by decide)
  | 24, h, _ => absurd h (by decide)
  | 25, h, _ => absurd h (by decide)
  | 26, h, _ => absurd h (by decide)
  | 27, h, _ => absurd h (by decide)
  | 28, h, _ => absurd h (by decide)
  | 29, h, _ => absurd h (by decide)
  | 30, h, _ => rfl
  | 31, h, _ => absurd h (by decide)
  | 32, h, _ => absurd h (by decide)
  | 33, h, _ => absurd h (by decide)
  | 34, h, _ => absurd h (by decide)
  | 35, h, _ => rfl
  | 36, h, _ => rfl
  | 37, h, _ => rfl
  | n + 38, _, h => absurd h (by show ¬ 4 ≤ 3; decide)
theorem mty : ∀ {k : Nat}, mkd k = 2 → parseFieldDescriptor (TX5 k).2.2.1 = some .int
  | 0, h => by decide +kernel
  | 1, h => by cases h
  | 2, h => by cases h
  | 3, h => by cases h
  | 4, h => by cases h
  | 5, h => by cases h
  | 6, h => by cases h
  | 7, h => by cases h
  | 8, h => by decide +kernel
  | 9, h => by cases h
  | 10, h => by cases h
  | 11, h => by decide +kernel
  | 12, h => by cases h
  | 13, h => by cases h
  | 14, h => by decide +kernel
  | 15, h => by cases h
  | 16, h => by cases h
  | 17, h => by cases h
  | 18, h => by cases h
  | 19, h => by cases h
  | 20, h => by cases h
  | 21, h => by decide +kernel
  | 22, h => by cases h
  | 23, h => by cases h
  | 24, h => by cases h
  | 25, h => by cases h
  | 26, h => by cases h
  | 27, h => by cases h
  | 28, h => by cases h
  | 29, h => by cases h
  | 30, h => by decide +kernel
  | 31, h => by cases h
  | 32, h => by cases h
  | 33, h => by cases h
  | 34, h => by cases h
  | 35, h => by decide +kernel
  | 36, h => by decide +kernel
  | 37, h => by cases h
  | n + 38, h => by cases h
theorem gX5 : ∀ w ∈ u_ws RX5 TX5 38, w ∈ gtbl := by decide +kernel
section MR
variable {cc : ByteArray} {nL : Nat} {D : va_G} {ar : Nat → ClassId} {X : XT} {R : Room} {j : jT}
variable {h1 : Nat} {ad : Nat → Nat} {M : Nat → Nat → Int32} {T : Int64} {k n : Nat} {lv : List (Nat × Value)} {st : List Value}
theorem m_getI (C : Cx0 RX5 cc nL D ar X R j) (pc f : Nat) {ix : Nat} (hf : mkd f = 2) (hw : Cond.fieldLink RX5 ix "EggHouseModel" (TX5 f).2.1 (TX5 f).2.2.1 ∈ gtbl) (hs : (TX5 f).1 = "EggHouseModel") (hd : decode cc pc = .ok (.getfield ix, 3)) (kk : j (mW ar h1 ad M T) k n (pc + 3) lv (.int (M f 0) :: st)) : j (mW ar h1 ad M T) k n pc lv (.ref h1 :: st) := by
  obtain ⟨p, l, e, s, m, args, below, meth, c, A, Q, ⟨hx, hb, hml, hown, hts, hK, hA, hX, hXs⟩, rfl⟩ := C
  intro H locs ls hP hD hS hl
  exact va_get (D := D) (ci := 5) (C := RX5) (T := TX5) (N := 38) hx hb hts gX5 hown hK hP 0 rfl rfl f (mkd_lt (by omega)) (hts _ hw) (fun _ h9 => by rw [hs] at h9; exact h9) (mF_I hf) hd (kk H locs ls hP hD hS hl)
theorem m_getA (C : Cx0 RX5 cc nL D ar X R j) (pc f : Nat) {ix : Nat} (hf : mkd f ≤ 1) (hw : Cond.fieldLink RX5 ix "EggHouseModel" (TX5 f).2.1 (TX5 f).2.2.1 ∈ gtbl) (hs : (TX5 f).1 = "EggHouseModel") (hd : decode cc pc = .ok (.getfield ix, 3)) (kk : j (mW ar h1 ad M T) k n (pc + 3) lv (.ref (ad f) :: st)) : j (mW ar h1 ad M T) k n pc lv (.ref h1 :: st) := by
  obtain ⟨p, l, e, s, m, args, below, meth, c, A, Q, ⟨hx, hb, hml, hown, hts, hK, hA, hX, hXs⟩, rfl⟩ := C
  intro H locs ls hP hD hS hl
  exact va_get (D := D) (ci := 5) (C := RX5) (T := TX5) (N := 38) hx hb hts gX5 hown hK hP 0 rfl rfl f (mkd_lt (by omega)) (hts _ hw) (fun _ h9 => by rw [hs] at h9; exact h9) (mF_A hf) hd (kk H locs ls hP hD hS hl)
theorem m_getT (C : Cx0 RX5 cc nL D ar X R j) (pc : Nat) {ix : Nat} (hw : Cond.fieldLink RX5 ix "EggHouseModel" "trace" "J" ∈ gtbl) (hd : decode cc pc = .ok (.getfield ix, 3)) (kk : j (mW ar h1 ad M T) k n (pc + 3) lv (.long T :: st)) : j (mW ar h1 ad M T) k n pc lv (.ref h1 :: st) := by
  obtain ⟨p, l, e, s, m, args, below, meth, c, A, Q, ⟨hx, hb, hml, hown, hts, hK, hA, hX, hXs⟩, rfl⟩ := C
  intro H locs ls hP hD hS hl
  exact va_get (D := D) (ci := 5) (C := RX5) (T := TX5) (N := 38) hx hb hts gX5 hown hK hP 0 rfl rfl 37 (by decide) (hts _ hw) (fun _ h9 => h9) rfl hd (kk H locs ls hP hD hS hl)
theorem m_put (C : Cx0 RX5 cc nL D ar X R j) (pc f : Nat) {ix : Nat} {v : Int32} (hf : mkd f = 2) (hw : Cond.fieldLink RX5 ix "EggHouseModel" (TX5 f).2.1 (TX5 f).2.2.1 ∈ gtbl) (hs : (TX5 f).1 = "EggHouseModel") (hd : decode cc pc = .ok (.putfield ix, 3)) (kk : j (mW ar h1 ad (up2 M f 0 v) T) k n (pc + 3) lv st) : j (mW ar h1 ad M T) k n pc lv (.int v :: .ref h1 :: st) := by
  obtain ⟨p, l, e, s, m, args, below, meth, c, A, Q, ⟨hx, hb, hml, hown, hts, hK, hA, hX, hXs⟩, rfl⟩ := C
  intro H locs ls hP hD hS hl
  refine va_put (D := D) (ci := 5) (v := .int v) (ty := .int) (C := RX5) (T := TX5) (N := 38) hx hb hts gX5 tyX5 tyX5_ok nmX5 hown hK hP hD hS 0 rfl rfl f (mkd_lt (by omega)) (hts _ hw) (fun _ h9 => by rw [hs] at h9; exact h9) (mfin (by omega) (by omega)) (mty hf) rfl rfl (by show f < 38; exact mkd_lt (by omega)) hd (fun H locs hP hD hS => ?_)
  have e9 := mW_put (ar := ar) (h1 := h1) (ad := ad) (M := M) (T := T) (v := v) hf
  rw [e9] at hP hD
  exact kk H locs ls hP hD hS hl
theorem m_putT (C : Cx0 RX5 cc nL D ar X R j) (pc : Nat) {ix : Nat} {v : Int64} (hw : Cond.fieldLink RX5 ix "EggHouseModel" "trace" "J" ∈ gtbl) (hd : decode cc pc = .ok (.putfield ix, 3)) (kk : j (mW ar h1 ad M v) k n (pc + 3) lv st) : j (mW ar h1 ad M T) k n pc lv (.long v :: .ref h1 :: st) := by
  obtain ⟨p, l, e, s, m, args, below, meth, c, A, Q, ⟨hx, hb, hml, hown, hts, hK, hA, hX, hXs⟩, rfl⟩ := C
  intro H locs ls hP hD hS hl
  refine va_put (D := D) (ci := 5) (v := .long v) (ty := .long) (C := RX5) (T := TX5) (N := 38) hx hb hts gX5 tyX5 tyX5_ok nmX5 hown hK hP hD hS 0 rfl rfl 37 (by decide) (hts _ hw) (fun _ h9 => h9) rfl (by decide +kernel) rfl rfl (Nat.le_of_ble_eq_true rfl) hd (fun H locs hP hD hS => ?_)
  exact kk H locs ls hP hD hS hl
theorem nI_vp {x N : Nat} {i : Int32} (hi : i = nI x) (hx : x < N) (hN : N < 2 ^ 31) : vp_in i N ∧ i.toNatClampNeg = x := by
  subst hi
  exact ⟨vp_in_nI hx hN, nI_clamp (by omega)⟩
/-- an array's place read, at the number x -/
theorem m_ld (C : Cx0 RX5 cc nL D ar X R j) (pc x : Nat) {f : Nat} {i : Int32} (hf : mkd f = 0) (hi : i = nI x) (hlt : x < mlen f) (hd : decode cc pc = .ok (.iaload, 1)) (kk : j (mW ar h1 ad M T) k n (pc + 1) lv (.int (M f x) :: st)) : j (mW ar h1 ad M T) k n pc lv (.int i :: .ref (ad f) :: st) := by
  obtain ⟨p, l, e, s, m, args, below, meth, c, A, Q, ⟨hx, hb, hml, hown, hts, hK, hA, hX, hXs⟩, rfl⟩ := C
  intro H locs ls hP hD hS hl
  obtain ⟨h8, h9⟩ := nI_vp hi hlt mlen_lt
  have ha := mW_at (ar := ar) (h1 := h1) (ad := ad) (M := M) (T := T) (k := f) (by omega)
  rw [hf] at ha
  refine va_iald hx hb hK hP (mplc f) 0 ha rfl h8 hd ?_
  rw [h9]
  exact kk H locs ls hP hD hS hl
theorem m_ldz (C : Cx0 RX5 cc nL D ar X R j) (pc x : Nat) {f : Nat} {i : Int32} (hf : mkd f = 1) (hi : i = nI x) (hlt : x < mlen f) (hd : decode cc pc = .ok (.baload, 1)) (kk : j (mW ar h1 ad M T) k n (pc + 1) lv (.int (M f x) :: st)) : j (mW ar h1 ad M T) k n pc lv (.int i :: .ref (ad f) :: st) := by
  obtain ⟨p, l, e, s, m, args, below, meth, c, A, Q, ⟨hx, hb, hml, hown, hts, hK, hA, hX, hXs⟩, rfl⟩ := C
  intro H locs ls hP hD hS hl
  obtain ⟨h8, h9⟩ := nI_vp hi hlt mlen_lt
  have ha := mW_at (ar := ar) (h1 := h1) (ad := ad) (M := M) (T := T) (k := f) (by omega)
  rw [hf] at ha
  refine va_zald hx hb hK hP (mplc f) 1 ha rfl h8 hd ?_
  rw [h9]
  exact kk H locs ls hP hD hS hl
theorem m_st (C : Cx0 RX5 cc nL D ar X R j) (pc x : Nat) {f : Nat} {i v : Int32} (hf : mkd f = 0) (hi : i = nI x) (hlt : x < mlen f) (hd : decode cc pc = .ok (.iastore, 1)) (kk : j (mW ar h1 ad (up2 M f x v) T) k n (pc + 1) lv st) : j (mW ar h1 ad M T) k n pc lv (.int v :: .int i :: .ref (ad f) :: st) := by
  obtain ⟨p, l, e, s, m, args, below, meth, c, A, Q, ⟨hx, hb, hml, hown, hts, hK, hA, hX, hXs⟩, rfl⟩ := C
  intro H locs ls hP hD hS hl
  obtain ⟨h8, h9⟩ := nI_vp hi hlt mlen_lt
  have ha := mW_at (ar := ar) (h1 := h1) (ad := ad) (M := M) (T := T) (k := f) (by omega)
  have hs := mW_set (ar := ar) (h1 := h1) (ad := ad) (M := M) (T := T) (x := x) (v := v) (k := f) (by omega)
  rw [hf] at ha hs
  refine va_iast hx hb hK hP hD hS (mplc f) 0 ha rfl h8 hd (fun H locs hP hD hS => ?_)
  rw [h9, hs] at hP hD
  exact kk H locs ls hP hD hS hl
theorem m_stz (C : Cx0 RX5 cc nL D ar X R j) (pc x : Nat) {f : Nat} {i v : Int32} (hf : mkd f = 1) (hi : i = nI x) (hlt : x < mlen f) (hv : vp_nar .boolean v = v) (hd : decode cc pc = .ok (.bastore, 1)) (kk : j (mW ar h1 ad (up2 M f x v) T) k n (pc + 1) lv st) : j (mW ar h1 ad M T) k n pc lv (.int v :: .int i :: .ref (ad f) :: st) := by
  obtain ⟨p, l, e, s, m, args, below, meth, c, A, Q, ⟨hx, hb, hml, hown, hts, hK, hA, hX, hXs⟩, rfl⟩ := C
  intro H locs ls hP hD hS hl
  obtain ⟨h8, h9⟩ := nI_vp hi hlt mlen_lt
  have ha := mW_at (ar := ar) (h1 := h1) (ad := ad) (M := M) (T := T) (k := f) (by omega)
  have hs := mW_set (ar := ar) (h1 := h1) (ad := ad) (M := M) (T := T) (x := x) (v := v) (k := f) (by omega)
  rw [hf] at ha hs
  refine va_zast hx hb hK hP hD hS (mplc f) 1 ha rfl h8 hd (fun H locs hP hD hS => ?_)
  rw [h9, hv, hs] at hP hD
  exact kk H locs ls hP hD hS hl
variable {rest : List Value} {y : MethodName} {bytes : ByteArray} {maxL fr lo mc ms index : Nat} {ret : Option FieldType} {As : List Value} {Ret : Option Value → va_W → Prop}
/-- a method of the model's own, called by it -/
theorem m_call (C : Cx0 RX5 cc nL D ar X R j) (pc : Nat) (np : Nat) (hM : Cn D ar X y bytes maxL ret fr lo mc ms (.ref h1 :: As) (mW ar h1 ad M T) Ret) (hR : Rm R k n y bytes maxL ret fr lo mc ms np) (hl1 : Cond.methodLink RX5 index y ∈ gtbl) (hl2 : Cond.instanceMethod y ∈ gtbl) (hl3 : Cond.selects RX5 y y ∈ gtbl)
    (hn : As.length = np) (hr : (rest.map fun v => v.category).sum ≤ 8) (hd : decode cc pc = .ok (.invokevirtual index, 3))
    (kk : ∀ (r : Option Value) (wc' : va_W), Ret r wc' → j wc' (k + mc) (n + ms) (pc + 3) lv (r.toList ++ rest)) : j (mW ar h1 ad M T) k n pc lv (As.reverse ++ .ref h1 :: rest) :=
  r_callV (wl := []) C pc np hM hR hl1 hl2 hl3 0 5 rfl rfl hn hr hd kk
theorem s_call {own : String} {ws : va_W} (C : Cx0 own cc nL D ar X R j) (pc : Nat) (np : Nat) (hM : Cn D ar X y bytes maxL ret fr lo mc ms As ws Ret) (hR : Rm R k n y bytes maxL ret fr lo mc ms np) (hl1 : Cond.methodLink own index y ∈ gtbl) (hl2 : Cond.static y ∈ gtbl)
    (hn : As.length = np) (hr : (rest.map fun v => v.category).sum ≤ 8) (hd : decode cc pc = .ok (.invokestatic index, 3))
    (kk : ∀ (r : Option Value) (wc' : va_W), Ret r wc' → j wc' (k + mc) (n + ms) (pc + 3) lv (r.toList ++ rest)) : j ws k n pc lv (As.reverse ++ rest) :=
  r_callS (wl := []) C pc np hM hR hl1 hl2 hn hr hd kk
end MR
end
section
/-! the model: its small methods -/
def inR (v a b : Int32) : Int32 := if a ≤ v ∧ v ≤ b then 1 else 0
theorem inR_0 {v a b : Int32} : inR v a b = 0 ↔ ¬ (a ≤ v ∧ v ≤ b) := by
  unfold inR
  by_cases h : a ≤ v ∧ v ≤ b
  · rw [if_pos h]
    exact ⟨fun q => absurd q (by decide), fun q => absurd h q⟩
  · rw [if_neg h]
    exact ⟨fun _ => h, fun _ => rfl⟩
theorem inR_a {v a b : Int32} (h : v < a) : inR v a b = 0 := if_neg (fun q => Int32.not_le.mpr h q.1)
theorem inR_b {v a b : Int32} (h : b < v) : inR v a b = 0 := if_neg (fun q => Int32.not_le.mpr h q.2)
theorem inR_c {v a b : Int32} (h : ¬ v < a) (h2 : ¬ b < v) : inR v a b = 1 := if_pos ⟨Int32.not_lt.mp h, Int32.not_lt.mp h2⟩
theorem inR_nar {v a b : Int32} : narrow .boolean (.int (inR v a b)) = .int (inR v a b) := by
  unfold inR
  by_cases h : a ≤ v ∧ v ≤ b
  · rw [if_pos h]; rfl
  · rw [if_neg h]; rfl
def gradeN (v : Int32) : Int32 := if 43 ≤ v then if 48 ≤ v then if 53 ≤ v then if 58 ≤ v then if 63 ≤ v then 5 else 4 else 3 else 2 else 1 else 0
def dullN (t : Int32) : Int32 := (t &&& 1) + ((t >>> ((1 : Int32) &&& 31)) &&& 1) + ((t >>> ((2 : Int32) &&& 31)) &&& 1) + ((t >>> ((3 : Int32) &&& 31)) &&& 1)

section M5
variable {D : va_G} {ar : Nat → ClassId} {X : XT} {h1 : Nat} {ad : Nat → Nat} {M : Nat → Nat → Int32} {T : Int64}
theorem k5_in (hX : Xok X) (ws : va_W) (v a b : Int32)  : Cn D ar X yX5_in cX5_in 3 (some .boolean) 0 0 0 0 [.int v, .int a, .int b] ws (fun r w => r = some (.int (inR v a b)) ∧ w = ws) := by
  refine Cn.of (own := RX5) hX (by decide) rfl (Nat.le_of_ble_eq_true rfl) (fun j C => ?_)
  have C0 := C.to
  show j _ 0 0 0 [(0, _), (1, _), (2, _)] []
  refine r_iload_n C0 0 0 dX5_in_0 rfl rfl ?_
  refine r_iload_n C0 1 1 dX5_in_1 rfl rfl ?_
  refine r_icmp_lt C0 2 14 dX5_in_2 (by decide) (fun c_2 => ?_) (fun c_2 => ?_)
  · refine r_iconst C0 14 0 dX5_in_14 (by decide) ?_
    refine r_zret C 15 rfl dX5_in_15 (Nat.le_refl _) (Nat.le_refl _) ?_
    first | exact ⟨by rw [inR_a c_2], rfl⟩ | exact ⟨by rw [inR_b c_7], rfl⟩ | exact ⟨by rw [inR_c c_2 c_7], rfl⟩
  · refine r_iload_n C0 5 0 dX5_in_5 rfl rfl ?_
    refine r_iload_n C0 6 2 dX5_in_6 rfl rfl ?_
    refine r_icmp_gt C0 7 14 dX5_in_7 (by decide) (fun c_7 => ?_) (fun c_7 => ?_)
    · refine r_iconst C0 14 0 dX5_in_14 (by decide) ?_
      refine r_zret C 15 rfl dX5_in_15 (Nat.le_refl _) (Nat.le_refl _) ?_
      first | exact ⟨by rw [inR_a c_2], rfl⟩ | exact ⟨by rw [inR_b c_7], rfl⟩ | exact ⟨by rw [inR_c c_2 c_7], rfl⟩
    · refine r_iconst C0 10 1 dX5_in_10 (by decide) ?_
      refine r_goto C0 11 15 dX5_in_11 (by decide) ?_
      refine r_zret C 15 rfl dX5_in_15 (Nat.le_refl _) (Nat.le_refl _) ?_
      first | exact ⟨by rw [inR_a c_2], rfl⟩ | exact ⟨by rw [inR_b c_7], rfl⟩ | exact ⟨by rw [inR_c c_2 c_7], rfl⟩
theorem k5_gradeBy (hX : Xok X) (ws : va_W) (v : Int32)  : Cn D ar X yX5_gradeBy cX5_gradeBy 1 (some .int) 0 0 0 0 [.int v] ws (fun r w => r = some (.int (gradeN v)) ∧ w = ws) := by
  refine Cn.of (own := RX5) hX (by decide) rfl (Nat.le_of_ble_eq_true rfl) (fun j C => ?_)
  have C0 := C.to
  show j _ 0 0 0 [(0, _)] []
  refine r_iload_n C0 0 0 dX5_gradeBy_0 rfl rfl ?_
  refine r_bipush C0 1 43 dX5_gradeBy_1 (by decide) ?_
  refine r_icmp_ge C0 3 10 dX5_gradeBy_3 (by decide) (fun c_3 => ?_) (fun c_3 => ?_)
  · refine r_iload_n C0 10 0 dX5_gradeBy_10 rfl rfl ?_
    refine r_bipush C0 11 48 dX5_gradeBy_11 (by decide) ?_
    refine r_icmp_ge C0 13 20 dX5_gradeBy_13 (by decide) (fun c_13 => ?_) (fun c_13 => ?_)
    · refine r_iload_n C0 20 0 dX5_gradeBy_20 rfl rfl ?_
      refine r_bipush C0 21 53 dX5_gradeBy_21 (by decide) ?_
      refine r_icmp_ge C0 23 30 dX5_gradeBy_23 (by decide) (fun c_23 => ?_) (fun c_23 => ?_)
      · refine r_iload_n C0 30 0 dX5_gradeBy_30 rfl rfl ?_
        refine r_bipush C0 31 58 dX5_gradeBy_31 (by decide) ?_
        refine r_icmp_ge C0 33 40 dX5_gradeBy_33 (by decide) (fun c_33 => ?_) (fun c_33 => ?_)
        · refine r_iload_n C0 40 0 dX5_gradeBy_40 rfl rfl ?_
          refine r_bipush C0 41 63 dX5_gradeBy_41 (by decide) ?_
          refine r_icmp_ge C0 43 50 dX5_gradeBy_43 (by decide) (fun c_43 => ?_) (fun c_43 => ?_)
          · refine r_iconst C0 50 5 dX5_gradeBy_50 (by decide) ?_
            refine r_iret C 51 dX5_gradeBy_51 (Nat.le_refl _) (Nat.le_refl _) ?_
            exact ⟨by simp [gradeN, *], rfl⟩
          · refine r_iconst C0 46 4 dX5_gradeBy_46 (by decide) ?_
            refine r_goto C0 47 51 dX5_gradeBy_47 (by decide) ?_
            refine r_iret C 51 dX5_gradeBy_51 (Nat.le_refl _) (Nat.le_refl _) ?_
            exact ⟨by simp [gradeN, *], rfl⟩
        · refine r_iconst C0 36 3 dX5_gradeBy_36 (by decide) ?_
          refine r_goto C0 37 51 dX5_gradeBy_37 (by decide) ?_
          refine r_iret C 51 dX5_gradeBy_51 (Nat.le_refl _) (Nat.le_refl _) ?_
          exact ⟨by simp [gradeN, *], rfl⟩
      · refine r_iconst C0 26 2 dX5_gradeBy_26 (by decide) ?_
        refine r_goto C0 27 51 dX5_gradeBy_27 (by decide) ?_
        refine r_iret C 51 dX5_gradeBy_51 (Nat.le_refl _) (Nat.le_refl _) ?_
        exact ⟨by simp [gradeN, *], rfl⟩
    · refine r_iconst C0 16 1 dX5_gradeBy_16 (by decide) ?_
      refine r_goto C0 17 51 dX5_gradeBy_17 (by decide) ?_
      refine r_iret C 51 dX5_gradeBy_51 (Nat.le_refl _) (Nat.le_refl _) ?_
      exact ⟨by simp [gradeN, *], rfl⟩
  · refine r_iconst C0 6 0 dX5_gradeBy_6 (by decide) ?_
    refine r_goto C0 7 51 dX5_gradeBy_7 (by decide) ?_
    refine r_iret C 51 dX5_gradeBy_51 (Nat.le_refl _) (Nat.le_refl _) ?_
    exact ⟨by simp [gradeN, *], rfl⟩
theorem k5_dull (hX : Xok X) (ws : va_W) (t : Int32)  : Cn D ar X yX5_dull cX5_dull 1 (some .int) 0 0 0 0 [.int t] ws (fun r w => r = some (.int (dullN t)) ∧ w = ws) := by
  refine Cn.of (own := RX5) hX (by decide) rfl (Nat.le_of_ble_eq_true rfl) (fun j C => ?_)
  have C0 := C.to
  show j _ 0 0 0 [(0, _)] []
  refine r_iload_n C0 0 0 dX5_dull_0 rfl rfl ?_
  refine r_iconst C0 1 1 dX5_dull_1 (by decide) ?_
  refine r_iand C0 2 dX5_dull_2 ?_
  refine r_iload_n C0 3 0 dX5_dull_3 rfl rfl ?_
  refine r_iconst C0 4 1 dX5_dull_4 (by decide) ?_
  refine r_ishr C0 5 dX5_dull_5 ?_
  refine r_iconst C0 6 1 dX5_dull_6 (by decide) ?_
  refine r_iand C0 7 dX5_dull_7 ?_
  refine r_iadd C0 8 dX5_dull_8 ?_
  refine r_iload_n C0 9 0 dX5_dull_9 rfl rfl ?_
  refine r_iconst C0 10 2 dX5_dull_10 (by decide) ?_
  refine r_ishr C0 11 dX5_dull_11 ?_
  refine r_iconst C0 12 1 dX5_dull_12 (by decide) ?_
  refine r_iand C0 13 dX5_dull_13 ?_
  refine r_iadd C0 14 dX5_dull_14 ?_
  refine r_iload_n C0 15 0 dX5_dull_15 rfl rfl ?_
  refine r_iconst C0 16 3 dX5_dull_16 (by decide) ?_
  refine r_ishr C0 17 dX5_dull_17 ?_
  refine r_iconst C0 18 1 dX5_dull_18 (by decide) ?_
  refine r_iand C0 19 dX5_dull_19 ?_
  refine r_iadd C0 20 dX5_dull_20 ?_
  refine r_iret C 21 dX5_dull_21 (Nat.le_refl _) (Nat.le_refl _) ?_
  exact ⟨rfl, rfl⟩
theorem k5_isPacker (hX : Xok X) (ws : va_W) (v : Int32)  : Cn D ar X yX5_isPacker cX5_isPacker 1 (some .boolean) 1 22 0 0 [.int v] ws (fun r w => r = some (.int (inR v 0 3)) ∧ w = ws) := by
  refine Cn.of (own := RX5) hX (by decide) rfl (Nat.le_of_ble_eq_true rfl) (fun j C => ?_)
  have C0 := C.to
  show j _ 0 0 0 [(0, _)] []
  refine r_iload_n C0 0 0 dX5_isPacker_0 rfl rfl ?_
  refine r_iconst C0 1 0 dX5_isPacker_1 (by decide) ?_
  refine r_iconst C0 2 3 dX5_isPacker_2 (by decide) ?_
  refine s_call (As := [.int _, .int _, .int _]) C0 3 3 (k5_in hX _ _ _ _) (rm5_in (by decide) (by decide) (Nat.le_refl _) (Nat.le_refl _)) ml5_102 st5_in rfl (Nat.le_of_ble_eq_true rfl) dX5_isPacker_3 ?_
  rintro _ _ ⟨rfl, rfl⟩
  refine r_zret C 6 inR_nar dX5_isPacker_6 (Nat.le_refl _) (Nat.le_refl _) ?_
  exact ⟨rfl, rfl⟩
theorem k5_isPack (hX : Xok X) (v : Int32)  : Cn D ar X yX5_isPack cX5_isPack 2 (some .boolean) 1 22 0 0 [.ref h1, .int v] (mW ar h1 ad M T) (fun r w => r = some (.int (inR v 0 (M 21 0 - 1))) ∧ w = mW ar h1 ad M T) := by
  refine Cn.of (own := RX5) hX (by decide) rfl (Nat.le_of_ble_eq_true rfl) (fun j C => ?_)
  have C0 := C.to
  show j _ 0 0 0 [(0, _), (1, _)] []
  refine r_iload_n C0 0 1 dX5_isPack_0 rfl rfl ?_
  refine r_iconst C0 1 0 dX5_isPack_1 (by decide) ?_
  refine r_aload_n C0 2 0 dX5_isPack_2 rfl rfl ?_
  refine m_getI C0 3 21 rfl fl5_135 rfl dX5_isPack_3 ?_
  refine r_iconst C0 6 1 dX5_isPack_6 (by decide) ?_
  refine r_isub C0 7 dX5_isPack_7 ?_
  refine s_call (As := [.int _, .int _, .int _]) C0 8 3 (k5_in hX _ _ _ _) (rm5_in (by decide) (by decide) (Nat.le_refl _) (Nat.le_refl _)) ml5_102 st5_in rfl (Nat.le_of_ble_eq_true rfl) dX5_isPack_8 ?_
  rintro _ _ ⟨rfl, rfl⟩
  refine r_zret C 11 inR_nar dX5_isPack_11 (Nat.le_refl _) (Nat.le_refl _) ?_
  exact ⟨rfl, rfl⟩
theorem k5_trace (hX : Xok X)   : Cn D ar X yX5_trace cX5_trace 1 (some .long) 0 0 0 0 [.ref h1] (mW ar h1 ad M T) (fun r w => r = some (.long T) ∧ w = mW ar h1 ad M T) := by
  refine Cn.of (own := RX5) hX (by decide) rfl (Nat.le_of_ble_eq_true rfl) (fun j C => ?_)
  have C0 := C.to
  show j _ 0 0 0 [(0, _)] []
  refine r_aload_n C0 0 0 dX5_trace_0 rfl rfl ?_
  refine m_getT C0 1 fl5_112 dX5_trace_1 ?_
  refine r_lret C 4 dX5_trace_4 (Nat.le_refl _) (Nat.le_refl _) ?_
  exact ⟨rfl, rfl⟩
theorem k5_drift (hX : Xok X) (v : Int32)  : Cn D ar X yX5_drift cX5_drift 3 (some .int) 1 22 0 0 [.ref h1, .int v] (mW ar h1 ad M T) (fun r w => r = some (.int (if inR v (-9) 9 = 0 then -1000 else M 36 0)) ∧ w = mW ar h1 ad (if inR v (-9) 9 = 0 then M else up2 M 36 0 v) T) := by
  refine Cn.of (own := RX5) hX (by decide) rfl (Nat.le_of_ble_eq_true rfl) (fun j C => ?_)
  have C0 := C.to
  show j _ 0 0 0 [(0, _), (1, _)] []
  refine r_iload_n C0 0 1 dX5_drift_0 rfl rfl ?_
  refine r_bipush C0 1 (-9) dX5_drift_1 (by decide) ?_
  refine r_bipush C0 3 9 dX5_drift_3 (by decide) ?_
  refine s_call (As := [.int _, .int _, .int _]) C0 5 3 (k5_in hX _ _ _ _) (rm5_in (by decide) (by decide) (Nat.le_refl _) (Nat.le_refl _)) ml5_102 st5_in rfl (Nat.le_of_ble_eq_true rfl) dX5_drift_5 ?_
  rintro _ _ ⟨rfl, rfl⟩
  refine r_if_ne C0 8 15 dX5_drift_8 (by decide) (fun c_8 => ?_) (fun c_8 => ?_)
  · refine r_aload_n C0 15 0 dX5_drift_15 rfl rfl ?_
    refine m_getI C0 16 36 rfl fl5_144 rfl dX5_drift_16 ?_
    refine r_istore_n (lv' := [(0, _), (1, _), (2, _)]) C0 19 2 dX5_drift_19 rfl rfl (by decide) rfl ?_
    refine r_aload_n C0 20 0 dX5_drift_20 rfl rfl ?_
    refine r_iload_n C0 21 1 dX5_drift_21 rfl rfl ?_
    refine m_put C0 22 36 rfl fl5_144 rfl dX5_drift_22 ?_
    refine r_iload_n C0 25 2 dX5_drift_25 rfl rfl ?_
    refine r_iret C 26 dX5_drift_26 (Nat.le_refl _) (Nat.le_refl _) ?_
    exact ⟨by simp [inR_0.symm, *], by simp [inR_0.symm, *]⟩
  · refine r_sipush C0 11 (-1000) dX5_drift_11 (by decide) ?_
    refine r_iret C 14 dX5_drift_14 (Nat.le_refl _) (Nat.le_refl _) ?_
    exact ⟨by simp [inR_0.symm, *], by simp [inR_0.symm, *]⟩
end M5
end
section
/-! the model: what its methods answer (pure), and the methods with loops over packs and orders -/
theorem loopUp {P : Nat} {f : Nat → Prop} (step : ∀ i, i ≤ P → (i < P → f (i + 1)) → f i) : ∀ i, i ≤ P → f i := by
  have h : ∀ d i, i + d = P → f i := by
    intro d
    induction d with
    | zero => intro i hi; exact step i (by omega) (fun q => by omega)
    | succ d ih => intro i hi; exact step i (by omega) (fun _ => ih (i + 1) (by omega))
  intro i hi
  exact h (P - i) i (by omega)
theorem inR_x {v b : Int32} {n : Nat} (hb : b.toInt = n) (h : ¬ inR v 0 b = 0) : ∃ x : Nat, x ≤ n ∧ v = nI x := by
  have h1 : 0 ≤ v ∧ v ≤ b := Classical.byContradiction (fun q => h (inR_0.mpr q))
  exact nI_of2 hb (Int32.not_lt.mpr h1.1) h1.2
theorem nI_m1 {P : Nat} (hP : P < 2 ^ 30) : (nI P - 1).toInt = (P : Int) - 1 := by
  have h := pk_sub_toInt (a := P) (b := 1) hP (by decide)
  exact h
theorem inR_p {v : Int32} {P : Nat} (hP : P < 2 ^ 30) (h : ¬ inR v 0 (nI P - 1) = 0) : ∃ x : Nat, x < P ∧ v = nI x := by
  have h1 : 0 ≤ v ∧ v ≤ nI P - 1 := Classical.byContradiction (fun q => h (inR_0.mpr q))
  have h2 := Int32.le_iff_toInt_le.mp h1.2
  rw [nI_m1 hP] at h2
  have h3 := Int32.le_iff_toInt_le.mp h1.1
  have h4 : (0 : Int32).toInt = 0 := rfl
  rw [h4] at h3
  obtain ⟨x, hx, e⟩ := nI_of2 (x := v) (M := nI (P - 1)) (n := P - 1) (nI_toInt (by omega)) (Int32.not_lt.mpr h1.1) (Int32.le_iff_toInt_le.mpr (by rw [nI_toInt (by omega)]; omega))
  exact ⟨x, by omega, e⟩
def isFr (M : Nat → Nat → Int32) (x : Nat) : Int32 := if M 28 x = -9 then if M 29 x = 0 then 1 else 0 else 0
def fr1 (M : Nat → Nat → Int32) (g : Int32) (x : Nat) : Int32 := if M 22 x = g then if isFr M x = 0 then 0 else 1 else 0
def freeN (M : Nat → Nat → Int32) (g : Int32) : Nat → Int32
  | 0 => 0
  | p + 1 => freeN M g p + fr1 M g p
def bitN (s : Int32) (o : Nat) : Int32 := (s >>> (nI o &&& 31)) &&& 1
def wo1 (M : Nat → Nat → Int32) (s : Int32) (o : Nat) : Int32 := if bitN s o = 1 then M 33 o else 0
def worthN (M : Nat → Nat → Int32) (s : Int32) : Nat → Int32
  | 0 => 0
  | o + 1 => worthN M s o + wo1 M s o
def wa1 (M : Nat → Nat → Int32) (s g : Int32) (o : Nat) : Int32 := if bitN s o = 1 then if M 31 o = g then M 32 o else 0 else 0
def wantN (M : Nat → Nat → Int32) (s g : Int32) : Nat → Int32
  | 0 => 0
  | o + 1 => wantN M s g o + wa1 M s g o
def can1 (M : Nat → Nat → Int32) (s : Int32) (P O g : Nat) (c : Int32) : Int32 := if c = 0 then 0 else if freeN M (nI g) P < wantN M s (nI g) O then 0 else 1
def canA (M : Nat → Nat → Int32) (s : Int32) (P O : Nat) : Nat → Int32
  | 0 => 1
  | g + 1 => can1 M s P O g (canA M s P O g)
def can2 (M : Nat → Nat → Int32) (s : Int32) (o : Nat) (c : Int32) : Int32 := if c = 0 then 0 else if bitN s o = 0 then 1 else if M 34 o = 0 then 1 else 0
def canB (M : Nat → Nat → Int32) (s : Int32) (P O : Nat) : Nat → Int32
  | 0 => canA M s P O 6
  | o + 1 => can2 M s o (canB M s P O o)
def bs1 (M : Nat → Nat → Int32) (P O s : Nat) (b : Int32) : Int32 := if canB M (nI s) P O O = 0 then b else if worthN M (nI s) O ≤ worthN M b O then b else nI s
def bestN (M : Nat → Nat → Int32) (P O : Nat) : Nat → Int32
  | 0 => 0
  | s + 1 => bs1 M P O (s + 1) (bestN M P O s)
theorem can1_01 {M : Nat → Nat → Int32} {s : Int32} {P O g : Nat} {c : Int32} : can1 M s P O g c = 0 ∨ can1 M s P O g c = 1 := by
  unfold can1
  by_cases h : c = 0
  · rw [if_pos h]; exact Or.inl rfl
  · rw [if_neg h]
    by_cases h2 : freeN M (nI g) P < wantN M s (nI g) O
    · rw [if_pos h2]; exact Or.inl rfl
    · rw [if_neg h2]; exact Or.inr rfl
theorem canA_01 {M : Nat → Nat → Int32} {s : Int32} {P O : Nat} : ∀ {g : Nat}, canA M s P O g = 0 ∨ canA M s P O g = 1
  | 0 => Or.inr rfl
  | _ + 1 => can1_01
theorem can2_01 {M : Nat → Nat → Int32} {s : Int32} {o : Nat} {c : Int32} : can2 M s o c = 0 ∨ can2 M s o c = 1 := by
  unfold can2
  by_cases h : c = 0
  · rw [if_pos h]; exact Or.inl rfl
  · rw [if_neg h]
    by_cases h2 : bitN s o = 0
    · rw [if_pos h2]; exact Or.inr rfl
    · rw [if_neg h2]
      by_cases h3 : M 34 o = 0
      · rw [if_pos h3]; exact Or.inr rfl
      · rw [if_neg h3]; exact Or.inl rfl
theorem canB_01 {M : Nat → Nat → Int32} {s : Int32} {P O : Nat} : ∀ {o : Nat}, canB M s P O o = 0 ∨ canB M s P O o = 1
  | 0 => canA_01
  | _ + 1 => can2_01
theorem nar01 {v : Int32} (h : v = 0 ∨ v = 1) : narrow .boolean (.int v) = .int v := by
  rcases h with rfl | rfl <;> rfl
theorem isFr_01 {M : Nat → Nat → Int32} {x : Nat} : isFr M x = 0 ∨ isFr M x = 1 := by
  unfold isFr
  by_cases h : M 28 x = -9
  · rw [if_pos h]
    by_cases h2 : M 29 x = 0
    · rw [if_pos h2]; exact Or.inr rfl
    · rw [if_neg h2]; exact Or.inl rfl
  · rw [if_neg h]; exact Or.inl rfl
theorem shl6 : ∀ {O : Nat}, O ≤ 6 → (1 : Int32) <<< (nI O &&& 31) = nI (2 ^ O)
  | 0, _ => by decide
  | 1, _ => by decide
  | 2, _ => by decide
  | 3, _ => by decide
  | 4, _ => by decide
  | 5, _ => by decide
  | 6, _ => by decide
  | n + 7, h => absurd h (by omega)
theorem pow6 : ∀ {O : Nat}, O ≤ 6 → 1 ≤ 2 ^ O ∧ 2 ^ O ≤ 64
  | 0, _ => by decide
  | 1, _ => by decide
  | 2, _ => by decide
  | 3, _ => by decide
  | 4, _ => by decide
  | 5, _ => by decide
  | 6, _ => by decide
  | n + 7, h => absurd h (by omega)

/-- locals may be forgotten: the shorter list holds of the longer one's -/
theorem r_drop {own : String} {cc : ByteArray} {nL : Nat} {D : va_G} {ar : Nat → ClassId} {X : XT} {R : Room} {j : jT} {ws : va_W} {k n pc : Nat} {lv lv' : List (Nat × Value)} {st : List Value} (C : Cx0 own cc nL D ar X R j) (h : ∀ q ∈ lv', q ∈ lv) (kk : j ws k n pc lv' st) : j ws k n pc lv st := by
  obtain ⟨p, l, e, s, m, args, below, meth, c, A, Q, hz, rfl⟩ := C
  intro H locs ls hP hD hS hl
  exact kk H locs ls hP hD hS ⟨hl.1, hl.2.1, fun q hq => hl.2.2 q (h q hq)⟩
section M6
variable {D : va_G} {ar : Nat → ClassId} {X : XT} {h1 : Nat} {ad : Nat → Nat} {M : Nat → Nat → Int32} {T : Int64}
set_option maxRecDepth 100000 in
theorem k5_isFree (hX : Xok X) {x : Nat} (hx : x < 60)  : Cn D ar X yX5_isFree cX5_isFree 2 (some .boolean) 0 0 0 0 [.ref h1, .int (nI x)] (mW ar h1 ad M T) (fun r w => r = some (.int (isFr M x)) ∧ w = mW ar h1 ad M T) := by
  refine Cn.of (own := RX5) hX (by decide) rfl (Nat.le_of_ble_eq_true rfl) (fun j C => ?_)
  have C0 := C.to
  show j _ 0 0 0 [(0, _), (1, _)] []
  refine r_aload_n C0 0 0 dX5_isFree_0 rfl rfl ?_
  refine m_getA C0 1 28 (by decide) fl5_80 rfl dX5_isFree_1 ?_
  refine r_iload_n C0 4 1 dX5_isFree_4 rfl rfl ?_
  refine m_ld C0 5 x rfl rfl hx dX5_isFree_5 ?_
  refine r_bipush C0 6 (-9) dX5_isFree_6 (by decide) ?_
  refine r_icmp_ne C0 8 24 dX5_isFree_8 (by decide) (fun c_8 => ?_) (fun c_8 => ?_)
  · refine r_iconst C0 24 0 dX5_isFree_24 (by decide) ?_
    refine r_zret C 25 rfl dX5_isFree_25 (Nat.le_refl _) (Nat.le_refl _) ?_
    exact ⟨by simp [isFr, *], rfl⟩
  · refine r_aload_n C0 11 0 dX5_isFree_11 rfl rfl ?_
    refine m_getA C0 12 29 (by decide) fl5_83 rfl dX5_isFree_12 ?_
    refine r_iload_n C0 15 1 dX5_isFree_15 rfl rfl ?_
    refine m_ldz C0 16 x rfl rfl hx dX5_isFree_16 ?_
    refine r_if_ne C0 17 24 dX5_isFree_17 (by decide) (fun c_17 => ?_) (fun c_17 => ?_)
    · refine r_iconst C0 24 0 dX5_isFree_24 (by decide) ?_
      refine r_zret C 25 rfl dX5_isFree_25 (Nat.le_refl _) (Nat.le_refl _) ?_
      exact ⟨by simp [isFr, *], rfl⟩
    · refine r_iconst C0 20 1 dX5_isFree_20 (by decide) ?_
      refine r_goto C0 21 25 dX5_isFree_21 (by decide) ?_
      refine r_zret C 25 rfl dX5_isFree_25 (Nat.le_refl _) (Nat.le_refl _) ?_
      exact ⟨by simp [isFr, *], rfl⟩
set_option maxRecDepth 100000 in
theorem k5_freeOf (hX : Xok X) {P : Nat} (hP : M 21 0 = nI P) (hP6 : P ≤ 60) (g : Int32)  : Cn D ar X yX5_freeOf cX5_freeOf 4 (some .int) 1 21 0 0 [.ref h1, .int g] (mW ar h1 ad M T) (fun r w => r = some (.int (freeN M g P)) ∧ w = mW ar h1 ad M T) := by
  refine Cn.of (own := RX5) hX (by decide) rfl (Nat.le_of_ble_eq_true rfl) (fun j C => ?_)
  have C0 := C.to
  show j _ 0 0 0 [(0, _), (1, _)] []
  refine r_iconst C0 0 0 dX5_freeOf_0 (by decide) ?_
  refine r_istore_n (lv' := [(0, _), (1, _), (2, _)]) C0 1 2 dX5_freeOf_1 rfl rfl (by decide) rfl ?_
  refine r_iconst C0 2 0 dX5_freeOf_2 (by decide) ?_
  refine r_istore_n (lv' := [(0, _), (1, _), (2, _), (3, _)]) C0 3 3 dX5_freeOf_3 rfl rfl (by decide) rfl ?_
  refine loopUp (P := P) (f := fun i => j (mW ar h1 ad M T) 0 0 4 [(0, .ref h1), (1, .int g), (2, .int (freeN M g i)), (3, .int (nI i))] []) (fun i hi ih => ?_) 0 (Nat.zero_le _)
  refine r_iload_n C0 4 3 dX5_freeOf_4 rfl rfl ?_
  refine r_aload_n C0 5 0 dX5_freeOf_5 rfl rfl ?_
  refine m_getI C0 6 21 rfl fl5_135 rfl dX5_freeOf_6 ?_
  refine r_icmp_ge C0 9 44 dX5_freeOf_9 (by decide) (fun c_9 => ?_) (fun c_9 => ?_)
  · have hge : P ≤ i := (nI_leI (by omega) (by omega)).mp (by rw [← hP]; exact c_9)
    refine r_iload_n C0 44 2 dX5_freeOf_44 rfl rfl ?_
    refine r_iret C 45 dX5_freeOf_45 (Nat.le_refl _) (Nat.le_refl _) ?_
    have e : i = P := by omega
    subst e
    exact ⟨rfl, rfl⟩
  · have hlt : i < P := Nat.lt_of_not_le (fun q => c_9 (by rw [hP]; exact nI_le q (by omega)))
    refine r_iload_n C0 12 2 dX5_freeOf_12 rfl rfl ?_
    refine r_aload_n C0 13 0 dX5_freeOf_13 rfl rfl ?_
    refine m_getA C0 14 22 (by decide) fl5_62 rfl dX5_freeOf_14 ?_
    refine r_iload_n C0 17 3 dX5_freeOf_17 rfl rfl ?_
    refine m_ld C0 18 i rfl rfl (show i < 60 by omega) dX5_freeOf_18 ?_
    refine r_iload_n C0 19 1 dX5_freeOf_19 rfl rfl ?_
    refine r_icmp_ne C0 20 35 dX5_freeOf_20 (by decide) (fun c_20 => ?_) (fun c_20 => ?_)
    · refine r_iconst C0 35 0 dX5_freeOf_35 (by decide) ?_
      refine r_iadd C0 36 dX5_freeOf_36 ?_
      refine r_istore_n (lv' := [(0, _), (1, _), (2, _), (3, _)]) C0 37 2 dX5_freeOf_37 rfl rfl (by decide) rfl ?_
      refine r_iinc (lv' := [(0, _), (1, _), (2, _), (3, _)]) C0 38 _ dX5_freeOf_38 rfl rfl rfl (by decide) rfl ?_
      refine r_goto C0 41 4 dX5_freeOf_41 (by decide) ?_
      simpa [freeN, fr1, nI_1, *] using ih hlt
    · refine r_aload_n C0 23 0 dX5_freeOf_23 rfl rfl ?_
      refine r_iload_n C0 24 3 dX5_freeOf_24 rfl rfl ?_
      refine m_call (As := [.int _]) C0 25 1 (k5_isFree hX (by omega)) (rm5_isFree (by decide) (by decide) (Nat.le_refl _) (Nat.le_refl _)) ml5_169 im5_isFree se5_isFree rfl (Nat.le_of_ble_eq_true rfl) dX5_freeOf_25 ?_
      rintro _ _ ⟨rfl, rfl⟩
      refine r_if_eq C0 28 35 dX5_freeOf_28 (by decide) (fun c_28 => ?_) (fun c_28 => ?_)
      · refine r_iconst C0 35 0 dX5_freeOf_35 (by decide) ?_
        refine r_iadd C0 36 dX5_freeOf_36 ?_
        refine r_istore_n (lv' := [(0, _), (1, _), (2, _), (3, _)]) C0 37 2 dX5_freeOf_37 rfl rfl (by decide) rfl ?_
        refine r_iinc (lv' := [(0, _), (1, _), (2, _), (3, _)]) C0 38 _ dX5_freeOf_38 rfl rfl rfl (by decide) rfl ?_
        refine r_goto C0 41 4 dX5_freeOf_41 (by decide) ?_
        simpa [freeN, fr1, nI_1, *] using ih hlt
      · refine r_iconst C0 31 1 dX5_freeOf_31 (by decide) ?_
        refine r_goto C0 32 36 dX5_freeOf_32 (by decide) ?_
        refine r_iadd C0 36 dX5_freeOf_36 ?_
        refine r_istore_n (lv' := [(0, _), (1, _), (2, _), (3, _)]) C0 37 2 dX5_freeOf_37 rfl rfl (by decide) rfl ?_
        refine r_iinc (lv' := [(0, _), (1, _), (2, _), (3, _)]) C0 38 _ dX5_freeOf_38 rfl rfl rfl (by decide) rfl ?_
        refine r_goto C0 41 4 dX5_freeOf_41 (by decide) ?_
        simpa [freeN, fr1, nI_1, *] using ih hlt
def freeA (M : Nat → Nat → Int32) (P : Nat) (g : Int32) : Int32 := if inR g 0 5 = 0 then -1 else freeN M g P
set_option maxRecDepth 100000 in
theorem k5_free (hX : Xok X) {P : Nat} (hP : M 21 0 = nI P) (hP6 : P ≤ 60) (g : Int32)  : Cn D ar X yX5_free cX5_free 2 (some .int) 2 44 0 0 [.ref h1, .int g] (mW ar h1 ad M T) (fun r w => r = some (.int (freeA M P g)) ∧ w = mW ar h1 ad M T) := by
  refine Cn.of (own := RX5) hX (by decide) rfl (Nat.le_of_ble_eq_true rfl) (fun j C => ?_)
  have C0 := C.to
  show j _ 0 0 0 [(0, _), (1, _)] []
  refine r_iload_n C0 0 1 dX5_free_0 rfl rfl ?_
  refine r_iconst C0 1 0 dX5_free_1 (by decide) ?_
  refine r_iconst C0 2 5 dX5_free_2 (by decide) ?_
  refine s_call (As := [.int _, .int _, .int _]) C0 3 3 (k5_in hX _ _ _ _) (rm5_in (by decide) (by decide) (Nat.le_refl _) (Nat.le_refl _)) ml5_102 st5_in rfl (Nat.le_of_ble_eq_true rfl) dX5_free_3 ?_
  rintro _ _ ⟨rfl, rfl⟩
  refine r_if_eq C0 6 17 dX5_free_6 (by decide) (fun c_6 => ?_) (fun c_6 => ?_)
  · refine r_iconst C0 17 (-1) dX5_free_17 (by decide) ?_
    refine r_iret C 18 dX5_free_18 (Nat.le_refl _) (Nat.le_refl _) ?_
    exact ⟨by simp [freeA, *], rfl⟩
  · refine r_aload_n C0 9 0 dX5_free_9 rfl rfl ?_
    refine r_iload_n C0 10 1 dX5_free_10 rfl rfl ?_
    refine m_call (As := [.int _]) C0 11 1 (k5_freeOf hX hP hP6 _) (rm5_freeOf (by decide) (by decide) (Nat.le_refl _) (Nat.le_refl _)) ml5_172 im5_freeOf se5_freeOf rfl (Nat.le_of_ble_eq_true rfl) dX5_free_11 ?_
    rintro _ _ ⟨rfl, rfl⟩
    refine r_goto C0 14 18 dX5_free_14 (by decide) ?_
    refine r_iret C 18 dX5_free_18 (Nat.le_refl _) (Nat.le_refl _) ?_
    exact ⟨by simp [freeA, *], rfl⟩
set_option maxRecDepth 100000 in
theorem k5_worthOf (hX : Xok X) {O : Nat} (hO : M 30 0 = nI O) (hO6 : O ≤ 6) (z : Int32)  : Cn D ar X yX5_worthOf cX5_worthOf 4 (some .int) 0 0 0 0 [.ref h1, .int z] (mW ar h1 ad M T) (fun r w => r = some (.int (worthN M z O)) ∧ w = mW ar h1 ad M T) := by
  refine Cn.of (own := RX5) hX (by decide) rfl (Nat.le_of_ble_eq_true rfl) (fun j C => ?_)
  have C0 := C.to
  show j _ 0 0 0 [(0, _), (1, _)] []
  refine r_iconst C0 0 0 dX5_worthOf_0 (by decide) ?_
  refine r_istore_n (lv' := [(0, _), (1, _), (2, _)]) C0 1 2 dX5_worthOf_1 rfl rfl (by decide) rfl ?_
  refine r_iconst C0 2 0 dX5_worthOf_2 (by decide) ?_
  refine r_istore_n (lv' := [(0, _), (1, _), (2, _), (3, _)]) C0 3 3 dX5_worthOf_3 rfl rfl (by decide) rfl ?_
  refine loopUp (P := O) (f := fun i => j (mW ar h1 ad M T) 0 0 4 [(0, .ref h1), (1, .int z), (2, .int (worthN M z i)), (3, .int (nI i))] []) (fun i hi ih => ?_) 0 (Nat.zero_le _)
  refine r_iload_n C0 4 3 dX5_worthOf_4 rfl rfl ?_
  refine r_aload_n C0 5 0 dX5_worthOf_5 rfl rfl ?_
  refine m_getI C0 6 30 rfl fl5_175 rfl dX5_worthOf_6 ?_
  refine r_icmp_ge C0 9 40 dX5_worthOf_9 (by decide) (fun c_9 => ?_) (fun c_9 => ?_)
  · have hge : O ≤ i := (nI_leI (by omega) (by omega)).mp (by rw [← hO]; exact c_9)
    refine r_iload_n C0 40 2 dX5_worthOf_40 rfl rfl ?_
    refine r_iret C 41 dX5_worthOf_41 (Nat.le_refl _) (Nat.le_refl _) ?_
    have e : i = O := by omega
    subst e
    exact ⟨rfl, rfl⟩
  · have hlt : i < O := Nat.lt_of_not_le (fun q => c_9 (by rw [hO]; exact nI_le q (by omega)))
    refine r_iload_n C0 12 2 dX5_worthOf_12 rfl rfl ?_
    refine r_iload_n C0 13 1 dX5_worthOf_13 rfl rfl ?_
    refine r_iload_n C0 14 3 dX5_worthOf_14 rfl rfl ?_
    refine r_ishr C0 15 dX5_worthOf_15 ?_
    refine r_iconst C0 16 1 dX5_worthOf_16 (by decide) ?_
    refine r_iand C0 17 dX5_worthOf_17 ?_
    refine r_iconst C0 18 1 dX5_worthOf_18 (by decide) ?_
    refine r_icmp_ne C0 19 31 dX5_worthOf_19 (by decide) (fun c_19 => ?_) (fun c_19 => ?_)
    · refine r_iconst C0 31 0 dX5_worthOf_31 (by decide) ?_
      refine r_iadd C0 32 dX5_worthOf_32 ?_
      refine r_istore_n (lv' := [(0, _), (1, _), (2, _), (3, _)]) C0 33 2 dX5_worthOf_33 rfl rfl (by decide) rfl ?_
      refine r_iinc (lv' := [(0, _), (1, _), (2, _), (3, _)]) C0 34 _ dX5_worthOf_34 rfl rfl rfl (by decide) rfl ?_
      refine r_goto C0 37 4 dX5_worthOf_37 (by decide) ?_
      simpa [worthN, wo1, bitN, nI_1, *] using ih hlt
    · refine r_aload_n C0 22 0 dX5_worthOf_22 rfl rfl ?_
      refine m_getA C0 23 33 (by decide) fl5_92 rfl dX5_worthOf_23 ?_
      refine r_iload_n C0 26 3 dX5_worthOf_26 rfl rfl ?_
      refine m_ld C0 27 i rfl rfl (show i < 6 by omega) dX5_worthOf_27 ?_
      refine r_goto C0 28 32 dX5_worthOf_28 (by decide) ?_
      refine r_iadd C0 32 dX5_worthOf_32 ?_
      refine r_istore_n (lv' := [(0, _), (1, _), (2, _), (3, _)]) C0 33 2 dX5_worthOf_33 rfl rfl (by decide) rfl ?_
      refine r_iinc (lv' := [(0, _), (1, _), (2, _), (3, _)]) C0 34 _ dX5_worthOf_34 rfl rfl rfl (by decide) rfl ?_
      refine r_goto C0 37 4 dX5_worthOf_37 (by decide) ?_
      simpa [worthN, wo1, bitN, nI_1, *] using ih hlt
set_option maxRecDepth 100000 in
theorem k5_canServe (hX : Xok X) {P O : Nat} (hP : M 21 0 = nI P) (hP6 : P ≤ 60) (hO : M 30 0 = nI O) (hO6 : O ≤ 6) (z : Int32)  : Cn D ar X yX5_canServe cX5_canServe 6 (some .boolean) 2 44 0 0 [.ref h1, .int z] (mW ar h1 ad M T) (fun r w => r = some (.int (canB M z P O O)) ∧ w = mW ar h1 ad M T) := by
  refine Cn.of (own := RX5) hX (by decide) rfl (Nat.le_of_ble_eq_true rfl) (fun j C => ?_)
  have C0 := C.to
  show j _ 0 0 0 [(0, _), (1, _)] []
  refine r_iconst C0 0 1 dX5_canServe_0 (by decide) ?_
  refine r_istore_n (lv' := [(0, _), (1, _), (2, _)]) C0 1 2 dX5_canServe_1 rfl rfl (by decide) rfl ?_
  refine r_iconst C0 2 0 dX5_canServe_2 (by decide) ?_
  refine r_istore_n (lv' := [(0, _), (1, _), (2, _), (3, _)]) C0 3 3 dX5_canServe_3 rfl rfl (by decide) rfl ?_
  refine loopUp (P := 6) (f := fun g => j (mW ar h1 ad M T) 0 0 4 [(0, .ref h1), (1, .int z), (2, .int (canA M z P O g)), (3, .int (nI g))] []) (fun g hi ih => ?_) 0 (Nat.zero_le _)
  refine r_iload_n C0 4 3 dX5_canServe_4 rfl rfl ?_
  refine r_bipush C0 5 6 dX5_canServe_5 (by decide) ?_
  refine r_icmp_ge C0 7 94 dX5_canServe_7 (by decide) (fun c_7 => ?_) (fun c_7 => ?_)
  · have hge : 6 ≤ g := (nI_leI (a := 6) (by omega) (by omega)).mp c_7
    refine r_iconst C0 94 0 dX5_canServe_94 (by decide) ?_
    refine r_istore_n (lv' := [(0, _), (1, _), (2, _), (3, _)]) C0 95 3 dX5_canServe_95 rfl rfl (by decide) rfl ?_
    have e8 : g = 6 := by omega
    subst e8
    refine loopUp (P := O) (f := fun i => j (mW ar h1 ad M T) 0 0 96 [(0, .ref h1), (1, .int z), (2, .int (canB M z P O i)), (3, .int (nI i))] []) (fun i hi ih2 => ?_) 0 (Nat.zero_le _)
    refine r_iload_n C0 96 3 dX5_canServe_96 rfl rfl ?_
    refine r_aload_n C0 97 0 dX5_canServe_97 rfl rfl ?_
    refine m_getI C0 98 30 rfl fl5_175 rfl dX5_canServe_98 ?_
    refine r_icmp_ge C0 101 137 dX5_canServe_101 (by decide) (fun c_101 => ?_) (fun c_101 => ?_)
    · have hge : O ≤ i := (nI_leI (by omega) (by omega)).mp (by rw [← hO]; exact c_101)
      refine r_iload_n C0 137 2 dX5_canServe_137 rfl rfl ?_
      refine r_zret C 138 (nar01 canB_01) dX5_canServe_138 (Nat.le_refl _) (Nat.le_refl _) ?_
      have e9 : i = O := by omega
      subst e9
      exact ⟨rfl, rfl⟩
    · have hlt : i < O := Nat.lt_of_not_le (fun q => c_101 (by rw [hO]; exact nI_le q (by omega)))
      refine r_iload_n C0 104 2 dX5_canServe_104 rfl rfl ?_
      refine r_if_eq C0 105 129 dX5_canServe_105 (by decide) (fun c_105 => ?_) (fun c_105 => ?_)
      · refine r_iconst C0 129 0 dX5_canServe_129 (by decide) ?_
        refine r_istore_n (lv' := [(0, _), (1, _), (2, _), (3, _)]) C0 130 2 dX5_canServe_130 rfl rfl (by decide) rfl ?_
        refine r_iinc (lv' := [(0, _), (1, _), (2, _), (3, _)]) C0 131 _ dX5_canServe_131 rfl rfl rfl (by decide) rfl ?_
        refine r_goto C0 134 96 dX5_canServe_134 (by decide) ?_
        simpa [canB, can2, bitN, nI_1, *] using ih2 hlt
      · refine r_iload_n C0 108 1 dX5_canServe_108 rfl rfl ?_
        refine r_iload_n C0 109 3 dX5_canServe_109 rfl rfl ?_
        refine r_ishr C0 110 dX5_canServe_110 ?_
        refine r_iconst C0 111 1 dX5_canServe_111 (by decide) ?_
        refine r_iand C0 112 dX5_canServe_112 ?_
        refine r_if_eq C0 113 125 dX5_canServe_113 (by decide) (fun c_113 => ?_) (fun c_113 => ?_)
        · refine r_iconst C0 125 1 dX5_canServe_125 (by decide) ?_
          refine r_goto C0 126 130 dX5_canServe_126 (by decide) ?_
          refine r_istore_n (lv' := [(0, _), (1, _), (2, _), (3, _)]) C0 130 2 dX5_canServe_130 rfl rfl (by decide) rfl ?_
          refine r_iinc (lv' := [(0, _), (1, _), (2, _), (3, _)]) C0 131 _ dX5_canServe_131 rfl rfl rfl (by decide) rfl ?_
          refine r_goto C0 134 96 dX5_canServe_134 (by decide) ?_
          simpa [canB, can2, bitN, nI_1, *] using ih2 hlt
        · refine r_aload_n C0 116 0 dX5_canServe_116 rfl rfl ?_
          refine m_getA C0 117 34 (by decide) fl5_95 rfl dX5_canServe_117 ?_
          refine r_iload_n C0 120 3 dX5_canServe_120 rfl rfl ?_
          refine m_ldz C0 121 i rfl rfl (show i < 6 by omega) dX5_canServe_121 ?_
          refine r_if_ne C0 122 129 dX5_canServe_122 (by decide) (fun c_122 => ?_) (fun c_122 => ?_)
          · refine r_iconst C0 129 0 dX5_canServe_129 (by decide) ?_
            refine r_istore_n (lv' := [(0, _), (1, _), (2, _), (3, _)]) C0 130 2 dX5_canServe_130 rfl rfl (by decide) rfl ?_
            refine r_iinc (lv' := [(0, _), (1, _), (2, _), (3, _)]) C0 131 _ dX5_canServe_131 rfl rfl rfl (by decide) rfl ?_
            refine r_goto C0 134 96 dX5_canServe_134 (by decide) ?_
            simpa [canB, can2, bitN, nI_1, *] using ih2 hlt
          · refine r_iconst C0 125 1 dX5_canServe_125 (by decide) ?_
            refine r_goto C0 126 130 dX5_canServe_126 (by decide) ?_
            refine r_istore_n (lv' := [(0, _), (1, _), (2, _), (3, _)]) C0 130 2 dX5_canServe_130 rfl rfl (by decide) rfl ?_
            refine r_iinc (lv' := [(0, _), (1, _), (2, _), (3, _)]) C0 131 _ dX5_canServe_131 rfl rfl rfl (by decide) rfl ?_
            refine r_goto C0 134 96 dX5_canServe_134 (by decide) ?_
            simpa [canB, can2, bitN, nI_1, *] using ih2 hlt
  · have hlt : g < 6 := Nat.lt_of_not_le (fun q => c_7 (nI_le (a := 6) q (by omega)))
    refine r_iconst C0 10 0 dX5_canServe_10 (by decide) ?_
    refine r_istore (lv' := [(0, _), (1, _), (2, _), (3, _), (4, _)]) C0 11 dX5_canServe_11 rfl (by decide) rfl ?_
    refine r_iconst C0 13 0 dX5_canServe_13 (by decide) ?_
    refine r_istore (lv' := [(0, _), (1, _), (2, _), (3, _), (4, _), (5, _)]) C0 14 dX5_canServe_14 rfl (by decide) rfl ?_
    refine loopUp (P := O) (f := fun i => j (mW ar h1 ad M T) 0 0 16 [(0, .ref h1), (1, .int z), (2, .int (canA M z P O g)), (3, .int (nI g)), (4, .int (wantN M z (nI g) i)), (5, .int (nI i))] []) (fun i hi ihi => ?_) 0 (Nat.zero_le _)
    refine r_iload C0 16 dX5_canServe_16 rfl ?_
    refine r_aload_n C0 18 0 dX5_canServe_18 rfl rfl ?_
    refine m_getI C0 19 30 rfl fl5_175 rfl dX5_canServe_19 ?_
    refine r_icmp_ge C0 22 68 dX5_canServe_22 (by decide) (fun c_22 => ?_) (fun c_22 => ?_)
    · have hge : O ≤ i := (nI_leI (by omega) (by omega)).mp (by rw [← hO]; exact c_22)
      have e9 : i = O := by omega
      subst e9
      refine r_iload_n C0 68 2 dX5_canServe_68 rfl rfl ?_
      refine r_if_eq C0 69 86 dX5_canServe_69 (by decide) (fun c_69 => ?_) (fun c_69 => ?_)
      · refine r_iconst C0 86 0 dX5_canServe_86 (by decide) ?_
        refine r_istore_n (lv' := [(0, _), (1, _), (2, _), (3, _), (4, _), (5, _)]) C0 87 2 dX5_canServe_87 rfl rfl (by decide) rfl ?_
        refine r_iinc (lv' := [(0, _), (1, _), (2, _), (3, _), (4, _), (5, _)]) C0 88 _ dX5_canServe_88 rfl rfl rfl (by decide) rfl ?_
        refine r_goto C0 91 4 dX5_canServe_91 (by decide) ?_
        have h9 := ih hlt
        refine r_drop C0 ?_ h9
        simp [canA, can1, nI_1, *]
      · refine r_iload C0 72 dX5_canServe_72 rfl ?_
        refine r_aload_n C0 74 0 dX5_canServe_74 rfl rfl ?_
        refine r_iload_n C0 75 3 dX5_canServe_75 rfl rfl ?_
        refine m_call (As := [.int _]) C0 76 1 (k5_freeOf hX hP hP6 _) (rm5_freeOf (by decide) (by decide) (Nat.le_refl _) (Nat.le_refl _)) ml5_172 im5_freeOf se5_freeOf rfl (Nat.le_of_ble_eq_true rfl) dX5_canServe_76 ?_
        rintro _ _ ⟨rfl, rfl⟩
        refine r_icmp_gt C0 79 86 dX5_canServe_79 (by decide) (fun c_79 => ?_) (fun c_79 => ?_)
        · refine r_iconst C0 86 0 dX5_canServe_86 (by decide) ?_
          refine r_istore_n (lv' := [(0, _), (1, _), (2, _), (3, _), (4, _), (5, _)]) C0 87 2 dX5_canServe_87 rfl rfl (by decide) rfl ?_
          refine r_iinc (lv' := [(0, _), (1, _), (2, _), (3, _), (4, _), (5, _)]) C0 88 _ dX5_canServe_88 rfl rfl rfl (by decide) rfl ?_
          refine r_goto C0 91 4 dX5_canServe_91 (by decide) ?_
          have h9 := ih hlt
          refine r_drop C0 ?_ h9
          simp [canA, can1, nI_1, *]
        · refine r_iconst C0 82 1 dX5_canServe_82 (by decide) ?_
          refine r_goto C0 83 87 dX5_canServe_83 (by decide) ?_
          refine r_istore_n (lv' := [(0, _), (1, _), (2, _), (3, _), (4, _), (5, _)]) C0 87 2 dX5_canServe_87 rfl rfl (by decide) rfl ?_
          refine r_iinc (lv' := [(0, _), (1, _), (2, _), (3, _), (4, _), (5, _)]) C0 88 _ dX5_canServe_88 rfl rfl rfl (by decide) rfl ?_
          refine r_goto C0 91 4 dX5_canServe_91 (by decide) ?_
          have h9 := ih hlt
          refine r_drop C0 ?_ h9
          simp [canA, can1, nI_1, *]
    · have hlti : i < O := Nat.lt_of_not_le (fun q => c_22 (by rw [hO]; exact nI_le q (by omega)))
      refine r_iload C0 25 dX5_canServe_25 rfl ?_
      refine r_iload_n C0 27 1 dX5_canServe_27 rfl rfl ?_
      refine r_iload C0 28 dX5_canServe_28 rfl ?_
      refine r_ishr C0 30 dX5_canServe_30 ?_
      refine r_iconst C0 31 1 dX5_canServe_31 (by decide) ?_
      refine r_iand C0 32 dX5_canServe_32 ?_
      refine r_iconst C0 33 1 dX5_canServe_33 (by decide) ?_
      refine r_icmp_ne C0 34 58 dX5_canServe_34 (by decide) (fun c_34 => ?_) (fun c_34 => ?_)
      · refine r_iconst C0 58 0 dX5_canServe_58 (by decide) ?_
        refine r_iadd C0 59 dX5_canServe_59 ?_
        refine r_istore (lv' := [(0, _), (1, _), (2, _), (3, _), (4, _), (5, _)]) C0 60 dX5_canServe_60 rfl (by decide) rfl ?_
        refine r_iinc (lv' := [(0, _), (1, _), (2, _), (3, _), (4, _), (5, _)]) C0 62 _ dX5_canServe_62 rfl rfl rfl (by decide) rfl ?_
        refine r_goto C0 65 16 dX5_canServe_65 (by decide) ?_
        simpa [wantN, wa1, bitN, nI_1, *] using ihi hlti
      · refine r_aload_n C0 37 0 dX5_canServe_37 rfl rfl ?_
        refine m_getA C0 38 31 (by decide) fl5_86 rfl dX5_canServe_38 ?_
        refine r_iload C0 41 dX5_canServe_41 rfl ?_
        refine m_ld C0 43 i rfl rfl (show i < 6 by omega) dX5_canServe_43 ?_
        refine r_iload_n C0 44 3 dX5_canServe_44 rfl rfl ?_
        refine r_icmp_ne C0 45 58 dX5_canServe_45 (by decide) (fun c_45 => ?_) (fun c_45 => ?_)
        · refine r_iconst C0 58 0 dX5_canServe_58 (by decide) ?_
          refine r_iadd C0 59 dX5_canServe_59 ?_
          refine r_istore (lv' := [(0, _), (1, _), (2, _), (3, _), (4, _), (5, _)]) C0 60 dX5_canServe_60 rfl (by decide) rfl ?_
          refine r_iinc (lv' := [(0, _), (1, _), (2, _), (3, _), (4, _), (5, _)]) C0 62 _ dX5_canServe_62 rfl rfl rfl (by decide) rfl ?_
          refine r_goto C0 65 16 dX5_canServe_65 (by decide) ?_
          simpa [wantN, wa1, bitN, nI_1, *] using ihi hlti
        · refine r_aload_n C0 48 0 dX5_canServe_48 rfl rfl ?_
          refine m_getA C0 49 32 (by decide) fl5_89 rfl dX5_canServe_49 ?_
          refine r_iload C0 52 dX5_canServe_52 rfl ?_
          refine m_ld C0 54 i rfl rfl (show i < 6 by omega) dX5_canServe_54 ?_
          refine r_goto C0 55 59 dX5_canServe_55 (by decide) ?_
          refine r_iadd C0 59 dX5_canServe_59 ?_
          refine r_istore (lv' := [(0, _), (1, _), (2, _), (3, _), (4, _), (5, _)]) C0 60 dX5_canServe_60 rfl (by decide) rfl ?_
          refine r_iinc (lv' := [(0, _), (1, _), (2, _), (3, _), (4, _), (5, _)]) C0 62 _ dX5_canServe_62 rfl rfl rfl (by decide) rfl ?_
          refine r_goto C0 65 16 dX5_canServe_65 (by decide) ?_
          simpa [wantN, wa1, bitN, nI_1, *] using ihi hlti
end M6
end
section
/-! the model: bestSet, best, serve, doubts, doubt, hours, clear, about, pack, told, order -/
theorem swc (n : Nat) (hn : n < 2 ^ 30) (x : Int32) : (∃ i : Nat, i < n ∧ x = nI i) ∨ (x.toInt < 0 ∨ (n : Int) - 1 < x.toInt) := by
  by_cases h : x < 0
  · exact Or.inr (Or.inl (by have := Int32.lt_iff_toInt_lt.mp h; simpa using this))
  · obtain ⟨i, hi, e⟩ := nI_of h
    by_cases h2 : i < n
    · exact Or.inl ⟨i, h2, e⟩
    · refine Or.inr (Or.inr ?_)
      rw [e, nI_toInt hi]
      omega
theorem swn {x c : Int32} {n : Nat} (h : x.toInt < 0 ∨ (n : Int) - 1 < x.toInt) (hc : 0 ≤ c.toInt ∧ c.toInt < n) : ¬ x = c := fun e => by
  subst e
  omega
def seq1 (M : Nat → Nat → Int32) (g o : Int32) (p : Nat) (s : (Nat → Nat → Int32) × Int32 × Int32) : (Nat → Nat → Int32) × Int32 × Int32 :=
  if s.2.1 ≤ 0 then s else if s.1 22 p = g then if isFr s.1 p = 0 then s else (up2 s.1 28 p o, s.2.1 + -1, s.2.2 + 1) else s
/-- one order served: the packs' owners, what it still wants, how many were sold in all -/
def selN (M : Nat → Nat → Int32) (g o lf sd : Int32) : Nat → (Nat → Nat → Int32) × Int32 × Int32
  | 0 => (M, lf, sd)
  | p + 1 => seq1 M g o p (selN M g o lf sd p)
/-- the orders of a set served, one by one -/
def serN (M : Nat → Nat → Int32) (z : Int32) (P : Nat) : Nat → (Nat → Nat → Int32) × Int32
  | 0 => (M, 0)
  | o + 1 => let s := serN M z P o
    if bitN z o = 1 then (up2 (selN s.1 (s.1 31 o) (nI o) (s.1 32 o) s.2 P).1 34 o 1, (selN s.1 (s.1 31 o) (nI o) (s.1 32 o) s.2 P).2.2) else s
def hd1 (M : Nat → Nat → Int32) (p : Nat) (hold : Int32) : Int32 := if M 29 p = 0 then if hold = 0 then 0 else if M 28 p = -9 then 1 else 0 else 1
def db1 (b f t hold : Int32) (p : Nat) (s : (Nat → Nat → Int32) × Int32) : (Nat → Nat → Int32) × Int32 :=
  if s.1 23 p &&& b = 0 then s else if t < s.1 24 p then s else if s.1 25 p < f then s else (up2 s.1 29 p (hd1 s.1 p hold), s.2 + 1)
def dbN (M : Nat → Nat → Int32) (b f t hold : Int32) : Nat → (Nat → Nat → Int32) × Int32
  | 0 => (M, 0)
  | p + 1 => db1 b f t hold p (dbN M b f t hold p)
def bestS (M : Nat → Nat → Int32) (P O : Nat) : Int32 := bestN M P O (2 ^ O - 1)
def bestA (M : Nat → Nat → Int32) (P O : Nat) (wh : Int32) : Int32 := if inR wh 0 1 = 0 then -1 else if wh = 0 then bestS M P O else worthN M (bestS M P O) O
def dbtA (M : Nat → Nat → Int32) (P : Nat) (b hold : Int32) : (Nat → Nat → Int32) × Int32 := if inR b 0 3 = 0 then (M, -1) else dbN M (1 <<< (b &&& 31)) 0 (M 35 0) hold P
def hrsA (M : Nat → Nat → Int32) (P : Nat) (f t hold : Int32) : (Nat → Nat → Int32) × Int32 := if f < 0 then (M, -1) else if f ≤ t then dbN M 15 f t hold P else (M, -1)
def clrA (M : Nat → Nat → Int32) (p : Int32) : (Nat → Nat → Int32) × Int32 := if inR p 0 (M 21 0 - 1) = 0 then (M, -1) else if M 29 p.toNatClampNeg = 0 then (M, -2) else (up2 M 29 p.toNatClampNeg 0, 1)
def abtA (M : Nat → Nat → Int32) (o wh : Int32) : Int32 := if inR o 0 (M 30 0 - 1) = 0 then -1 else if wh = 0 then M 31 o.toNatClampNeg else if wh = 1 then M 32 o.toNatClampNeg else if wh = 2 then M 33 o.toNatClampNeg else if wh = 3 then if M 34 o.toNatClampNeg = 0 then 0 else 1 else -1
def pckA (M : Nat → Nat → Int32) (p wh : Int32) : Int32 := if inR p 0 (M 21 0 - 1) = 0 then -1 else if wh = 0 then M 22 p.toNatClampNeg else if wh = 1 then M 23 p.toNatClampNeg else if wh = 2 then M 24 p.toNatClampNeg else if wh = 3 then M 25 p.toNatClampNeg else if wh = 4 then M 28 p.toNatClampNeg else if wh = 5 then if M 29 p.toNatClampNeg = 0 then 0 else 1 else if wh = 6 then M 26 p.toNatClampNeg else if wh = 7 then M 27 p.toNatClampNeg else -1
def sldN (M : Nat → Nat → Int32) : Nat → Int32
  | 0 => 0
  | p + 1 => sldN M p + (if M 28 p = -9 then 0 else 1)
def hldN (M : Nat → Nat → Int32) : Nat → Int32
  | 0 => 0
  | p + 1 => hldN M p + (if M 29 p = 0 then 0 else 1)
def tldA (M : Nat → Nat → Int32) (P : Nat) (wh : Int32) : Int32 := if wh = 0 then M 21 0 else if wh = 1 then M 30 0 else if wh = 2 then sldN M P else if wh = 3 then hldN M P else if wh = 4 then M 35 0 else if wh = 5 then M 36 0 else -1000
def ordA (M : Nat → Nat → Int32) (O : Nat) (g n w : Int32) : (Nat → Nat → Int32) × Int32 := if inR g 0 5 = 0 then (M, -1) else if inR n 1 9 = 0 then (M, -1) else if inR w 1 1000 = 0 then (M, -1) else if M 30 0 = 6 then (M, -3) else (up2 (up2 (up2 (up2 (up2 M 31 O g) 32 O n) 33 O w) 34 O 0) 30 0 (M 30 0 + 1), M 30 0 + 1 - 1)

section M7
variable {D : va_G} {ar : Nat → ClassId} {X : XT} {h1 : Nat} {ad : Nat → Nat} {M : Nat → Nat → Int32} {T : Int64}
theorem k5_bestSet (hX : Xok X) {P O : Nat} (hP : M 21 0 = nI P) (hP6 : P ≤ 60) (hO : M 30 0 = nI O) (hO6 : O ≤ 6)  : Cn D ar X yX5_bestSet cX5_bestSet 3 (some .int) 3 69 0 0 [.ref h1] (mW ar h1 ad M T) (fun r w => r = some (.int (bestS M P O)) ∧ w = mW ar h1 ad M T) := by
  refine Cn.of (own := RX5) hX (by decide) rfl (Nat.le_of_ble_eq_true rfl) (fun j C => ?_)
  have C0 := C.to
  show j _ 0 0 0 [(0, _)] []
  have hp6 := pow6 hO6
  have hsh : (1 : Int32) <<< (M 30 0 &&& 31) = nI (2 ^ O) := by rw [hO]; exact shl6 hO6
  refine r_iconst C0 0 0 dX5_bestSet_0 (by decide) ?_
  refine r_istore_n (lv' := [(0, _), (1, _)]) C0 1 1 dX5_bestSet_1 rfl rfl (by decide) rfl ?_
  refine r_iconst C0 2 1 dX5_bestSet_2 (by decide) ?_
  refine r_istore_n (lv' := [(0, _), (1, _), (2, _)]) C0 3 2 dX5_bestSet_3 rfl rfl (by decide) rfl ?_
  refine loopUp (P := (2 ^ O - 1)) (f := fun i => j (mW ar h1 ad M T) 0 0 4 [(0, .ref h1), (1, .int (bestN M P O i)), (2, .int (nI (i + 1)))] []) (fun i hi ih => ?_) 0 (Nat.zero_le _)
  refine r_iload_n C0 4 2 dX5_bestSet_4 rfl rfl ?_
  refine r_iconst C0 5 1 dX5_bestSet_5 (by decide) ?_
  refine r_aload_n C0 6 0 dX5_bestSet_6 rfl rfl ?_
  refine m_getI C0 7 30 rfl fl5_175 rfl dX5_bestSet_7 ?_
  refine r_ishl C0 10 dX5_bestSet_10 ?_
  refine r_icmp_ge C0 11 47 dX5_bestSet_11 (by decide) (fun c_11 => ?_) (fun c_11 => ?_)
  · have hge : 2 ^ O ≤ i + 1 := (nI_leI (by omega) (by omega)).mp (by rw [← hsh]; exact c_11)
    refine r_iload_n C0 47 1 dX5_bestSet_47 rfl rfl ?_
    refine r_iret C 48 dX5_bestSet_48 (Nat.le_refl _) (Nat.le_refl _) ?_
    have e : i = 2 ^ O - 1 := by omega
    subst e
    exact ⟨rfl, rfl⟩
  · have hlt : i + 1 < 2 ^ O := Nat.lt_of_not_le (fun q => c_11 (by rw [hsh]; exact nI_le q (by omega)))
    refine r_aload_n C0 14 0 dX5_bestSet_14 rfl rfl ?_
    refine r_iload_n C0 15 2 dX5_bestSet_15 rfl rfl ?_
    refine m_call (As := [.int _]) C0 16 1 (k5_canServe hX hP hP6 hO hO6 _) (rm5_canServe (by decide) (by decide) (Nat.le_refl _) (Nat.le_refl _)) ml5_178 im5_canServe se5_canServe rfl (Nat.le_of_ble_eq_true rfl) dX5_bestSet_16 ?_
    rintro _ _ ⟨rfl, rfl⟩
    refine r_if_eq C0 19 39 dX5_bestSet_19 (by decide) (fun c_19 => ?_) (fun c_19 => ?_)
    · refine r_iload_n C0 39 1 dX5_bestSet_39 rfl rfl ?_
      refine r_istore_n (lv' := [(0, _), (1, _), (2, _)]) C0 40 1 dX5_bestSet_40 rfl rfl (by decide) rfl ?_
      refine r_iinc (lv' := [(0, _), (1, _), (2, _)]) C0 41 _ dX5_bestSet_41 rfl rfl rfl (by decide) rfl ?_
      refine r_goto C0 44 4 dX5_bestSet_44 (by decide) ?_
      simpa [bestN, bs1, nI_1, *] using ih (by omega)
    · refine r_aload_n C0 22 0 dX5_bestSet_22 rfl rfl ?_
      refine r_iload_n C0 23 2 dX5_bestSet_23 rfl rfl ?_
      refine m_call (As := [.int _]) C0 24 1 (k5_worthOf hX hO hO6 _) (rm5_worthOf (by decide) (by decide) (Nat.le_refl _) (Nat.le_refl _)) ml5_181 im5_worthOf se5_worthOf rfl (Nat.le_of_ble_eq_true rfl) dX5_bestSet_24 ?_
      rintro _ _ ⟨rfl, rfl⟩
      refine r_aload_n C0 27 0 dX5_bestSet_27 rfl rfl ?_
      refine r_iload_n C0 28 1 dX5_bestSet_28 rfl rfl ?_
      refine m_call (As := [.int _]) C0 29 1 (k5_worthOf hX hO hO6 _) (rm5_worthOf (by decide) (by decide) (Nat.le_refl _) (Nat.le_refl _)) ml5_181 im5_worthOf se5_worthOf rfl (Nat.le_of_ble_eq_true rfl) dX5_bestSet_29 ?_
      rintro _ _ ⟨rfl, rfl⟩
      refine r_icmp_le C0 32 39 dX5_bestSet_32 (by decide) (fun c_32 => ?_) (fun c_32 => ?_)
      · refine r_iload_n C0 39 1 dX5_bestSet_39 rfl rfl ?_
        refine r_istore_n (lv' := [(0, _), (1, _), (2, _)]) C0 40 1 dX5_bestSet_40 rfl rfl (by decide) rfl ?_
        refine r_iinc (lv' := [(0, _), (1, _), (2, _)]) C0 41 _ dX5_bestSet_41 rfl rfl rfl (by decide) rfl ?_
        refine r_goto C0 44 4 dX5_bestSet_44 (by decide) ?_
        simpa [bestN, bs1, nI_1, *] using ih (by omega)
      · refine r_iload_n C0 35 2 dX5_bestSet_35 rfl rfl ?_
        refine r_goto C0 36 40 dX5_bestSet_36 (by decide) ?_
        refine r_istore_n (lv' := [(0, _), (1, _), (2, _)]) C0 40 1 dX5_bestSet_40 rfl rfl (by decide) rfl ?_
        refine r_iinc (lv' := [(0, _), (1, _), (2, _)]) C0 41 _ dX5_bestSet_41 rfl rfl rfl (by decide) rfl ?_
        refine r_goto C0 44 4 dX5_bestSet_44 (by decide) ?_
        simpa [bestN, bs1, nI_1, *] using ih (by omega)
theorem k5_best (hX : Xok X) {P O : Nat} (hP : M 21 0 = nI P) (hP6 : P ≤ 60) (hO : M 30 0 = nI O) (hO6 : O ≤ 6) (wh : Int32)  : Cn D ar X yX5_best cX5_best 2 (some .int) 4 91 0 0 [.ref h1, .int wh] (mW ar h1 ad M T) (fun r w => r = some (.int (bestA M P O wh)) ∧ w = mW ar h1 ad M T) := by
  refine Cn.of (own := RX5) hX (by decide) rfl (Nat.le_of_ble_eq_true rfl) (fun j C => ?_)
  have C0 := C.to
  show j _ 0 0 0 [(0, _), (1, _)] []
  refine r_iload_n C0 0 1 dX5_best_0 rfl rfl ?_
  refine r_iconst C0 1 0 dX5_best_1 (by decide) ?_
  refine r_iconst C0 2 1 dX5_best_2 (by decide) ?_
  refine s_call (As := [.int _, .int _, .int _]) C0 3 3 (k5_in hX _ _ _ _) (rm5_in (by decide) (by decide) (Nat.le_refl _) (Nat.le_refl _)) ml5_102 st5_in rfl (Nat.le_of_ble_eq_true rfl) dX5_best_3 ?_
  rintro _ _ ⟨rfl, rfl⟩
  refine r_if_ne C0 6 13 dX5_best_6 (by decide) (fun c_6 => ?_) (fun c_6 => ?_)
  · refine r_iload_n C0 13 1 dX5_best_13 rfl rfl ?_
    refine r_if_ne C0 14 24 dX5_best_14 (by decide) (fun c_14 => ?_) (fun c_14 => ?_)
    · refine r_aload_n C0 24 0 dX5_best_24 rfl rfl ?_
      refine r_aload_n C0 25 0 dX5_best_25 rfl rfl ?_
      refine m_call (As := []) C0 26 0 (k5_bestSet hX hP hP6 hO hO6) (rm5_bestSet (by decide) (by decide) (Nat.le_refl _) (Nat.le_refl _)) ml5_184 im5_bestSet se5_bestSet rfl (Nat.le_of_ble_eq_true rfl) dX5_best_26 ?_
      rintro _ _ ⟨rfl, rfl⟩
      refine m_call (As := [.int _]) C0 29 1 (k5_worthOf hX hO hO6 _) (rm5_worthOf (by decide) (by decide) (Nat.le_refl _) (Nat.le_refl _)) ml5_181 im5_worthOf se5_worthOf rfl (Nat.le_of_ble_eq_true rfl) dX5_best_29 ?_
      rintro _ _ ⟨rfl, rfl⟩
      refine r_iret C 32 dX5_best_32 (Nat.le_refl _) (Nat.le_refl _) ?_
      exact ⟨by simp [bestA, eq_false c_6, eq_false c_14], rfl⟩
    · refine r_aload_n C0 17 0 dX5_best_17 rfl rfl ?_
      refine m_call (As := []) C0 18 0 (k5_bestSet hX hP hP6 hO hO6) (rm5_bestSet (by decide) (by decide) (Nat.le_refl _) (Nat.le_refl _)) ml5_184 im5_bestSet se5_bestSet rfl (Nat.le_of_ble_eq_true rfl) dX5_best_18 ?_
      rintro _ _ ⟨rfl, rfl⟩
      refine r_goto C0 21 32 dX5_best_21 (by decide) ?_
      refine r_iret C 32 dX5_best_32 (Nat.le_refl _) (Nat.le_refl _) ?_
      exact ⟨by simp [bestA, eq_false c_6, eq_true c_14], rfl⟩
  · refine r_iconst C0 9 (-1) dX5_best_9 (by decide) ?_
    refine r_goto C0 10 32 dX5_best_10 (by decide) ?_
    refine r_iret C 32 dX5_best_32 (Nat.le_refl _) (Nat.le_refl _) ?_
    exact ⟨by simp [bestA, eq_true c_6], rfl⟩
theorem k5_doubts (hX : Xok X) {P : Nat} (hP : M 21 0 = nI P) (hP6 : P ≤ 60) (b f t hold : Int32)  : Cn D ar X yX5_doubts cX5_doubts 7 (some .int) 0 0 0 0 [.ref h1, .int b, .int f, .int t, .int hold] (mW ar h1 ad M T) (fun r w => r = some (.int (dbN M b f t hold P).2) ∧ w = mW ar h1 ad (dbN M b f t hold P).1 T) := by
  refine Cn.of (own := RX5) hX (by decide) rfl (Nat.le_of_ble_eq_true rfl) (fun j C => ?_)
  have C0 := C.to
  show j _ 0 0 0 [(0, _), (1, _), (2, _), (3, _), (4, _)] []
  have hP9 : ∀ i, (dbN M b f t hold i).1 21 0 = nI P := fun i => by
    induction i with
    | zero => exact hP
    | succ i ih =>
      show (db1 b f t hold i (dbN M b f t hold i)).1 21 0 = nI P
      unfold db1
      split
      · exact ih
      · split
        · exact ih
        · split
          · exact ih
          · exact ih
  refine r_iconst C0 0 0 dX5_doubts_0 (by decide) ?_
  refine r_istore (lv' := [(0, _), (1, _), (2, _), (3, _), (4, _), (5, _)]) C0 1 dX5_doubts_1 rfl (by decide) rfl ?_
  refine r_iconst C0 3 0 dX5_doubts_3 (by decide) ?_
  refine r_istore (lv' := [(0, _), (1, _), (2, _), (3, _), (4, _), (5, _), (6, _)]) C0 4 dX5_doubts_4 rfl (by decide) rfl ?_
  refine loopUp (P := P) (f := fun i => j (mW ar h1 ad (dbN M b f t hold i).1 T) 0 0 6 [(0, .ref h1), (1, .int b), (2, .int f), (3, .int t), (4, .int hold), (5, .int (dbN M b f t hold i).2), (6, .int (nI i))] []) (fun i hi ih => ?_) 0 (Nat.zero_le _)
  refine r_iload C0 6 dX5_doubts_6 rfl ?_
  refine r_aload_n C0 8 0 dX5_doubts_8 rfl rfl ?_
  refine m_getI C0 9 21 rfl fl5_135 rfl dX5_doubts_9 ?_
  refine r_icmp_ge C0 12 97 dX5_doubts_12 (by decide) (fun c_12 => ?_) (fun c_12 => ?_)
  · have hge : P ≤ i := (nI_leI (by omega) (by omega)).mp (by rw [← hP9 i]; exact c_12)
    refine r_iload C0 97 dX5_doubts_97 rfl ?_
    refine r_iret C 99 dX5_doubts_99 (Nat.le_refl _) (Nat.le_refl _) ?_
    have e : i = P := by omega
    subst e
    exact ⟨rfl, rfl⟩
  · have hlt : i < P := Nat.lt_of_not_le (fun q => c_12 (by rw [hP9 i]; exact nI_le q (by omega)))
    refine r_aload_n C0 15 0 dX5_doubts_15 rfl rfl ?_
    refine m_getA C0 16 23 (by decide) fl5_65 rfl dX5_doubts_16 ?_
    refine r_iload C0 19 dX5_doubts_19 rfl ?_
    refine m_ld C0 21 i rfl rfl (show i < 60 by omega) dX5_doubts_21 ?_
    refine r_iload_n C0 22 1 dX5_doubts_22 rfl rfl ?_
    refine r_iand C0 23 dX5_doubts_23 ?_
    refine r_if_eq C0 24 91 dX5_doubts_24 (by decide) (fun c_24 => ?_) (fun c_24 => ?_)
    · refine r_iinc (lv' := [(0, _), (1, _), (2, _), (3, _), (4, _), (5, _), (6, _)]) C0 91 _ dX5_doubts_91 rfl rfl rfl (by decide) rfl ?_
      refine r_goto C0 94 6 dX5_doubts_94 (by decide) ?_
      have h9 := ih hlt
      simp only [dbN, db1, hd1, eq_false c_12, eq_true c_24] at h9
      simpa [nI_1] using h9
    · refine r_aload_n C0 27 0 dX5_doubts_27 rfl rfl ?_
      refine m_getA C0 28 24 (by decide) fl5_68 rfl dX5_doubts_28 ?_
      refine r_iload C0 31 dX5_doubts_31 rfl ?_
      refine m_ld C0 33 i rfl rfl (show i < 60 by omega) dX5_doubts_33 ?_
      refine r_iload_n C0 34 3 dX5_doubts_34 rfl rfl ?_
      refine r_icmp_gt C0 35 91 dX5_doubts_35 (by decide) (fun c_35 => ?_) (fun c_35 => ?_)
      · refine r_iinc (lv' := [(0, _), (1, _), (2, _), (3, _), (4, _), (5, _), (6, _)]) C0 91 _ dX5_doubts_91 rfl rfl rfl (by decide) rfl ?_
        refine r_goto C0 94 6 dX5_doubts_94 (by decide) ?_
        have h9 := ih hlt
        simp only [dbN, db1, hd1, eq_false c_12, eq_false c_24, eq_true c_35] at h9
        simpa [nI_1] using h9
      · refine r_aload_n C0 38 0 dX5_doubts_38 rfl rfl ?_
        refine m_getA C0 39 25 (by decide) fl5_71 rfl dX5_doubts_39 ?_
        refine r_iload C0 42 dX5_doubts_42 rfl ?_
        refine m_ld C0 44 i rfl rfl (show i < 60 by omega) dX5_doubts_44 ?_
        refine r_iload_n C0 45 2 dX5_doubts_45 rfl rfl ?_
        refine r_icmp_lt C0 46 91 dX5_doubts_46 (by decide) (fun c_46 => ?_) (fun c_46 => ?_)
        · refine r_iinc (lv' := [(0, _), (1, _), (2, _), (3, _), (4, _), (5, _), (6, _)]) C0 91 _ dX5_doubts_91 rfl rfl rfl (by decide) rfl ?_
          refine r_goto C0 94 6 dX5_doubts_94 (by decide) ?_
          have h9 := ih hlt
          simp only [dbN, db1, hd1, eq_false c_12, eq_false c_24, eq_false c_35, eq_true c_46] at h9
          simpa [nI_1] using h9
        · refine r_iinc (lv' := [(0, _), (1, _), (2, _), (3, _), (4, _), (5, _), (6, _)]) C0 49 _ dX5_doubts_49 rfl rfl rfl (by decide) rfl ?_
          refine r_aload_n C0 52 0 dX5_doubts_52 rfl rfl ?_
          refine m_getA C0 53 29 (by decide) fl5_83 rfl dX5_doubts_53 ?_
          refine r_iload C0 56 dX5_doubts_56 rfl ?_
          refine r_aload_n C0 58 0 dX5_doubts_58 rfl rfl ?_
          refine m_getA C0 59 29 (by decide) fl5_83 rfl dX5_doubts_59 ?_
          refine r_iload C0 62 dX5_doubts_62 rfl ?_
          refine m_ldz C0 64 i rfl rfl (show i < 60 by omega) dX5_doubts_64 ?_
          refine r_if_ne C0 65 85 dX5_doubts_65 (by decide) (fun c_65 => ?_) (fun c_65 => ?_)
          · refine r_iconst C0 85 1 dX5_doubts_85 (by decide) ?_
            refine r_goto C0 86 90 dX5_doubts_86 (by decide) ?_
            refine m_stz C0 90 i rfl rfl (show i < 60 by omega) rfl dX5_doubts_90 ?_
            refine r_iinc (lv' := [(0, _), (1, _), (2, _), (3, _), (4, _), (5, _), (6, _)]) C0 91 _ dX5_doubts_91 rfl rfl rfl (by decide) rfl ?_
            refine r_goto C0 94 6 dX5_doubts_94 (by decide) ?_
            have h9 := ih hlt
            simp only [dbN, db1, hd1, eq_false c_12, eq_false c_24, eq_false c_35, eq_false c_46, eq_false c_65] at h9
            simpa [nI_1] using h9
          · refine r_iload C0 68 dX5_doubts_68 rfl ?_
            refine r_if_eq C0 70 89 dX5_doubts_70 (by decide) (fun c_70 => ?_) (fun c_70 => ?_)
            · refine r_iconst C0 89 0 dX5_doubts_89 (by decide) ?_
              refine m_stz C0 90 i rfl rfl (show i < 60 by omega) rfl dX5_doubts_90 ?_
              refine r_iinc (lv' := [(0, _), (1, _), (2, _), (3, _), (4, _), (5, _), (6, _)]) C0 91 _ dX5_doubts_91 rfl rfl rfl (by decide) rfl ?_
              refine r_goto C0 94 6 dX5_doubts_94 (by decide) ?_
              have h9 := ih hlt
              simp only [dbN, db1, hd1, eq_false c_12, eq_false c_24, eq_false c_35, eq_false c_46, eq_true c_65, eq_true c_70] at h9
              simpa [nI_1] using h9
            · refine r_aload_n C0 73 0 dX5_doubts_73 rfl rfl ?_
              refine m_getA C0 74 28 (by decide) fl5_80 rfl dX5_doubts_74 ?_
              refine r_iload C0 77 dX5_doubts_77 rfl ?_
              refine m_ld C0 79 i rfl rfl (show i < 60 by omega) dX5_doubts_79 ?_
              refine r_bipush C0 80 (-9) dX5_doubts_80 (by decide) ?_
              refine r_icmp_ne C0 82 89 dX5_doubts_82 (by decide) (fun c_82 => ?_) (fun c_82 => ?_)
              · refine r_iconst C0 89 0 dX5_doubts_89 (by decide) ?_
                refine m_stz C0 90 i rfl rfl (show i < 60 by omega) rfl dX5_doubts_90 ?_
                refine r_iinc (lv' := [(0, _), (1, _), (2, _), (3, _), (4, _), (5, _), (6, _)]) C0 91 _ dX5_doubts_91 rfl rfl rfl (by decide) rfl ?_
                refine r_goto C0 94 6 dX5_doubts_94 (by decide) ?_
                have h9 := ih hlt
                simp only [dbN, db1, hd1, eq_false c_12, eq_false c_24, eq_false c_35, eq_false c_46, eq_true c_65, eq_false c_70, eq_false c_82] at h9
                simpa [nI_1] using h9
              · refine r_iconst C0 85 1 dX5_doubts_85 (by decide) ?_
                refine r_goto C0 86 90 dX5_doubts_86 (by decide) ?_
                refine m_stz C0 90 i rfl rfl (show i < 60 by omega) rfl dX5_doubts_90 ?_
                refine r_iinc (lv' := [(0, _), (1, _), (2, _), (3, _), (4, _), (5, _), (6, _)]) C0 91 _ dX5_doubts_91 rfl rfl rfl (by decide) rfl ?_
                refine r_goto C0 94 6 dX5_doubts_94 (by decide) ?_
                have h9 := ih hlt
                simp only [dbN, db1, hd1, eq_false c_12, eq_false c_24, eq_false c_35, eq_false c_46, eq_true c_65, eq_false c_70, eq_true c_82] at h9
                simpa [nI_1] using h9
theorem k5_doubt (hX : Xok X) {P : Nat} (hP : M 21 0 = nI P) (hP6 : P ≤ 60) (b hold : Int32)  : Cn D ar X yX5_doubt cX5_doubt 3 (some .int) 1 26 0 0 [.ref h1, .int b, .int hold] (mW ar h1 ad M T) (fun r w => r = some (.int (dbtA M P b hold).2) ∧ w = mW ar h1 ad (dbtA M P b hold).1 T) := by
  refine Cn.of (own := RX5) hX (by decide) rfl (Nat.le_of_ble_eq_true rfl) (fun j C => ?_)
  have C0 := C.to
  show j _ 0 0 0 [(0, _), (1, _), (2, _)] []
  refine r_iload_n C0 0 1 dX5_doubt_0 rfl rfl ?_
  refine r_iconst C0 1 0 dX5_doubt_1 (by decide) ?_
  refine r_iconst C0 2 3 dX5_doubt_2 (by decide) ?_
  refine s_call (As := [.int _, .int _, .int _]) C0 3 3 (k5_in hX _ _ _ _) (rm5_in (by decide) (by decide) (Nat.le_refl _) (Nat.le_refl _)) ml5_102 st5_in rfl (Nat.le_of_ble_eq_true rfl) dX5_doubt_3 ?_
  rintro _ _ ⟨rfl, rfl⟩
  refine r_if_eq C0 6 25 dX5_doubt_6 (by decide) (fun c_6 => ?_) (fun c_6 => ?_)
  · refine r_iconst C0 25 (-1) dX5_doubt_25 (by decide) ?_
    refine r_iret C 26 dX5_doubt_26 (Nat.le_refl _) (Nat.le_refl _) ?_
    exact ⟨by simp [dbtA, eq_true c_6], by simp [dbtA, eq_true c_6]⟩
  · refine r_aload_n C0 9 0 dX5_doubt_9 rfl rfl ?_
    refine r_iconst C0 10 1 dX5_doubt_10 (by decide) ?_
    refine r_iload_n C0 11 1 dX5_doubt_11 rfl rfl ?_
    refine r_ishl C0 12 dX5_doubt_12 ?_
    refine r_iconst C0 13 0 dX5_doubt_13 (by decide) ?_
    refine r_aload_n C0 14 0 dX5_doubt_14 rfl rfl ?_
    refine m_getI C0 15 35 rfl fl5_98 rfl dX5_doubt_15 ?_
    refine r_iload_n C0 18 2 dX5_doubt_18 rfl rfl ?_
    refine m_call (As := [.int _, .int _, .int _, .int _]) C0 19 4 (k5_doubts hX hP hP6 _ _ _ _) (rm5_doubts (by decide) (by decide) (Nat.le_refl _) (Nat.le_refl _)) ml5_188 im5_doubts se5_doubts rfl (Nat.le_of_ble_eq_true rfl) dX5_doubt_19 ?_
    rintro _ _ ⟨rfl, rfl⟩
    refine r_goto C0 22 26 dX5_doubt_22 (by decide) ?_
    refine r_iret C 26 dX5_doubt_26 (Nat.le_refl _) (Nat.le_refl _) ?_
    exact ⟨by simp [dbtA, eq_false c_6], by simp [dbtA, eq_false c_6]⟩
theorem k5_hours (hX : Xok X) {P : Nat} (hP : M 21 0 = nI P) (hP6 : P ≤ 60) (f t hold : Int32)  : Cn D ar X yX5_hours cX5_hours 4 (some .int) 1 26 0 0 [.ref h1, .int f, .int t, .int hold] (mW ar h1 ad M T) (fun r w => r = some (.int (hrsA M P f t hold).2) ∧ w = mW ar h1 ad (hrsA M P f t hold).1 T) := by
  refine Cn.of (own := RX5) hX (by decide) rfl (Nat.le_of_ble_eq_true rfl) (fun j C => ?_)
  have C0 := C.to
  show j _ 0 0 0 [(0, _), (1, _), (2, _), (3, _)] []
  refine r_iload_n C0 0 1 dX5_hours_0 rfl rfl ?_
  refine r_if_lt C0 1 9 dX5_hours_1 (by decide) (fun c_1 => ?_) (fun c_1 => ?_)
  · refine r_iconst C0 9 (-1) dX5_hours_9 (by decide) ?_
    refine r_goto C0 10 22 dX5_hours_10 (by decide) ?_
    refine r_iret C 22 dX5_hours_22 (Nat.le_refl _) (Nat.le_refl _) ?_
    exact ⟨by simp [hrsA, eq_true c_1], by simp [hrsA, eq_true c_1]⟩
  · refine r_iload_n C0 4 2 dX5_hours_4 rfl rfl ?_
    refine r_iload_n C0 5 1 dX5_hours_5 rfl rfl ?_
    refine r_icmp_ge C0 6 13 dX5_hours_6 (by decide) (fun c_6 => ?_) (fun c_6 => ?_)
    · refine r_aload_n C0 13 0 dX5_hours_13 rfl rfl ?_
      refine r_bipush C0 14 15 dX5_hours_14 (by decide) ?_
      refine r_iload_n C0 16 1 dX5_hours_16 rfl rfl ?_
      refine r_iload_n C0 17 2 dX5_hours_17 rfl rfl ?_
      refine r_iload_n C0 18 3 dX5_hours_18 rfl rfl ?_
      refine m_call (As := [.int _, .int _, .int _, .int _]) C0 19 4 (k5_doubts hX hP hP6 _ _ _ _) (rm5_doubts (by decide) (by decide) (Nat.le_refl _) (Nat.le_refl _)) ml5_188 im5_doubts se5_doubts rfl (Nat.le_of_ble_eq_true rfl) dX5_hours_19 ?_
      rintro _ _ ⟨rfl, rfl⟩
      refine r_iret C 22 dX5_hours_22 (Nat.le_refl _) (Nat.le_refl _) ?_
      exact ⟨by simp [hrsA, eq_false c_1, eq_true c_6], by simp [hrsA, eq_false c_1, eq_true c_6]⟩
    · refine r_iconst C0 9 (-1) dX5_hours_9 (by decide) ?_
      refine r_goto C0 10 22 dX5_hours_10 (by decide) ?_
      refine r_iret C 22 dX5_hours_22 (Nat.le_refl _) (Nat.le_refl _) ?_
      exact ⟨by simp [hrsA, eq_false c_1, eq_false c_6], by simp [hrsA, eq_false c_1, eq_false c_6]⟩
theorem k5_clear (hX : Xok X) {P : Nat} (hP : M 21 0 = nI P) (hP6 : P ≤ 60) (p : Int32)  : Cn D ar X yX5_clear cX5_clear 2 (some .int) 2 43 0 0 [.ref h1, .int p] (mW ar h1 ad M T) (fun r w => r = some (.int (clrA M p).2) ∧ w = mW ar h1 ad (clrA M p).1 T) := by
  refine Cn.of (own := RX5) hX (by decide) rfl (Nat.le_of_ble_eq_true rfl) (fun j C => ?_)
  have C0 := C.to
  show j _ 0 0 0 [(0, _), (1, _)] []
  refine r_aload_n C0 0 0 dX5_clear_0 rfl rfl ?_
  refine r_iload_n C0 1 1 dX5_clear_1 rfl rfl ?_
  refine m_call (As := [.int _]) C0 2 1 (k5_isPack hX _) (rm5_isPack (by decide) (by decide) (Nat.le_refl _) (Nat.le_refl _)) ml5_166 im5_isPack se5_isPack rfl (Nat.le_of_ble_eq_true rfl) dX5_clear_2 ?_
  rintro _ _ ⟨rfl, rfl⟩
  refine r_if_ne C0 5 10 dX5_clear_5 (by decide) (fun c_5 => ?_) (fun c_5 => ?_)
  · rw [hP] at c_5
    obtain ⟨x, hx, rfl⟩ : ∃ x : Nat, x < P ∧ p = nI x := inR_p (by omega) c_5
    have hcl : (nI x).toNatClampNeg = x := nI_clamp (by omega)
    refine r_aload_n C0 10 0 dX5_clear_10 rfl rfl ?_
    refine m_getA C0 11 29 (by decide) fl5_83 rfl dX5_clear_11 ?_
    refine r_iload_n C0 14 1 dX5_clear_14 rfl rfl ?_
    refine m_ldz C0 15 x rfl rfl (show x < 60 by omega) dX5_clear_15 ?_
    refine r_if_ne C0 16 22 dX5_clear_16 (by decide) (fun c_16 => ?_) (fun c_16 => ?_)
    · refine r_aload_n C0 22 0 dX5_clear_22 rfl rfl ?_
      refine m_getA C0 23 29 (by decide) fl5_83 rfl dX5_clear_23 ?_
      refine r_iload_n C0 26 1 dX5_clear_26 rfl rfl ?_
      refine r_iconst C0 27 0 dX5_clear_27 (by decide) ?_
      refine m_stz C0 28 x rfl rfl (show x < 60 by omega) rfl dX5_clear_28 ?_
      refine r_iconst C0 29 1 dX5_clear_29 (by decide) ?_
      refine r_iret C 30 dX5_clear_30 (Nat.le_refl _) (Nat.le_refl _) ?_
      exact ⟨by simp [clrA, hP, hcl, eq_false c_5, eq_false c_16], by simp [clrA, hP, hcl, eq_false c_5, eq_false c_16]⟩
    · refine r_bipush C0 19 (-2) dX5_clear_19 (by decide) ?_
      refine r_iret C 21 dX5_clear_21 (Nat.le_refl _) (Nat.le_refl _) ?_
      exact ⟨by simp [clrA, hP, hcl, eq_false c_5, eq_true c_16], by simp [clrA, hP, hcl, eq_false c_5, eq_true c_16]⟩
  · rw [hP] at c_5
    have hcl : True := trivial
    refine r_iconst C0 8 (-1) dX5_clear_8 (by decide) ?_
    refine r_iret C 9 dX5_clear_9 (Nat.le_refl _) (Nat.le_refl _) ?_
    exact ⟨by simp [clrA, hP, hcl, eq_true c_5], by simp [clrA, hP, hcl, eq_true c_5]⟩
theorem k5_about (hX : Xok X) {O : Nat} (hO : M 30 0 = nI O) (hO6 : O ≤ 6) (o wh : Int32)  : Cn D ar X yX5_about cX5_about 3 (some .int) 1 22 0 0 [.ref h1, .int o, .int wh] (mW ar h1 ad M T) (fun r w => r = some (.int (abtA M o wh)) ∧ w = mW ar h1 ad M T) := by
  refine Cn.of (own := RX5) hX (by decide) rfl (Nat.le_of_ble_eq_true rfl) (fun j C => ?_)
  have C0 := C.to
  show j _ 0 0 0 [(0, _), (1, _), (2, _)] []
  refine r_iload_n C0 0 1 dX5_about_0 rfl rfl ?_
  refine r_iconst C0 1 0 dX5_about_1 (by decide) ?_
  refine r_aload_n C0 2 0 dX5_about_2 rfl rfl ?_
  refine m_getI C0 3 30 rfl fl5_175 rfl dX5_about_3 ?_
  refine r_iconst C0 6 1 dX5_about_6 (by decide) ?_
  refine r_isub C0 7 dX5_about_7 ?_
  refine s_call (As := [.int _, .int _, .int _]) C0 8 3 (k5_in hX _ _ _ _) (rm5_in (by decide) (by decide) (Nat.le_refl _) (Nat.le_refl _)) ml5_102 st5_in rfl (Nat.le_of_ble_eq_true rfl) dX5_about_8 ?_
  rintro _ _ ⟨rfl, rfl⟩
  refine r_if_ne C0 11 16 dX5_about_11 (by decide) (fun c_11 => ?_) (fun c_11 => ?_)
  · rw [hO] at c_11
    obtain ⟨x, hx, rfl⟩ : ∃ x : Nat, x < O ∧ o = nI x := inR_p (by omega) c_11
    have hcl : (nI x).toNatClampNeg = x := nI_clamp (by omega)
    refine r_iload_n C0 16 2 dX5_about_16 rfl rfl ?_
    rcases swc 4 (by decide) wh with ⟨i, hi, rfl⟩ | ho
    · rcases (show i = 0 ∨ i = 1 ∨ i = 2 ∨ i = 3 by omega) with rfl | rfl | rfl | rfl
      · refine r_tableIn C0 17 48 dX5_about_17 (by decide) (by decide) rfl (by decide) ?_
        refine r_aload_n C0 48 0 dX5_about_48 rfl rfl ?_
        refine m_getA C0 49 31 (by decide) fl5_86 rfl dX5_about_49 ?_
        refine r_iload_n C0 52 1 dX5_about_52 rfl rfl ?_
        refine m_ld C0 53 x rfl rfl (show x < 6 by omega) dX5_about_53 ?_
        refine r_iret C 54 dX5_about_54 (Nat.le_refl _) (Nat.le_refl _) ?_
        exact ⟨by simp only [abtA, hO, hcl, eq_false c_11]; rfl, rfl⟩
      · refine r_tableIn C0 17 55 dX5_about_17 (by decide) (by decide) rfl (by decide) ?_
        refine r_aload_n C0 55 0 dX5_about_55 rfl rfl ?_
        refine m_getA C0 56 32 (by decide) fl5_89 rfl dX5_about_56 ?_
        refine r_iload_n C0 59 1 dX5_about_59 rfl rfl ?_
        refine m_ld C0 60 x rfl rfl (show x < 6 by omega) dX5_about_60 ?_
        refine r_iret C 61 dX5_about_61 (Nat.le_refl _) (Nat.le_refl _) ?_
        exact ⟨by simp only [abtA, hO, hcl, eq_false c_11]; rfl, rfl⟩
      · refine r_tableIn C0 17 62 dX5_about_17 (by decide) (by decide) rfl (by decide) ?_
        refine r_aload_n C0 62 0 dX5_about_62 rfl rfl ?_
        refine m_getA C0 63 33 (by decide) fl5_92 rfl dX5_about_63 ?_
        refine r_iload_n C0 66 1 dX5_about_66 rfl rfl ?_
        refine m_ld C0 67 x rfl rfl (show x < 6 by omega) dX5_about_67 ?_
        refine r_iret C 68 dX5_about_68 (Nat.le_refl _) (Nat.le_refl _) ?_
        exact ⟨by simp only [abtA, hO, hcl, eq_false c_11]; rfl, rfl⟩
      · refine r_tableIn C0 17 69 dX5_about_17 (by decide) (by decide) rfl (by decide) ?_
        refine r_aload_n C0 69 0 dX5_about_69 rfl rfl ?_
        refine m_getA C0 70 34 (by decide) fl5_95 rfl dX5_about_70 ?_
        refine r_iload_n C0 73 1 dX5_about_73 rfl rfl ?_
        refine m_ldz C0 74 x rfl rfl (show x < 6 by omega) dX5_about_74 ?_
        refine r_if_eq C0 75 82 dX5_about_75 (by decide) (fun c_75 => ?_) (fun c_75 => ?_)
        · refine r_iconst C0 82 0 dX5_about_82 (by decide) ?_
          refine r_iret C 83 dX5_about_83 (Nat.le_refl _) (Nat.le_refl _) ?_
          exact ⟨by simp only [abtA, hO, hcl, eq_false c_11, eq_true c_75]; rfl, rfl⟩
        · refine r_iconst C0 78 1 dX5_about_78 (by decide) ?_
          refine r_goto C0 79 83 dX5_about_79 (by decide) ?_
          refine r_iret C 83 dX5_about_83 (Nat.le_refl _) (Nat.le_refl _) ?_
          exact ⟨by simp only [abtA, hO, hcl, eq_false c_11, eq_false c_75]; rfl, rfl⟩
    · refine r_tableOut C0 17 84 dX5_about_17 ho (by decide) ?_
      refine r_iconst C0 84 (-1) dX5_about_84 (by decide) ?_
      refine r_iret C 85 dX5_about_85 (Nat.le_refl _) (Nat.le_refl _) ?_
      exact ⟨by simp [abtA, hO, swn ho (c := 0) (by decide), swn ho (c := 1) (by decide), swn ho (c := 2) (by decide), swn ho (c := 3) (by decide), eq_false c_11], rfl⟩
  · rw [hO] at c_11
    refine r_iconst C0 14 (-1) dX5_about_14 (by decide) ?_
    refine r_iret C 15 dX5_about_15 (Nat.le_refl _) (Nat.le_refl _) ?_
    exact ⟨by simp [abtA, hO, eq_true c_11], rfl⟩
end M7
end
section
/-! the model: pack, told, order, serve -/
theorem selN_n {M : Nat → Nat → Int32} {g o lf sd : Int32} {f : Nat} (hf : f ≠ 28) : ∀ p, (selN M g o lf sd p).1 f = M f := fun p => by
  induction p with
  | zero => rfl
  | succ p ih =>
    show (seq1 M g o p (selN M g o lf sd p)).1 f = M f
    unfold seq1
    split
    · exact ih
    · split
      · split
        · exact ih
        · show up2 _ 28 p o f = M f
          rw [up2_n hf]; exact ih
      · exact ih
theorem selN_stop {M : Nat → Nat → Int32} {g o lf sd : Int32} {p : Nat} (h : (selN M g o lf sd p).2.1 ≤ 0) : ∀ d, selN M g o lf sd (p + d) = selN M g o lf sd p := fun d => by
  induction d with
  | zero => rfl
  | succ d ih =>
    show seq1 M g o (p + d) (selN M g o lf sd (p + d)) = _
    rw [ih]
    unfold seq1
    rw [if_pos h]
theorem serN_n {M : Nat → Nat → Int32} {z : Int32} {P : Nat} {f : Nat} (hf : f ≠ 28) (hf2 : f ≠ 34) : ∀ o, (serN M z P o).1 f = M f := fun o => by
  induction o with
  | zero => rfl
  | succ o ih =>
    show (if bitN z o = 1 then _ else _ : (Nat → Nat → Int32) × Int32).1 f = M f
    split
    · show up2 _ 34 o 1 f = M f
      rw [up2_n hf2, selN_n hf]; exact ih
    · exact ih

section M8
variable {D : va_G} {ar : Nat → ClassId} {X : XT} {h1 : Nat} {ad : Nat → Nat} {M : Nat → Nat → Int32} {T : Int64}
theorem k5_pack (hX : Xok X) {P : Nat} (hP : M 21 0 = nI P) (hP6 : P ≤ 60) (p wh : Int32)  : Cn D ar X yX5_pack cX5_pack 3 (some .int) 2 43 0 0 [.ref h1, .int p, .int wh] (mW ar h1 ad M T) (fun r w => r = some (.int (pckA M p wh)) ∧ w = mW ar h1 ad M T) := by
  refine Cn.of (own := RX5) hX (by decide) rfl (Nat.le_of_ble_eq_true rfl) (fun j C => ?_)
  have C0 := C.to
  show j _ 0 0 0 [(0, _), (1, _), (2, _)] []
  refine r_aload_n C0 0 0 dX5_pack_0 rfl rfl ?_
  refine r_iload_n C0 1 1 dX5_pack_1 rfl rfl ?_
  refine m_call (As := [.int _]) C0 2 1 (k5_isPack hX _) (rm5_isPack (by decide) (by decide) (Nat.le_refl _) (Nat.le_refl _)) ml5_166 im5_isPack se5_isPack rfl (Nat.le_of_ble_eq_true rfl) dX5_pack_2 ?_
  rintro _ _ ⟨rfl, rfl⟩
  refine r_if_ne C0 5 10 dX5_pack_5 (by decide) (fun c_5 => ?_) (fun c_5 => ?_)
  · rw [hP] at c_5
    obtain ⟨x, hx, rfl⟩ : ∃ x : Nat, x < P ∧ p = nI x := inR_p (by omega) c_5
    have hcl : (nI x).toNatClampNeg = x := nI_clamp (by omega)
    refine r_iload_n C0 10 2 dX5_pack_10 rfl rfl ?_
    rcases swc 8 (by decide) wh with ⟨i, hi, rfl⟩ | ho
    · rcases (show i = 0 ∨ i = 1 ∨ i = 2 ∨ i = 3 ∨ i = 4 ∨ i = 5 ∨ i = 6 ∨ i = 7 by omega) with rfl | rfl | rfl | rfl | rfl | rfl | rfl | rfl
      · refine r_tableIn C0 11 56 dX5_pack_11 (by decide) (by decide) rfl (by decide) ?_
        refine r_aload_n C0 56 0 dX5_pack_56 rfl rfl ?_
        refine m_getA C0 57 22 (by decide) fl5_62 rfl dX5_pack_57 ?_
        refine r_iload_n C0 60 1 dX5_pack_60 rfl rfl ?_
        refine m_ld C0 61 x rfl rfl (show x < 60 by omega) dX5_pack_61 ?_
        refine r_iret C 62 dX5_pack_62 (Nat.le_refl _) (Nat.le_refl _) ?_
        exact ⟨by simp only [pckA, hP, hcl, eq_false c_5]; rfl, rfl⟩
      · refine r_tableIn C0 11 63 dX5_pack_11 (by decide) (by decide) rfl (by decide) ?_
        refine r_aload_n C0 63 0 dX5_pack_63 rfl rfl ?_
        refine m_getA C0 64 23 (by decide) fl5_65 rfl dX5_pack_64 ?_
        refine r_iload_n C0 67 1 dX5_pack_67 rfl rfl ?_
        refine m_ld C0 68 x rfl rfl (show x < 60 by omega) dX5_pack_68 ?_
        refine r_iret C 69 dX5_pack_69 (Nat.le_refl _) (Nat.le_refl _) ?_
        exact ⟨by simp only [pckA, hP, hcl, eq_false c_5]; rfl, rfl⟩
      · refine r_tableIn C0 11 70 dX5_pack_11 (by decide) (by decide) rfl (by decide) ?_
        refine r_aload_n C0 70 0 dX5_pack_70 rfl rfl ?_
        refine m_getA C0 71 24 (by decide) fl5_68 rfl dX5_pack_71 ?_
        refine r_iload_n C0 74 1 dX5_pack_74 rfl rfl ?_
        refine m_ld C0 75 x rfl rfl (show x < 60 by omega) dX5_pack_75 ?_
        refine r_iret C 76 dX5_pack_76 (Nat.le_refl _) (Nat.le_refl _) ?_
        exact ⟨by simp only [pckA, hP, hcl, eq_false c_5]; rfl, rfl⟩
      · refine r_tableIn C0 11 77 dX5_pack_11 (by decide) (by decide) rfl (by decide) ?_
        refine r_aload_n C0 77 0 dX5_pack_77 rfl rfl ?_
        refine m_getA C0 78 25 (by decide) fl5_71 rfl dX5_pack_78 ?_
        refine r_iload_n C0 81 1 dX5_pack_81 rfl rfl ?_
        refine m_ld C0 82 x rfl rfl (show x < 60 by omega) dX5_pack_82 ?_
        refine r_iret C 83 dX5_pack_83 (Nat.le_refl _) (Nat.le_refl _) ?_
        exact ⟨by simp only [pckA, hP, hcl, eq_false c_5]; rfl, rfl⟩
      · refine r_tableIn C0 11 84 dX5_pack_11 (by decide) (by decide) rfl (by decide) ?_
        refine r_aload_n C0 84 0 dX5_pack_84 rfl rfl ?_
        refine m_getA C0 85 28 (by decide) fl5_80 rfl dX5_pack_85 ?_
        refine r_iload_n C0 88 1 dX5_pack_88 rfl rfl ?_
        refine m_ld C0 89 x rfl rfl (show x < 60 by omega) dX5_pack_89 ?_
        refine r_iret C 90 dX5_pack_90 (Nat.le_refl _) (Nat.le_refl _) ?_
        exact ⟨by simp only [pckA, hP, hcl, eq_false c_5]; rfl, rfl⟩
      · refine r_tableIn C0 11 91 dX5_pack_11 (by decide) (by decide) rfl (by decide) ?_
        refine r_aload_n C0 91 0 dX5_pack_91 rfl rfl ?_
        refine m_getA C0 92 29 (by decide) fl5_83 rfl dX5_pack_92 ?_
        refine r_iload_n C0 95 1 dX5_pack_95 rfl rfl ?_
        refine m_ldz C0 96 x rfl rfl (show x < 60 by omega) dX5_pack_96 ?_
        refine r_if_eq C0 97 104 dX5_pack_97 (by decide) (fun c_97 => ?_) (fun c_97 => ?_)
        · refine r_iconst C0 104 0 dX5_pack_104 (by decide) ?_
          refine r_iret C 105 dX5_pack_105 (Nat.le_refl _) (Nat.le_refl _) ?_
          exact ⟨by simp only [pckA, hP, hcl, eq_false c_5, eq_true c_97]; rfl, rfl⟩
        · refine r_iconst C0 100 1 dX5_pack_100 (by decide) ?_
          refine r_goto C0 101 105 dX5_pack_101 (by decide) ?_
          refine r_iret C 105 dX5_pack_105 (Nat.le_refl _) (Nat.le_refl _) ?_
          exact ⟨by simp only [pckA, hP, hcl, eq_false c_5, eq_false c_97]; rfl, rfl⟩
      · refine r_tableIn C0 11 106 dX5_pack_11 (by decide) (by decide) rfl (by decide) ?_
        refine r_aload_n C0 106 0 dX5_pack_106 rfl rfl ?_
        refine m_getA C0 107 26 (by decide) fl5_74 rfl dX5_pack_107 ?_
        refine r_iload_n C0 110 1 dX5_pack_110 rfl rfl ?_
        refine m_ld C0 111 x rfl rfl (show x < 60 by omega) dX5_pack_111 ?_
        refine r_iret C 112 dX5_pack_112 (Nat.le_refl _) (Nat.le_refl _) ?_
        exact ⟨by simp only [pckA, hP, hcl, eq_false c_5]; rfl, rfl⟩
      · refine r_tableIn C0 11 113 dX5_pack_11 (by decide) (by decide) rfl (by decide) ?_
        refine r_aload_n C0 113 0 dX5_pack_113 rfl rfl ?_
        refine m_getA C0 114 27 (by decide) fl5_77 rfl dX5_pack_114 ?_
        refine r_iload_n C0 117 1 dX5_pack_117 rfl rfl ?_
        refine m_ld C0 118 x rfl rfl (show x < 60 by omega) dX5_pack_118 ?_
        refine r_iret C 119 dX5_pack_119 (Nat.le_refl _) (Nat.le_refl _) ?_
        exact ⟨by simp only [pckA, hP, hcl, eq_false c_5]; rfl, rfl⟩
    · refine r_tableOut C0 11 120 dX5_pack_11 ho (by decide) ?_
      refine r_iconst C0 120 (-1) dX5_pack_120 (by decide) ?_
      refine r_iret C 121 dX5_pack_121 (Nat.le_refl _) (Nat.le_refl _) ?_
      exact ⟨by simp [pckA, hP, swn ho (c := 0) (by decide), swn ho (c := 1) (by decide), swn ho (c := 2) (by decide), swn ho (c := 3) (by decide), swn ho (c := 4) (by decide), swn ho (c := 5) (by decide), swn ho (c := 6) (by decide), swn ho (c := 7) (by decide), eq_false c_5], rfl⟩
  · rw [hP] at c_5
    refine r_iconst C0 8 (-1) dX5_pack_8 (by decide) ?_
    refine r_iret C 9 dX5_pack_9 (Nat.le_refl _) (Nat.le_refl _) ?_
    exact ⟨by simp [pckA, hP, eq_true c_5], rfl⟩
theorem k5_told (hX : Xok X) {P : Nat} (hP : M 21 0 = nI P) (hP6 : P ≤ 60) (wh : Int32)  : Cn D ar X yX5_told cX5_told 4 (some .int) 0 0 0 0 [.ref h1, .int wh] (mW ar h1 ad M T) (fun r w => r = some (.int (tldA M P wh)) ∧ w = mW ar h1 ad M T) := by
  refine Cn.of (own := RX5) hX (by decide) rfl (Nat.le_of_ble_eq_true rfl) (fun j C => ?_)
  have C0 := C.to
  show j _ 0 0 0 [(0, _), (1, _)] []
  refine r_iconst C0 0 0 dX5_told_0 (by decide) ?_
  refine r_istore_n (lv' := [(0, _), (1, _), (2, _)]) C0 1 2 dX5_told_1 rfl rfl (by decide) rfl ?_
  refine r_iload_n C0 2 1 dX5_told_2 rfl rfl ?_
  rcases swc 6 (by decide) wh with ⟨i, hi, rfl⟩ | ho
  · rcases (show i = 0 ∨ i = 1 ∨ i = 2 ∨ i = 3 ∨ i = 4 ∨ i = 5 by omega) with rfl | rfl | rfl | rfl | rfl | rfl
    · refine r_tableIn C0 3 40 dX5_told_3 (by decide) (by decide) rfl (by decide) ?_
      refine r_aload_n C0 40 0 dX5_told_40 rfl rfl ?_
      refine m_getI C0 41 21 rfl fl5_135 rfl dX5_told_41 ?_
      refine r_iret C 44 dX5_told_44 (Nat.le_refl _) (Nat.le_refl _) ?_
      exact ⟨rfl, rfl⟩
    · refine r_tableIn C0 3 45 dX5_told_3 (by decide) (by decide) rfl (by decide) ?_
      refine r_aload_n C0 45 0 dX5_told_45 rfl rfl ?_
      refine m_getI C0 46 30 rfl fl5_175 rfl dX5_told_46 ?_
      refine r_iret C 49 dX5_told_49 (Nat.le_refl _) (Nat.le_refl _) ?_
      exact ⟨rfl, rfl⟩
    · refine r_tableIn C0 3 50 dX5_told_3 (by decide) (by decide) rfl (by decide) ?_
      refine r_iconst C0 50 0 dX5_told_50 (by decide) ?_
      refine r_istore_n (lv' := [(0, _), (1, _), (2, _), (3, _)]) C0 51 3 dX5_told_51 rfl rfl (by decide) rfl ?_
      refine loopUp (P := P) (f := fun i => j (mW ar h1 ad M T) 0 0 52 [(0, .ref h1), (1, .int (nI 2)), (2, .int (sldN M i)), (3, .int (nI i))] []) (fun i hi ih => ?_) 0 (Nat.zero_le _)
      refine r_iload_n C0 52 3 dX5_told_52 rfl rfl ?_
      refine r_aload_n C0 53 0 dX5_told_53 rfl rfl ?_
      refine m_getI C0 54 21 rfl fl5_135 rfl dX5_told_54 ?_
      refine r_icmp_ge C0 57 85 dX5_told_57 (by decide) (fun c_57 => ?_) (fun c_57 => ?_)
      · have hge : P ≤ i := (nI_leI (by omega) (by omega)).mp (by rw [← hP]; exact c_57)
        refine r_iload_n C0 85 2 dX5_told_85 rfl rfl ?_
        refine r_iret C 86 dX5_told_86 (Nat.le_refl _) (Nat.le_refl _) ?_
        have e : i = P := by omega
        subst e
        exact ⟨rfl, rfl⟩
      · have hlt : i < P := Nat.lt_of_not_le (fun q => c_57 (by rw [hP]; exact nI_le q (by omega)))
        refine r_iload_n C0 60 2 dX5_told_60 rfl rfl ?_
        refine r_aload_n C0 61 0 dX5_told_61 rfl rfl ?_
        refine m_getA C0 62 28 (by decide) fl5_80 rfl dX5_told_62 ?_
        refine r_iload_n C0 65 3 dX5_told_65 rfl rfl ?_
        refine m_ld C0 66 i rfl rfl (show i < 60 by omega) dX5_told_66 ?_
        refine r_bipush C0 67 (-9) dX5_told_67 (by decide) ?_
        refine r_icmp_ne C0 69 76 dX5_told_69 (by decide) (fun c_69 => ?_) (fun c_69 => ?_)
        · refine r_iconst C0 76 1 dX5_told_76 (by decide) ?_
          refine r_iadd C0 77 dX5_told_77 ?_
          refine r_istore_n (lv' := [(0, _), (1, _), (2, _), (3, _)]) C0 78 2 dX5_told_78 rfl rfl (by decide) rfl ?_
          refine r_iinc (lv' := [(0, _), (1, _), (2, _), (3, _)]) C0 79 _ dX5_told_79 rfl rfl rfl (by decide) rfl ?_
          refine r_goto C0 82 52 dX5_told_82 (by decide) ?_
          have h9 := ih hlt
          simp only [sldN, eq_false c_57, eq_false c_69] at h9
          simpa [nI_1] using h9
        · refine r_iconst C0 72 0 dX5_told_72 (by decide) ?_
          refine r_goto C0 73 77 dX5_told_73 (by decide) ?_
          refine r_iadd C0 77 dX5_told_77 ?_
          refine r_istore_n (lv' := [(0, _), (1, _), (2, _), (3, _)]) C0 78 2 dX5_told_78 rfl rfl (by decide) rfl ?_
          refine r_iinc (lv' := [(0, _), (1, _), (2, _), (3, _)]) C0 79 _ dX5_told_79 rfl rfl rfl (by decide) rfl ?_
          refine r_goto C0 82 52 dX5_told_82 (by decide) ?_
          have h9 := ih hlt
          simp only [sldN, eq_false c_57, eq_true c_69] at h9
          simpa [nI_1] using h9
    · refine r_tableIn C0 3 87 dX5_told_3 (by decide) (by decide) rfl (by decide) ?_
      refine r_iconst C0 87 0 dX5_told_87 (by decide) ?_
      refine r_istore_n (lv' := [(0, _), (1, _), (2, _), (3, _)]) C0 88 3 dX5_told_88 rfl rfl (by decide) rfl ?_
      refine loopUp (P := P) (f := fun i => j (mW ar h1 ad M T) 0 0 89 [(0, .ref h1), (1, .int (nI 3)), (2, .int (hldN M i)), (3, .int (nI i))] []) (fun i hi ih => ?_) 0 (Nat.zero_le _)
      refine r_iload_n C0 89 3 dX5_told_89 rfl rfl ?_
      refine r_aload_n C0 90 0 dX5_told_90 rfl rfl ?_
      refine m_getI C0 91 21 rfl fl5_135 rfl dX5_told_91 ?_
      refine r_icmp_ge C0 94 120 dX5_told_94 (by decide) (fun c_94 => ?_) (fun c_94 => ?_)
      · have hge : P ≤ i := (nI_leI (by omega) (by omega)).mp (by rw [← hP]; exact c_94)
        refine r_iload_n C0 120 2 dX5_told_120 rfl rfl ?_
        refine r_iret C 121 dX5_told_121 (Nat.le_refl _) (Nat.le_refl _) ?_
        have e : i = P := by omega
        subst e
        exact ⟨rfl, rfl⟩
      · have hlt : i < P := Nat.lt_of_not_le (fun q => c_94 (by rw [hP]; exact nI_le q (by omega)))
        refine r_iload_n C0 97 2 dX5_told_97 rfl rfl ?_
        refine r_aload_n C0 98 0 dX5_told_98 rfl rfl ?_
        refine m_getA C0 99 29 (by decide) fl5_83 rfl dX5_told_99 ?_
        refine r_iload_n C0 102 3 dX5_told_102 rfl rfl ?_
        refine m_ldz C0 103 i rfl rfl (show i < 60 by omega) dX5_told_103 ?_
        refine r_if_eq C0 104 111 dX5_told_104 (by decide) (fun c_104 => ?_) (fun c_104 => ?_)
        · refine r_iconst C0 111 0 dX5_told_111 (by decide) ?_
          refine r_iadd C0 112 dX5_told_112 ?_
          refine r_istore_n (lv' := [(0, _), (1, _), (2, _), (3, _)]) C0 113 2 dX5_told_113 rfl rfl (by decide) rfl ?_
          refine r_iinc (lv' := [(0, _), (1, _), (2, _), (3, _)]) C0 114 _ dX5_told_114 rfl rfl rfl (by decide) rfl ?_
          refine r_goto C0 117 89 dX5_told_117 (by decide) ?_
          have h9 := ih hlt
          simp only [hldN, eq_false c_94, eq_true c_104] at h9
          simpa [nI_1] using h9
        · refine r_iconst C0 107 1 dX5_told_107 (by decide) ?_
          refine r_goto C0 108 112 dX5_told_108 (by decide) ?_
          refine r_iadd C0 112 dX5_told_112 ?_
          refine r_istore_n (lv' := [(0, _), (1, _), (2, _), (3, _)]) C0 113 2 dX5_told_113 rfl rfl (by decide) rfl ?_
          refine r_iinc (lv' := [(0, _), (1, _), (2, _), (3, _)]) C0 114 _ dX5_told_114 rfl rfl rfl (by decide) rfl ?_
          refine r_goto C0 117 89 dX5_told_117 (by decide) ?_
          have h9 := ih hlt
          simp only [hldN, eq_false c_94, eq_false c_104] at h9
          simpa [nI_1] using h9
    · refine r_tableIn C0 3 122 dX5_told_3 (by decide) (by decide) rfl (by decide) ?_
      refine r_aload_n C0 122 0 dX5_told_122 rfl rfl ?_
      refine m_getI C0 123 35 rfl fl5_98 rfl dX5_told_123 ?_
      refine r_iret C 126 dX5_told_126 (Nat.le_refl _) (Nat.le_refl _) ?_
      exact ⟨rfl, rfl⟩
    · refine r_tableIn C0 3 127 dX5_told_3 (by decide) (by decide) rfl (by decide) ?_
      refine r_aload_n C0 127 0 dX5_told_127 rfl rfl ?_
      refine m_getI C0 128 36 rfl fl5_144 rfl dX5_told_128 ?_
      refine r_iret C 131 dX5_told_131 (Nat.le_refl _) (Nat.le_refl _) ?_
      exact ⟨rfl, rfl⟩
  · refine r_tableOut C0 3 132 dX5_told_3 ho (by decide) ?_
    refine r_sipush C0 132 (-1000) dX5_told_132 (by decide) ?_
    refine r_iret C 135 dX5_told_135 (Nat.le_refl _) (Nat.le_refl _) ?_
    exact ⟨by simp [tldA, swn ho (c := 0) (by decide), swn ho (c := 1) (by decide), swn ho (c := 2) (by decide), swn ho (c := 3) (by decide), swn ho (c := 4) (by decide), swn ho (c := 5) (by decide)], rfl⟩
theorem k5_order (hX : Xok X) {O : Nat} (hO : M 30 0 = nI O) (hO6 : O ≤ 6) (g n w9 : Int32)  : Cn D ar X yX5_order cX5_order 4 (some .int) 1 22 0 0 [.ref h1, .int g, .int n, .int w9] (mW ar h1 ad M T) (fun r w => r = some (.int (ordA M O g n w9).2) ∧ w = mW ar h1 ad (ordA M O g n w9).1 T) := by
  refine Cn.of (own := RX5) hX (by decide) rfl (Nat.le_of_ble_eq_true rfl) (fun j C => ?_)
  have C0 := C.to
  show j _ 0 0 0 [(0, _), (1, _), (2, _), (3, _)] []
  refine r_iload_n C0 0 1 dX5_order_0 rfl rfl ?_
  refine r_iconst C0 1 0 dX5_order_1 (by decide) ?_
  refine r_iconst C0 2 5 dX5_order_2 (by decide) ?_
  refine s_call (As := [.int _, .int _, .int _]) C0 3 3 (k5_in hX _ _ _ _) (rm5_in (by decide) (by decide) (Nat.le_refl _) (Nat.le_refl _)) ml5_102 st5_in rfl (Nat.le_of_ble_eq_true rfl) dX5_order_3 ?_
  rintro _ _ ⟨rfl, rfl⟩
  refine r_if_eq C0 6 30 dX5_order_6 (by decide) (fun c_6 => ?_) (fun c_6 => ?_)
  · refine r_iconst C0 30 (-1) dX5_order_30 (by decide) ?_
    refine r_iret C 31 dX5_order_31 (Nat.le_refl _) (Nat.le_refl _) ?_
    exact ⟨by simp [ordA, eq_true c_6], by simp [ordA, eq_true c_6]⟩
  · refine r_iload_n C0 9 2 dX5_order_9 rfl rfl ?_
    refine r_iconst C0 10 1 dX5_order_10 (by decide) ?_
    refine r_bipush C0 11 9 dX5_order_11 (by decide) ?_
    refine s_call (As := [.int _, .int _, .int _]) C0 13 3 (k5_in hX _ _ _ _) (rm5_in (by decide) (by decide) (Nat.le_refl _) (Nat.le_refl _)) ml5_102 st5_in rfl (Nat.le_of_ble_eq_true rfl) dX5_order_13 ?_
    rintro _ _ ⟨rfl, rfl⟩
    refine r_if_eq C0 16 30 dX5_order_16 (by decide) (fun c_16 => ?_) (fun c_16 => ?_)
    · refine r_iconst C0 30 (-1) dX5_order_30 (by decide) ?_
      refine r_iret C 31 dX5_order_31 (Nat.le_refl _) (Nat.le_refl _) ?_
      exact ⟨by simp [ordA, eq_false c_6, eq_true c_16], by simp [ordA, eq_false c_6, eq_true c_16]⟩
    · refine r_iload_n C0 19 3 dX5_order_19 rfl rfl ?_
      refine r_iconst C0 20 1 dX5_order_20 (by decide) ?_
      refine r_sipush C0 21 1000 dX5_order_21 (by decide) ?_
      refine s_call (As := [.int _, .int _, .int _]) C0 24 3 (k5_in hX _ _ _ _) (rm5_in (by decide) (by decide) (Nat.le_refl _) (Nat.le_refl _)) ml5_102 st5_in rfl (Nat.le_of_ble_eq_true rfl) dX5_order_24 ?_
      rintro _ _ ⟨rfl, rfl⟩
      refine r_if_ne C0 27 32 dX5_order_27 (by decide) (fun c_27 => ?_) (fun c_27 => ?_)
      · refine r_aload_n C0 32 0 dX5_order_32 rfl rfl ?_
        refine m_getI C0 33 30 rfl fl5_175 rfl dX5_order_33 ?_
        refine r_bipush C0 36 6 dX5_order_36 (by decide) ?_
        refine r_icmp_ne C0 38 44 dX5_order_38 (by decide) (fun c_38 => ?_) (fun c_38 => ?_)
        · have hlt : O < 6 := Nat.lt_of_le_of_ne hO6 (fun q => c_38 (by rw [hO, q]; rfl))
          refine r_aload_n C0 44 0 dX5_order_44 rfl rfl ?_
          refine m_getA C0 45 31 (by decide) fl5_86 rfl dX5_order_45 ?_
          refine r_aload_n C0 48 0 dX5_order_48 rfl rfl ?_
          refine m_getI C0 49 30 rfl fl5_175 rfl dX5_order_49 ?_
          refine r_iload_n C0 52 1 dX5_order_52 rfl rfl ?_
          refine m_st C0 53 O rfl hO hlt dX5_order_53 ?_
          refine r_aload_n C0 54 0 dX5_order_54 rfl rfl ?_
          refine m_getA C0 55 32 (by decide) fl5_89 rfl dX5_order_55 ?_
          refine r_aload_n C0 58 0 dX5_order_58 rfl rfl ?_
          refine m_getI C0 59 30 rfl fl5_175 rfl dX5_order_59 ?_
          refine r_iload_n C0 62 2 dX5_order_62 rfl rfl ?_
          refine m_st C0 63 O rfl hO hlt dX5_order_63 ?_
          refine r_aload_n C0 64 0 dX5_order_64 rfl rfl ?_
          refine m_getA C0 65 33 (by decide) fl5_92 rfl dX5_order_65 ?_
          refine r_aload_n C0 68 0 dX5_order_68 rfl rfl ?_
          refine m_getI C0 69 30 rfl fl5_175 rfl dX5_order_69 ?_
          refine r_iload_n C0 72 3 dX5_order_72 rfl rfl ?_
          refine m_st C0 73 O rfl hO hlt dX5_order_73 ?_
          refine r_aload_n C0 74 0 dX5_order_74 rfl rfl ?_
          refine m_getA C0 75 34 (by decide) fl5_95 rfl dX5_order_75 ?_
          refine r_aload_n C0 78 0 dX5_order_78 rfl rfl ?_
          refine m_getI C0 79 30 rfl fl5_175 rfl dX5_order_79 ?_
          refine r_iconst C0 82 0 dX5_order_82 (by decide) ?_
          refine m_stz C0 83 O rfl hO hlt rfl dX5_order_83 ?_
          refine r_aload_n C0 84 0 dX5_order_84 rfl rfl ?_
          refine r_dup C0 85 dX5_order_85 rfl ?_
          refine m_getI C0 86 30 rfl fl5_175 rfl dX5_order_86 ?_
          refine r_iconst C0 89 1 dX5_order_89 (by decide) ?_
          refine r_iadd C0 90 dX5_order_90 ?_
          refine m_put C0 91 30 rfl fl5_175 rfl dX5_order_91 ?_
          refine r_aload_n C0 94 0 dX5_order_94 rfl rfl ?_
          refine m_getI C0 95 30 rfl fl5_175 rfl dX5_order_95 ?_
          refine r_iconst C0 98 1 dX5_order_98 (by decide) ?_
          refine r_isub C0 99 dX5_order_99 ?_
          refine r_iret C 100 dX5_order_100 (Nat.le_refl _) (Nat.le_refl _) ?_
          exact ⟨by simp only [ordA, eq_false c_6, eq_false c_16, eq_false c_27, eq_false c_38]; rfl, by simp only [ordA, eq_false c_6, eq_false c_16, eq_false c_27, eq_false c_38]; rfl⟩
        · refine r_bipush C0 41 (-3) dX5_order_41 (by decide) ?_
          refine r_iret C 43 dX5_order_43 (Nat.le_refl _) (Nat.le_refl _) ?_
          exact ⟨by simp [ordA, eq_false c_6, eq_false c_16, eq_false c_27, eq_true c_38], by simp [ordA, eq_false c_6, eq_false c_16, eq_false c_27, eq_true c_38]⟩
      · refine r_iconst C0 30 (-1) dX5_order_30 (by decide) ?_
        refine r_iret C 31 dX5_order_31 (Nat.le_refl _) (Nat.le_refl _) ?_
        exact ⟨by simp [ordA, eq_false c_6, eq_false c_16, eq_true c_27], by simp [ordA, eq_false c_6, eq_false c_16, eq_true c_27]⟩
def srvA (M : Nat → Nat → Int32) (P O : Nat) : (Nat → Nat → Int32) × Int32 := serN M (bestS M P O) P O
theorem k5_serve (hX : Xok X) {P O : Nat} (hP : M 21 0 = nI P) (hP6 : P ≤ 60) (hO : M 30 0 = nI O) (hO6 : O ≤ 6)  : Cn D ar X yX5_serve cX5_serve 6 (some .int) 4 91 0 0 [.ref h1] (mW ar h1 ad M T) (fun r w => r = some (.int (srvA M P O).2) ∧ w = mW ar h1 ad (srvA M P O).1 T) := by
  refine Cn.of (own := RX5) hX (by decide) rfl (Nat.le_of_ble_eq_true rfl) (fun j C => ?_)
  have C0 := C.to
  show j _ 0 0 0 [(0, _)] []
  refine r_aload_n C0 0 0 dX5_serve_0 rfl rfl ?_
  refine m_call (As := []) C0 1 0 (k5_bestSet hX hP hP6 hO hO6) (rm5_bestSet (by decide) (by decide) (Nat.le_refl _) (Nat.le_refl _)) ml5_184 im5_bestSet se5_bestSet rfl (Nat.le_of_ble_eq_true rfl) dX5_serve_1 ?_
  rintro _ _ ⟨rfl, rfl⟩
  refine r_istore_n (lv' := [(0, _), (1, _)]) C0 4 1 dX5_serve_4 rfl rfl (by decide) rfl ?_
  refine r_iconst C0 5 0 dX5_serve_5 (by decide) ?_
  refine r_istore_n (lv' := [(0, _), (1, _), (2, _)]) C0 6 2 dX5_serve_6 rfl rfl (by decide) rfl ?_
  refine r_iconst C0 7 0 dX5_serve_7 (by decide) ?_
  refine r_istore_n (lv' := [(0, _), (1, _), (2, _), (3, _)]) C0 8 3 dX5_serve_8 rfl rfl (by decide) rfl ?_
  generalize hz : bestS M P O = z
  have hgoal : srvA M P O = serN M z P O := by unfold srvA; rw [hz]
  have hO9 : ∀ i, (serN M z P i).1 30 0 = nI O := fun i => by rw [serN_n (by decide) (by decide)]; exact hO
  have hP9 : ∀ (i q : Nat), (selN (serN M z P i).1 ((serN M z P i).1 31 i) (nI i) ((serN M z P i).1 32 i) (serN M z P i).2 q).1 21 0 = nI P := fun i q => by rw [selN_n (by decide), serN_n (by decide) (by decide)]; exact hP
  refine loopUp (P := O) (f := fun i => j (mW ar h1 ad (serN M z P i).1 T) 0 0 9 [(0, .ref h1), (1, .int z), (2, .int (serN M z P i).2), (3, .int (nI i))] []) (fun i hi ih => ?_) 0 (Nat.zero_le _)
  refine r_iload_n C0 9 3 dX5_serve_9 rfl rfl ?_
  refine r_aload_n C0 10 0 dX5_serve_10 rfl rfl ?_
  refine m_getI C0 11 30 rfl fl5_175 rfl dX5_serve_11 ?_
  refine r_icmp_ge C0 14 109 dX5_serve_14 (by decide) (fun c_14 => ?_) (fun c_14 => ?_)
  · have hge : O ≤ i := (nI_leI (by omega) (by omega)).mp (by rw [← hO9 i]; exact c_14)
    refine r_iload_n C0 109 2 dX5_serve_109 rfl rfl ?_
    refine r_iret C 110 dX5_serve_110 (Nat.le_refl _) (Nat.le_refl _) ?_
    have e : i = O := by omega
    subst e
    rw [hgoal]
    exact ⟨rfl, rfl⟩
  · have hlt : i < O := Nat.lt_of_not_le (fun q => c_14 (by rw [hO9 i]; exact nI_le q (by omega)))
    refine r_iload_n C0 17 1 dX5_serve_17 rfl rfl ?_
    refine r_iload_n C0 18 3 dX5_serve_18 rfl rfl ?_
    refine r_ishr C0 19 dX5_serve_19 ?_
    refine r_iconst C0 20 1 dX5_serve_20 (by decide) ?_
    refine r_iand C0 21 dX5_serve_21 ?_
    refine r_iconst C0 22 1 dX5_serve_22 (by decide) ?_
    refine r_icmp_ne C0 23 103 dX5_serve_23 (by decide) (fun c_23 => ?_) (fun c_23 => ?_)
    · refine r_iinc (lv' := [(0, _), (1, _), (2, _), (3, _)]) C0 103 _ dX5_serve_103 rfl rfl rfl (by decide) rfl ?_
      refine r_goto C0 106 9 dX5_serve_106 (by decide) ?_
      have h9 := ih hlt
      have e9 : serN M z P (i + 1) = serN M z P i := by
        show (if bitN z i = 1 then _ else _ : (Nat → Nat → Int32) × Int32) = _
        rw [if_neg (show ¬ bitN z i = 1 from c_23)]
      rw [e9, ← nI_1] at h9
      exact h9
    · refine r_aload_n C0 26 0 dX5_serve_26 rfl rfl ?_
      refine m_getA C0 27 32 (by decide) fl5_89 rfl dX5_serve_27 ?_
      refine r_iload_n C0 30 3 dX5_serve_30 rfl rfl ?_
      refine m_ld C0 31 i rfl rfl (show i < 6 by omega) dX5_serve_31 ?_
      refine r_istore (lv' := [(0, _), (1, _), (2, _), (3, _), (4, _)]) C0 32 dX5_serve_32 rfl (by decide) rfl ?_
      refine r_iconst C0 34 0 dX5_serve_34 (by decide) ?_
      refine r_istore (lv' := [(0, _), (1, _), (2, _), (3, _), (4, _), (5, _)]) C0 35 dX5_serve_35 rfl (by decide) rfl ?_
      refine loopUp (P := P) (f := fun q => j (mW ar h1 ad (selN (serN M z P i).1 ((serN M z P i).1 31 i) (nI i) ((serN M z P i).1 32 i) (serN M z P i).2 q).1 T) 0 0 37 [(0, .ref h1), (1, .int z), (2, .int (selN (serN M z P i).1 ((serN M z P i).1 31 i) (nI i) ((serN M z P i).1 32 i) (serN M z P i).2 q).2.2), (3, .int (nI i)), (4, .int (selN (serN M z P i).1 ((serN M z P i).1 31 i) (nI i) ((serN M z P i).1 32 i) (serN M z P i).2 q).2.1), (5, .int (nI q))] []) (fun q hq ihq => ?_) 0 (Nat.zero_le _)
      refine r_iload C0 37 dX5_serve_37 rfl ?_
      refine r_aload_n C0 39 0 dX5_serve_39 rfl rfl ?_
      refine m_getI C0 40 21 rfl fl5_135 rfl dX5_serve_40 ?_
      refine r_icmp_ge C0 43 96 dX5_serve_43 (by decide) (fun c_43 => ?_) (fun c_43 => ?_)
      · have hge : P ≤ q := (nI_leI (by omega) (by omega)).mp (by rw [← hP9 i q]; exact c_43)
        have e8 : q = P := by omega
        rw [e8]
        refine r_aload_n C0 96 0 dX5_serve_96 rfl rfl ?_
        refine m_getA C0 97 34 (by decide) fl5_95 rfl dX5_serve_97 ?_
        refine r_iload_n C0 100 3 dX5_serve_100 rfl rfl ?_
        refine r_iconst C0 101 1 dX5_serve_101 (by decide) ?_
        refine m_stz C0 102 i rfl rfl (show i < 6 by omega) rfl dX5_serve_102 ?_
        refine r_iinc (lv' := [(0, _), (1, _), (2, _), (3, _), (4, _), (5, _)]) C0 103 _ dX5_serve_103 rfl rfl rfl (by decide) rfl ?_
        refine r_goto C0 106 9 dX5_serve_106 (by decide) ?_
        have h9 := ih hlt
        have e9 : serN M z P (i + 1) = (up2 (selN (serN M z P i).1 ((serN M z P i).1 31 i) (nI i) ((serN M z P i).1 32 i) (serN M z P i).2 P).1 34 i 1, (selN (serN M z P i).1 ((serN M z P i).1 31 i) (nI i) ((serN M z P i).1 32 i) (serN M z P i).2 P).2.2) := by
          show (if bitN z i = 1 then _ else _ : (Nat → Nat → Int32) × Int32) = _
          rw [if_pos (show bitN z i = 1 from c_23)]
        rw [e9, ← nI_1] at h9
        refine r_drop C0 ?_ h9
        simp
      · have hltq : q < P := Nat.lt_of_not_le (fun r => c_43 (by rw [hP9 i q]; exact nI_le r (by omega)))
        refine r_iload C0 46 dX5_serve_46 rfl ?_
        refine r_if_le C0 48 96 dX5_serve_48 (by decide) (fun c_48 => ?_) (fun c_48 => ?_)
        · have e8 := selN_stop c_48 (P - q)
          rw [show q + (P - q) = P by omega] at e8
          rw [← e8]
          refine r_aload_n C0 96 0 dX5_serve_96 rfl rfl ?_
          refine m_getA C0 97 34 (by decide) fl5_95 rfl dX5_serve_97 ?_
          refine r_iload_n C0 100 3 dX5_serve_100 rfl rfl ?_
          refine r_iconst C0 101 1 dX5_serve_101 (by decide) ?_
          refine m_stz C0 102 i rfl rfl (show i < 6 by omega) rfl dX5_serve_102 ?_
          refine r_iinc (lv' := [(0, _), (1, _), (2, _), (3, _), (4, _), (5, _)]) C0 103 _ dX5_serve_103 rfl rfl rfl (by decide) rfl ?_
          refine r_goto C0 106 9 dX5_serve_106 (by decide) ?_
          have h9 := ih hlt
          have e9 : serN M z P (i + 1) = (up2 (selN (serN M z P i).1 ((serN M z P i).1 31 i) (nI i) ((serN M z P i).1 32 i) (serN M z P i).2 P).1 34 i 1, (selN (serN M z P i).1 ((serN M z P i).1 31 i) (nI i) ((serN M z P i).1 32 i) (serN M z P i).2 P).2.2) := by
            show (if bitN z i = 1 then _ else _ : (Nat → Nat → Int32) × Int32) = _
            rw [if_pos (show bitN z i = 1 from c_23)]
          rw [e9, ← nI_1] at h9
          refine r_drop C0 ?_ h9
          simp
        · refine r_aload_n C0 51 0 dX5_serve_51 rfl rfl ?_
          refine m_getA C0 52 22 (by decide) fl5_62 rfl dX5_serve_52 ?_
          refine r_iload C0 55 dX5_serve_55 rfl ?_
          refine m_ld C0 57 q rfl rfl (show q < 60 by omega) dX5_serve_57 ?_
          refine r_aload_n C0 58 0 dX5_serve_58 rfl rfl ?_
          refine m_getA C0 59 31 (by decide) fl5_86 rfl dX5_serve_59 ?_
          refine r_iload_n C0 62 3 dX5_serve_62 rfl rfl ?_
          refine m_ld C0 63 i rfl rfl (show i < 6 by omega) dX5_serve_63 ?_
          rw [show (selN (serN M z P i).1 ((serN M z P i).1 31 i) (nI i) ((serN M z P i).1 32 i) (serN M z P i).2 q).1 31 i = (serN M z P i).1 31 i by rw [selN_n (by decide)]]
          refine r_icmp_ne C0 64 90 dX5_serve_64 (by decide) (fun c_64 => ?_) (fun c_64 => ?_)
          · refine r_iinc (lv' := [(0, _), (1, _), (2, _), (3, _), (4, _), (5, _)]) C0 90 _ dX5_serve_90 rfl rfl rfl (by decide) rfl ?_
            refine r_goto C0 93 37 dX5_serve_93 (by decide) ?_
            have h9 := ihq hltq
            simp only [selN, seq1, eq_false c_43, eq_false c_48, eq_false c_64] at h9
            simpa [nI_1] using h9
          · refine r_aload_n C0 67 0 dX5_serve_67 rfl rfl ?_
            refine r_iload C0 68 dX5_serve_68 rfl ?_
            refine m_call (As := [.int _]) C0 70 1 (k5_isFree hX (by omega)) (rm5_isFree (by decide) (by decide) (Nat.le_refl _) (Nat.le_refl _)) ml5_169 im5_isFree se5_isFree rfl (Nat.le_of_ble_eq_true rfl) dX5_serve_70 ?_
            rintro _ _ ⟨rfl, rfl⟩
            refine r_if_eq C0 73 90 dX5_serve_73 (by decide) (fun c_73 => ?_) (fun c_73 => ?_)
            · refine r_iinc (lv' := [(0, _), (1, _), (2, _), (3, _), (4, _), (5, _)]) C0 90 _ dX5_serve_90 rfl rfl rfl (by decide) rfl ?_
              refine r_goto C0 93 37 dX5_serve_93 (by decide) ?_
              have h9 := ihq hltq
              simp only [selN, seq1, eq_false c_43, eq_false c_48, eq_true c_64, eq_true c_73] at h9
              simpa [nI_1] using h9
            · refine r_aload_n C0 76 0 dX5_serve_76 rfl rfl ?_
              refine m_getA C0 77 28 (by decide) fl5_80 rfl dX5_serve_77 ?_
              refine r_iload C0 80 dX5_serve_80 rfl ?_
              refine r_iload_n C0 82 3 dX5_serve_82 rfl rfl ?_
              refine m_st C0 83 q rfl rfl (show q < 60 by omega) dX5_serve_83 ?_
              refine r_iinc (lv' := [(0, _), (1, _), (2, _), (3, _), (4, _), (5, _)]) C0 84 _ dX5_serve_84 rfl rfl rfl (by decide) rfl ?_
              refine r_iinc (lv' := [(0, _), (1, _), (2, _), (3, _), (4, _), (5, _)]) C0 87 _ dX5_serve_87 rfl rfl rfl (by decide) rfl ?_
              refine r_iinc (lv' := [(0, _), (1, _), (2, _), (3, _), (4, _), (5, _)]) C0 90 _ dX5_serve_90 rfl rfl rfl (by decide) rfl ?_
              refine r_goto C0 93 37 dX5_serve_93 (by decide) ?_
              have h9 := ihq hltq
              simp only [selN, seq1, eq_false c_43, eq_false c_48, eq_true c_64, eq_false c_73] at h9
              simpa [nI_1] using h9
end M8
end
section
/-! the model: count, packer, at, barn, grade, on, egg -/
def allN (M : Nat → Nat → Int32) (f : Nat) : Int32 := M 15 f + M 15 (f + 1) + M 15 (f + 2) + M 15 (f + 3)
def linN (M : Nat → Nat → Int32) : Nat → Int32
  | 0 => 0
  | k + 1 => linN M k + (if M 10 k ≤ 0 then 0 else 1)
def cntA (M : Nat → Nat → Int32) (wh : Int32) : Int32 := if wh = 0 then M 0 0 else if wh = 1 then M 8 0 else if wh = 2 then linN M 16 else if wh = 3 then M 11 0 else if wh = 4 then allN M 0 else if wh = 5 then allN M 4 else if wh = 6 then allN M 8 else if wh = 7 then M 19 0 + M 19 1 + M 19 2 + M 19 3 else if wh = 8 then 6 * M 21 0 else if wh = 9 then M 14 0 else -1
def btsN (M : Nat → Nat → Int32) (x : Nat) : Nat → Int32
  | 0 => 0
  | k + 1 => btsN M x k ||| (1 <<< (M 1 (M 20 (6 * x + k)).toNatClampNeg &&& 31))
/-- the trays: at most 6 eggs each, each an egg below E -/
def TrOK (M : Nat → Nat → Int32) (E : Nat) : Prop := ∀ p, p < 4 → ∃ t : Nat, t ≤ 6 ∧ M 19 p = nI t ∧ ∀ k, k < t → ∃ e : Nat, e < E ∧ M 20 (6 * p + k) = nI e
def pkrA (M : Nat → Nat → Int32) (p wh : Int32) : Int32 := if inR p 0 3 = 0 then -1 else if wh = 0 then M 16 p.toNatClampNeg else if wh = 1 then if M 17 p.toNatClampNeg = 0 then 1 else 0 else if wh = 2 then M 19 p.toNatClampNeg else if wh = 3 then M 18 p.toNatClampNeg else if wh = 4 then btsN M p.toNatClampNeg (M 19 p.toNatClampNeg).toNatClampNeg else -1
def LiOK (M : Nat → Nat → Int32) (E : Nat) : Prop := ∀ k, k < 16 → ∃ v : Nat, v ≤ E ∧ M 10 k = nI v
def atA (M : Nat → Nat → Int32) (pl wh : Int32) : Int32 := if inR pl 0 15 = 0 then -1 else if inR wh 0 4 = 0 then -1 else
  if 0 ≤ M 10 pl.toNatClampNeg - 1 then if wh = 0 then M 10 pl.toNatClampNeg - 1 else if wh = 1 then M 1 (M 10 pl.toNatClampNeg - 1).toNatClampNeg else if wh = 2 then M 2 (M 10 pl.toNatClampNeg - 1).toNatClampNeg else if wh = 3 then if 2 ≤ pl then M 6 (M 10 pl.toNatClampNeg - 1).toNatClampNeg else 0 else if 2 ≤ pl then gradeN (M 6 (M 10 pl.toNatClampNeg - 1).toNatClampNeg) else -9 else -9
def brnA (M : Nat → Nat → Int32) (b wh : Int32) : Int32 := if inR b 0 3 = 0 then -1 else if inR wh 0 4 = 0 then -1 else if wh = 0 then M 15 (16 + b.toNatClampNeg) else M 15 (4 * (wh.toNatClampNeg - 1) + b.toNatClampNeg)
def grdA (M : Nat → Nat → Int32) (p v : Int32) : (Nat → Nat → Int32) × Int32 := if inR p 0 3 = 0 then (M, -1) else if inR v 0 5 = 0 then (M, -1) else if M 19 p.toNatClampNeg ≤ 0 then (up2 M 16 p.toNatClampNeg v, M 16 p.toNatClampNeg) else (M, -2)
def onA (M : Nat → Nat → Int32) (p z : Int32) : (Nat → Nat → Int32) × Int32 := if inR p 0 3 = 0 then (M, -1) else (up2 M 17 p.toNatClampNeg (if z = 0 then 1 else 0), if M 17 p.toNatClampNeg = 0 then 1 else 0)
def eggM (M : Nat → Nat → Int32) (E Q : Nat) (b w t r d : Int32) : Nat → Nat → Int32 :=
  up2 (up2 (up2 (up2 (up2 (up2 (up2 (up2 (up2 M 1 E b) 2 E w) 3 E t) 4 E r) 5 E d) 9 Q (M 0 0)) 8 0 (M 8 0 + 1)) 15 (16 + b.toNatClampNeg) (M 15 (16 + b.toNatClampNeg) + 1)) 0 0 (M 0 0 + 1)
def eggA (M : Nat → Nat → Int32) (E Q : Nat) (b w t r d : Int32) : (Nat → Nat → Int32) × Int32 := if inR b 0 3 = 0 then (M, -1) else if inR w 30 90 = 0 then (M, -1) else if inR t 0 15 = 0 then (M, -1) else if inR r 0 9 = 0 then (M, -1) else if inR d 0 3 = 0 then (M, -1) else if M 8 0 = 20 then (M, -3) else (eggM M E Q b w t r d, M 0 0 + 1 - 1)
theorem inR_3 {v : Int32} (h : ¬ inR v 0 3 = 0) : ∃ x : Nat, x < 4 ∧ v = nI x := by
  obtain ⟨x, hx, e⟩ := inR_x (n := 3) rfl h
  exact ⟨x, by omega, e⟩
theorem nI_add' {a b : Nat} {x y : Int32} (hx : x = nI a) (hy : y = nI b) : x + y = nI (a + b) := by
  rw [hx, hy, nI_add]
theorem nI_mul' {a b : Nat} {x y : Int32} (hx : x = nI a) (hy : y = nI b) : x * y = nI (a * b) := by
  rw [hx, hy, pk_mul]
theorem nI_pr {v : Nat} {x : Int32} (hx : x = nI v) (hv : 0 < v) : x - 1 = nI (v - 1) := by
  rw [hx]
  exact pk_sub (a := v) (b := 1) hv
theorem nI_prn {v : Nat} {x : Int32} (hx : x = nI v) (hv : v < 2 ^ 30) : 0 ≤ x - 1 ↔ 0 < v := by
  rw [Int32.le_iff_toInt_le, hx, nI_m1 hv]
  show (0 : Int) ≤ _ ↔ _
  omega

section M9
variable {D : va_G} {ar : Nat → ClassId} {X : XT} {h1 : Nat} {ad : Nat → Nat} {M : Nat → Nat → Int32} {T : Int64}
theorem k5_allBarns (hX : Xok X) {x : Nat} (hx : x ≤ 8)  : Cn D ar X yX5_allBarns cX5_allBarns 2 (some .int) 0 0 0 0 [.ref h1, .int (nI x)] (mW ar h1 ad M T) (fun r w => r = some (.int (allN M x)) ∧ w = mW ar h1 ad M T) := by
  refine Cn.of (own := RX5) hX (by decide) rfl (Nat.le_of_ble_eq_true rfl) (fun j C => ?_)
  have C0 := C.to
  show j _ 0 0 0 [(0, _), (1, _)] []
  refine r_aload_n C0 0 0 dX5_allBarns_0 rfl rfl ?_
  refine m_getA C0 1 15 (by decide) fl5_43 rfl dX5_allBarns_1 ?_
  refine r_iload_n C0 4 1 dX5_allBarns_4 rfl rfl ?_
  refine m_ld C0 5 x rfl rfl (show x < 20 by omega) dX5_allBarns_5 ?_
  refine r_aload_n C0 6 0 dX5_allBarns_6 rfl rfl ?_
  refine m_getA C0 7 15 (by decide) fl5_43 rfl dX5_allBarns_7 ?_
  refine r_iload_n C0 10 1 dX5_allBarns_10 rfl rfl ?_
  refine r_iconst C0 11 1 dX5_allBarns_11 (by decide) ?_
  refine r_iadd C0 12 dX5_allBarns_12 ?_
  refine m_ld C0 13 (x + 1) rfl (nI_add x 1) (show _ < 20 by omega) dX5_allBarns_13 ?_
  refine r_iadd C0 14 dX5_allBarns_14 ?_
  refine r_aload_n C0 15 0 dX5_allBarns_15 rfl rfl ?_
  refine m_getA C0 16 15 (by decide) fl5_43 rfl dX5_allBarns_16 ?_
  refine r_iload_n C0 19 1 dX5_allBarns_19 rfl rfl ?_
  refine r_iconst C0 20 2 dX5_allBarns_20 (by decide) ?_
  refine r_iadd C0 21 dX5_allBarns_21 ?_
  refine m_ld C0 22 (x + 2) rfl (nI_add x 2) (show _ < 20 by omega) dX5_allBarns_22 ?_
  refine r_iadd C0 23 dX5_allBarns_23 ?_
  refine r_aload_n C0 24 0 dX5_allBarns_24 rfl rfl ?_
  refine m_getA C0 25 15 (by decide) fl5_43 rfl dX5_allBarns_25 ?_
  refine r_iload_n C0 28 1 dX5_allBarns_28 rfl rfl ?_
  refine r_iconst C0 29 3 dX5_allBarns_29 (by decide) ?_
  refine r_iadd C0 30 dX5_allBarns_30 ?_
  refine m_ld C0 31 (x + 3) rfl (nI_add x 3) (show _ < 20 by omega) dX5_allBarns_31 ?_
  refine r_iadd C0 32 dX5_allBarns_32 ?_
  refine r_iret C 33 dX5_allBarns_33 (Nat.le_refl _) (Nat.le_refl _) ?_
  exact ⟨rfl, rfl⟩
theorem k5_count (hX : Xok X) (wh : Int32)  : Cn D ar X yX5_count cX5_count 4 (some .int) 1 21 0 0 [.ref h1, .int wh] (mW ar h1 ad M T) (fun r w => r = some (.int (cntA M wh)) ∧ w = mW ar h1 ad M T) := by
  refine Cn.of (own := RX5) hX (by decide) rfl (Nat.le_of_ble_eq_true rfl) (fun j C => ?_)
  have C0 := C.to
  show j _ 0 0 0 [(0, _), (1, _)] []
  refine r_iconst C0 0 0 dX5_count_0 (by decide) ?_
  refine r_istore_n (lv' := [(0, _), (1, _), (2, _)]) C0 1 2 dX5_count_1 rfl rfl (by decide) rfl ?_
  refine r_iload_n C0 2 1 dX5_count_2 rfl rfl ?_
  rcases swc 10 (by decide) wh with ⟨i, hi, rfl⟩ | ho
  · rcases (show i = 0 ∨ i = 1 ∨ i = 2 ∨ i = 3 ∨ i = 4 ∨ i = 5 ∨ i = 6 ∨ i = 7 ∨ i = 8 ∨ i = 9 by omega) with rfl | rfl | rfl | rfl | rfl | rfl | rfl | rfl | rfl | rfl
    · refine r_tableIn C0 3 56 dX5_count_3 (by decide) (by decide) rfl (by decide) ?_
      refine r_aload_n C0 56 0 dX5_count_56 rfl rfl ?_
      refine m_getI C0 57 0 rfl fl5_109 rfl dX5_count_57 ?_
      refine r_iret C 60 dX5_count_60 (Nat.le_refl _) (Nat.le_refl _) ?_
      exact ⟨rfl, rfl⟩
    · refine r_tableIn C0 3 61 dX5_count_3 (by decide) (by decide) rfl (by decide) ?_
      refine r_aload_n C0 61 0 dX5_count_61 rfl rfl ?_
      refine m_getI C0 62 8 rfl fl5_106 rfl dX5_count_62 ?_
      refine r_iret C 65 dX5_count_65 (Nat.le_refl _) (Nat.le_refl _) ?_
      exact ⟨rfl, rfl⟩
    · refine r_tableIn C0 3 66 dX5_count_3 (by decide) (by decide) rfl (by decide) ?_
      refine r_iconst C0 66 0 dX5_count_66 (by decide) ?_
      refine r_istore_n (lv' := [(0, _), (1, _), (2, _), (3, _)]) C0 67 3 dX5_count_67 rfl rfl (by decide) rfl ?_
      refine loopUp (P := 16) (f := fun i => j (mW ar h1 ad M T) 0 0 68 [(0, .ref h1), (1, .int (nI 2)), (2, .int (linN M i)), (3, .int (nI i))] []) (fun i hi ih => ?_) 0 (Nat.zero_le _)
      refine r_iload_n C0 68 3 dX5_count_68 rfl rfl ?_
      refine r_bipush C0 69 16 dX5_count_69 (by decide) ?_
      refine r_icmp_ge C0 71 97 dX5_count_71 (by decide) (fun c_71 => ?_) (fun c_71 => ?_)
      · have hge : 16 ≤ i := (nI_leI (a := 16) (by omega) (by omega)).mp c_71
        refine r_iload_n C0 97 2 dX5_count_97 rfl rfl ?_
        refine r_iret C 98 dX5_count_98 (Nat.le_refl _) (Nat.le_refl _) ?_
        have e : i = 16 := by omega
        subst e
        exact ⟨rfl, rfl⟩
      · have hlt : i < 16 := Nat.lt_of_not_le (fun q => c_71 (nI_le (a := 16) q (by omega)))
        refine r_iload_n C0 74 2 dX5_count_74 rfl rfl ?_
        refine r_aload_n C0 75 0 dX5_count_75 rfl rfl ?_
        refine m_getA C0 76 10 (by decide) fl5_34 rfl dX5_count_76 ?_
        refine r_iload_n C0 79 3 dX5_count_79 rfl rfl ?_
        refine m_ld C0 80 i rfl rfl hlt dX5_count_80 ?_
        refine r_if_le C0 81 88 dX5_count_81 (by decide) (fun c_81 => ?_) (fun c_81 => ?_)
        · refine r_iconst C0 88 0 dX5_count_88 (by decide) ?_
          refine r_iadd C0 89 dX5_count_89 ?_
          refine r_istore_n (lv' := [(0, _), (1, _), (2, _), (3, _)]) C0 90 2 dX5_count_90 rfl rfl (by decide) rfl ?_
          refine r_iinc (lv' := [(0, _), (1, _), (2, _), (3, _)]) C0 91 _ dX5_count_91 rfl rfl rfl (by decide) rfl ?_
          refine r_goto C0 94 68 dX5_count_94 (by decide) ?_
          have h9 := ih hlt
          simp only [linN, eq_false c_71, eq_true c_81] at h9
          simpa [nI_1] using h9
        · refine r_iconst C0 84 1 dX5_count_84 (by decide) ?_
          refine r_goto C0 85 89 dX5_count_85 (by decide) ?_
          refine r_iadd C0 89 dX5_count_89 ?_
          refine r_istore_n (lv' := [(0, _), (1, _), (2, _), (3, _)]) C0 90 2 dX5_count_90 rfl rfl (by decide) rfl ?_
          refine r_iinc (lv' := [(0, _), (1, _), (2, _), (3, _)]) C0 91 _ dX5_count_91 rfl rfl rfl (by decide) rfl ?_
          refine r_goto C0 94 68 dX5_count_94 (by decide) ?_
          have h9 := ih hlt
          simp only [linN, eq_false c_71, eq_false c_81] at h9
          simpa [nI_1] using h9
    · refine r_tableIn C0 3 99 dX5_count_3 (by decide) (by decide) rfl (by decide) ?_
      refine r_aload_n C0 99 0 dX5_count_99 rfl rfl ?_
      refine m_getI C0 100 11 rfl fl5_129 rfl dX5_count_100 ?_
      refine r_iret C 103 dX5_count_103 (Nat.le_refl _) (Nat.le_refl _) ?_
      exact ⟨rfl, rfl⟩
    · refine r_tableIn C0 3 104 dX5_count_3 (by decide) (by decide) rfl (by decide) ?_
      refine r_aload_n C0 104 0 dX5_count_104 rfl rfl ?_
      refine r_iconst C0 105 0 dX5_count_105 (by decide) ?_
      refine m_call (As := [.int _]) C0 106 1 (k5_allBarns (x := 0) hX (by decide)) (rm5_allBarns (by decide) (by decide) (Nat.le_refl _) (Nat.le_refl _)) ml5_163 im5_allBarns se5_allBarns rfl (Nat.le_of_ble_eq_true rfl) dX5_count_106 ?_
      rintro _ _ ⟨rfl, rfl⟩
      refine r_iret C 109 dX5_count_109 (Nat.le_refl _) (Nat.le_refl _) ?_
      exact ⟨rfl, rfl⟩
    · refine r_tableIn C0 3 110 dX5_count_3 (by decide) (by decide) rfl (by decide) ?_
      refine r_aload_n C0 110 0 dX5_count_110 rfl rfl ?_
      refine r_iconst C0 111 4 dX5_count_111 (by decide) ?_
      refine m_call (As := [.int _]) C0 112 1 (k5_allBarns (x := 4) hX (by decide)) (rm5_allBarns (by decide) (by decide) (Nat.le_refl _) (Nat.le_refl _)) ml5_163 im5_allBarns se5_allBarns rfl (Nat.le_of_ble_eq_true rfl) dX5_count_112 ?_
      rintro _ _ ⟨rfl, rfl⟩
      refine r_iret C 115 dX5_count_115 (Nat.le_refl _) (Nat.le_refl _) ?_
      exact ⟨rfl, rfl⟩
    · refine r_tableIn C0 3 116 dX5_count_3 (by decide) (by decide) rfl (by decide) ?_
      refine r_aload_n C0 116 0 dX5_count_116 rfl rfl ?_
      refine r_bipush C0 117 8 dX5_count_117 (by decide) ?_
      refine m_call (As := [.int _]) C0 119 1 (k5_allBarns (x := 8) hX (by decide)) (rm5_allBarns (by decide) (by decide) (Nat.le_refl _) (Nat.le_refl _)) ml5_163 im5_allBarns se5_allBarns rfl (Nat.le_of_ble_eq_true rfl) dX5_count_119 ?_
      rintro _ _ ⟨rfl, rfl⟩
      refine r_iret C 122 dX5_count_122 (Nat.le_refl _) (Nat.le_refl _) ?_
      exact ⟨rfl, rfl⟩
    · refine r_tableIn C0 3 123 dX5_count_3 (by decide) (by decide) rfl (by decide) ?_
      refine r_aload_n C0 123 0 dX5_count_123 rfl rfl ?_
      refine m_getA C0 124 19 (by decide) fl5_56 rfl dX5_count_124 ?_
      refine r_iconst C0 127 0 dX5_count_127 (by decide) ?_
      refine m_ld C0 128 0 rfl rfl (by decide) dX5_count_128 ?_
      refine r_aload_n C0 129 0 dX5_count_129 rfl rfl ?_
      refine m_getA C0 130 19 (by decide) fl5_56 rfl dX5_count_130 ?_
      refine r_iconst C0 133 1 dX5_count_133 (by decide) ?_
      refine m_ld C0 134 1 rfl rfl (by decide) dX5_count_134 ?_
      refine r_iadd C0 135 dX5_count_135 ?_
      refine r_aload_n C0 136 0 dX5_count_136 rfl rfl ?_
      refine m_getA C0 137 19 (by decide) fl5_56 rfl dX5_count_137 ?_
      refine r_iconst C0 140 2 dX5_count_140 (by decide) ?_
      refine m_ld C0 141 2 rfl rfl (by decide) dX5_count_141 ?_
      refine r_iadd C0 142 dX5_count_142 ?_
      refine r_aload_n C0 143 0 dX5_count_143 rfl rfl ?_
      refine m_getA C0 144 19 (by decide) fl5_56 rfl dX5_count_144 ?_
      refine r_iconst C0 147 3 dX5_count_147 (by decide) ?_
      refine m_ld C0 148 3 rfl rfl (by decide) dX5_count_148 ?_
      refine r_iadd C0 149 dX5_count_149 ?_
      refine r_iret C 150 dX5_count_150 (Nat.le_refl _) (Nat.le_refl _) ?_
      exact ⟨rfl, rfl⟩
    · refine r_tableIn C0 3 151 dX5_count_3 (by decide) (by decide) rfl (by decide) ?_
      refine r_bipush C0 151 6 dX5_count_151 (by decide) ?_
      refine r_aload_n C0 153 0 dX5_count_153 rfl rfl ?_
      refine m_getI C0 154 21 rfl fl5_135 rfl dX5_count_154 ?_
      refine r_imul C0 157 dX5_count_157 ?_
      refine r_iret C 158 dX5_count_158 (Nat.le_refl _) (Nat.le_refl _) ?_
      exact ⟨rfl, rfl⟩
    · refine r_tableIn C0 3 159 dX5_count_3 (by decide) (by decide) rfl (by decide) ?_
      refine r_aload_n C0 159 0 dX5_count_159 rfl rfl ?_
      refine m_getI C0 160 14 rfl fl5_132 rfl dX5_count_160 ?_
      refine r_iret C 163 dX5_count_163 (Nat.le_refl _) (Nat.le_refl _) ?_
      exact ⟨rfl, rfl⟩
  · refine r_tableOut C0 3 164 dX5_count_3 ho (by decide) ?_
    refine r_iconst C0 164 (-1) dX5_count_164 (by decide) ?_
    refine r_iret C 165 dX5_count_165 (Nat.le_refl _) (Nat.le_refl _) ?_
    exact ⟨by simp [cntA, swn ho (c := 0) (by decide), swn ho (c := 1) (by decide), swn ho (c := 2) (by decide), swn ho (c := 3) (by decide), swn ho (c := 4) (by decide), swn ho (c := 5) (by decide), swn ho (c := 6) (by decide), swn ho (c := 7) (by decide), swn ho (c := 8) (by decide), swn ho (c := 9) (by decide)], rfl⟩
theorem k5_packer (hX : Xok X) {E : Nat} (hE : E ≤ 600) (hT : TrOK M E) (p wh : Int32)  : Cn D ar X yX5_packer cX5_packer 5 (some .int) 2 42 0 0 [.ref h1, .int p, .int wh] (mW ar h1 ad M T) (fun r w => r = some (.int (pkrA M p wh)) ∧ w = mW ar h1 ad M T) := by
  refine Cn.of (own := RX5) hX (by decide) rfl (Nat.le_of_ble_eq_true rfl) (fun j C => ?_)
  have C0 := C.to
  show j _ 0 0 0 [(0, _), (1, _), (2, _)] []
  refine r_iload_n C0 0 1 dX5_packer_0 rfl rfl ?_
  refine s_call (As := [.int _]) C0 1 1 (k5_isPacker hX _ _) (rm5_isPacker (by decide) (by decide) (Nat.le_refl _) (Nat.le_refl _)) ml5_159 st5_isPacker rfl (Nat.le_of_ble_eq_true rfl) dX5_packer_1 ?_
  rintro _ _ ⟨rfl, rfl⟩
  refine r_if_ne C0 4 9 dX5_packer_4 (by decide) (fun c_4 => ?_) (fun c_4 => ?_)
  · obtain ⟨x, hx, rfl⟩ := inR_3 c_4
    have hcl : (nI x).toNatClampNeg = x := nI_clamp (by omega)
    refine r_iconst C0 9 0 dX5_packer_9 (by decide) ?_
    refine r_istore_n (lv' := [(0, _), (1, _), (2, _), (3, _)]) C0 10 3 dX5_packer_10 rfl rfl (by decide) rfl ?_
    refine r_iload_n C0 11 2 dX5_packer_11 rfl rfl ?_
    rcases swc 5 (by decide) wh with ⟨i, hi, rfl⟩ | ho
    · rcases (show i = 0 ∨ i = 1 ∨ i = 2 ∨ i = 3 ∨ i = 4 by omega) with rfl | rfl | rfl | rfl | rfl
      · refine r_tableIn C0 12 48 dX5_packer_12 (by decide) (by decide) rfl (by decide) ?_
        refine r_aload_n C0 48 0 dX5_packer_48 rfl rfl ?_
        refine m_getA C0 49 16 (by decide) fl5_46 rfl dX5_packer_49 ?_
        refine r_iload_n C0 52 1 dX5_packer_52 rfl rfl ?_
        refine m_ld C0 53 x rfl rfl hx dX5_packer_53 ?_
        refine r_iret C 54 dX5_packer_54 (Nat.le_refl _) (Nat.le_refl _) ?_
        exact ⟨by simp only [pkrA, hcl, eq_false c_4]; rfl, rfl⟩
      · refine r_tableIn C0 12 55 dX5_packer_12 (by decide) (by decide) rfl (by decide) ?_
        refine r_aload_n C0 55 0 dX5_packer_55 rfl rfl ?_
        refine m_getA C0 56 17 (by decide) fl5_49 rfl dX5_packer_56 ?_
        refine r_iload_n C0 59 1 dX5_packer_59 rfl rfl ?_
        refine m_ldz C0 60 x rfl rfl hx dX5_packer_60 ?_
        refine r_if_eq C0 61 68 dX5_packer_61 (by decide) (fun c_61 => ?_) (fun c_61 => ?_)
        · refine r_iconst C0 68 1 dX5_packer_68 (by decide) ?_
          refine r_iret C 69 dX5_packer_69 (Nat.le_refl _) (Nat.le_refl _) ?_
          exact ⟨by simp only [pkrA, hcl, eq_false c_4, eq_true c_61]; rfl, rfl⟩
        · refine r_iconst C0 64 0 dX5_packer_64 (by decide) ?_
          refine r_goto C0 65 69 dX5_packer_65 (by decide) ?_
          refine r_iret C 69 dX5_packer_69 (Nat.le_refl _) (Nat.le_refl _) ?_
          exact ⟨by simp only [pkrA, hcl, eq_false c_4, eq_false c_61]; rfl, rfl⟩
      · refine r_tableIn C0 12 70 dX5_packer_12 (by decide) (by decide) rfl (by decide) ?_
        refine r_aload_n C0 70 0 dX5_packer_70 rfl rfl ?_
        refine m_getA C0 71 19 (by decide) fl5_56 rfl dX5_packer_71 ?_
        refine r_iload_n C0 74 1 dX5_packer_74 rfl rfl ?_
        refine m_ld C0 75 x rfl rfl hx dX5_packer_75 ?_
        refine r_iret C 76 dX5_packer_76 (Nat.le_refl _) (Nat.le_refl _) ?_
        exact ⟨by simp only [pkrA, hcl, eq_false c_4]; rfl, rfl⟩
      · refine r_tableIn C0 12 77 dX5_packer_12 (by decide) (by decide) rfl (by decide) ?_
        refine r_aload_n C0 77 0 dX5_packer_77 rfl rfl ?_
        refine m_getA C0 78 18 (by decide) fl5_53 rfl dX5_packer_78 ?_
        refine r_iload_n C0 81 1 dX5_packer_81 rfl rfl ?_
        refine m_ld C0 82 x rfl rfl hx dX5_packer_82 ?_
        refine r_iret C 83 dX5_packer_83 (Nat.le_refl _) (Nat.le_refl _) ?_
        exact ⟨by simp only [pkrA, hcl, eq_false c_4]; rfl, rfl⟩
      · refine r_tableIn C0 12 84 dX5_packer_12 (by decide) (by decide) rfl (by decide) ?_
        refine r_iconst C0 84 0 dX5_packer_84 (by decide) ?_
        refine r_istore (lv' := [(0, _), (1, _), (2, _), (3, _), (4, _)]) C0 85 dX5_packer_85 rfl (by decide) rfl ?_
        obtain ⟨t, ht6, htt, htk⟩ := hT x hx
        have hct : (M 19 x).toNatClampNeg = t := by rw [htt]; exact nI_clamp (by omega)
        refine loopUp (P := t) (f := fun i => j (mW ar h1 ad M T) 0 0 87 [(0, .ref h1), (1, .int (nI x)), (2, .int (nI 4)), (3, .int (btsN M x i)), (4, .int (nI i))] []) (fun i hi ih => ?_) 0 (Nat.zero_le _)
        refine r_iload C0 87 dX5_packer_87 rfl ?_
        refine r_aload_n C0 89 0 dX5_packer_89 rfl rfl ?_
        refine m_getA C0 90 19 (by decide) fl5_56 rfl dX5_packer_90 ?_
        refine r_iload_n C0 93 1 dX5_packer_93 rfl rfl ?_
        refine m_ld C0 94 x rfl rfl hx dX5_packer_94 ?_
        refine r_icmp_ge C0 95 126 dX5_packer_95 (by decide) (fun c_95 => ?_) (fun c_95 => ?_)
        · have hge : t ≤ i := (nI_leI (by omega) (by omega)).mp (by rw [← htt]; exact c_95)
          refine r_iload_n C0 126 3 dX5_packer_126 rfl rfl ?_
          refine r_iret C 127 dX5_packer_127 (Nat.le_refl _) (Nat.le_refl _) ?_
          have e : i = t := by omega
          subst e
          exact ⟨by simp only [pkrA, hcl, hct, eq_false c_4]; rfl, rfl⟩
        · have hlt : i < t := Nat.lt_of_not_le (fun q => c_95 (by rw [htt]; exact nI_le q (by omega)))
          obtain ⟨e, he6, he⟩ := htk i hlt
          refine r_iload_n C0 98 3 dX5_packer_98 rfl rfl ?_
          refine r_iconst C0 99 1 dX5_packer_99 (by decide) ?_
          refine r_aload_n C0 100 0 dX5_packer_100 rfl rfl ?_
          refine m_getA C0 101 1 (by decide) fl5_7 rfl dX5_packer_101 ?_
          refine r_aload_n C0 104 0 dX5_packer_104 rfl rfl ?_
          refine m_getA C0 105 20 (by decide) fl5_59 rfl dX5_packer_105 ?_
          refine r_bipush C0 108 6 dX5_packer_108 (by decide) ?_
          refine r_iload_n C0 110 1 dX5_packer_110 rfl rfl ?_
          refine r_imul C0 111 dX5_packer_111 ?_
          refine r_iload C0 112 dX5_packer_112 rfl ?_
          refine r_iadd C0 114 dX5_packer_114 ?_
          refine m_ld C0 115 (6 * x + i) rfl (nI_add' (nI_mul' (a := 6) rfl rfl) rfl) (show _ < 24 by omega) dX5_packer_115 ?_
          refine m_ld C0 116 e rfl he (show e < 600 by omega) dX5_packer_116 ?_
          refine r_ishl C0 117 dX5_packer_117 ?_
          refine r_ior C0 118 dX5_packer_118 ?_
          refine r_istore_n (lv' := [(0, _), (1, _), (2, _), (3, _), (4, _)]) C0 119 3 dX5_packer_119 rfl rfl (by decide) rfl ?_
          refine r_iinc (lv' := [(0, _), (1, _), (2, _), (3, _), (4, _)]) C0 120 _ dX5_packer_120 rfl rfl rfl (by decide) rfl ?_
          refine r_goto C0 123 87 dX5_packer_123 (by decide) ?_
          have h9 := ih hlt
          have e9 : btsN M x (i + 1) = btsN M x i ||| (1 <<< (M 1 e &&& 31)) := by
            show btsN M x i ||| _ = _
            rw [he, nI_clamp (by omega)]
          rw [e9, ← nI_1 i] at h9
          exact h9
    · refine r_tableOut C0 12 128 dX5_packer_12 ho (by decide) ?_
      refine r_iconst C0 128 (-1) dX5_packer_128 (by decide) ?_
      refine r_iret C 129 dX5_packer_129 (Nat.le_refl _) (Nat.le_refl _) ?_
      exact ⟨by simp [pkrA, swn ho (c := 0) (by decide), swn ho (c := 1) (by decide), swn ho (c := 2) (by decide), swn ho (c := 3) (by decide), swn ho (c := 4) (by decide), eq_false c_4], rfl⟩
  · refine r_iconst C0 7 (-1) dX5_packer_7 (by decide) ?_
    refine r_iret C 8 dX5_packer_8 (Nat.le_refl _) (Nat.le_refl _) ?_
    exact ⟨by simp [pkrA, eq_true c_4], rfl⟩
theorem k5_at (hX : Xok X) {E : Nat} (hE : E ≤ 600) (hL : LiOK M E) (pl wh : Int32)  : Cn D ar X yX5_at cX5_at 4 (some .int) 1 22 0 0 [.ref h1, .int pl, .int wh] (mW ar h1 ad M T) (fun r w => r = some (.int (atA M pl wh)) ∧ w = mW ar h1 ad M T) := by
  refine Cn.of (own := RX5) hX (by decide) rfl (Nat.le_of_ble_eq_true rfl) (fun j C => ?_)
  have C0 := C.to
  show j _ 0 0 0 [(0, _), (1, _), (2, _)] []
  refine r_iload_n C0 0 1 dX5_at_0 rfl rfl ?_
  refine r_iconst C0 1 0 dX5_at_1 (by decide) ?_
  refine r_bipush C0 2 15 dX5_at_2 (by decide) ?_
  refine s_call (As := [.int _, .int _, .int _]) C0 4 3 (k5_in hX _ _ _ _) (rm5_in (by decide) (by decide) (Nat.le_refl _) (Nat.le_refl _)) ml5_102 st5_in rfl (Nat.le_of_ble_eq_true rfl) dX5_at_4 ?_
  rintro _ _ ⟨rfl, rfl⟩
  refine r_if_eq C0 7 19 dX5_at_7 (by decide) (fun c_7 => ?_) (fun c_7 => ?_)
  · refine r_iconst C0 19 (-1) dX5_at_19 (by decide) ?_
    refine r_iret C 20 dX5_at_20 (Nat.le_refl _) (Nat.le_refl _) ?_
    exact ⟨by simp [atA, eq_true c_7], rfl⟩
  · refine r_iload_n C0 10 2 dX5_at_10 rfl rfl ?_
    refine r_iconst C0 11 0 dX5_at_11 (by decide) ?_
    refine r_iconst C0 12 4 dX5_at_12 (by decide) ?_
    refine s_call (As := [.int _, .int _, .int _]) C0 13 3 (k5_in hX _ _ _ _) (rm5_in (by decide) (by decide) (Nat.le_refl _) (Nat.le_refl _)) ml5_102 st5_in rfl (Nat.le_of_ble_eq_true rfl) dX5_at_13 ?_
    rintro _ _ ⟨rfl, rfl⟩
    refine r_if_ne C0 16 21 dX5_at_16 (by decide) (fun c_16 => ?_) (fun c_16 => ?_)
    · obtain ⟨x, hx, rfl⟩ := inR_x (n := 15) rfl c_7
      have hcl : (nI x).toNatClampNeg = x := nI_clamp (by omega)
      obtain ⟨v, hvE, hv⟩ := hL x (by omega)
      refine r_aload_n C0 21 0 dX5_at_21 rfl rfl ?_
      refine m_getA C0 22 10 (by decide) fl5_34 rfl dX5_at_22 ?_
      refine r_iload_n C0 25 1 dX5_at_25 rfl rfl ?_
      refine m_ld C0 26 x rfl rfl (show x < 16 by omega) dX5_at_26 ?_
      refine r_iconst C0 27 1 dX5_at_27 (by decide) ?_
      refine r_isub C0 28 dX5_at_28 ?_
      refine r_istore_n (lv' := [(0, _), (1, _), (2, _), (3, _)]) C0 29 3 dX5_at_29 rfl rfl (by decide) rfl ?_
      refine r_iload_n C0 30 3 dX5_at_30 rfl rfl ?_
      refine r_if_ge C0 31 37 dX5_at_31 (by decide) (fun c_31 => ?_) (fun c_31 => ?_)
      · have hv0 : 0 < v := (nI_prn hv (by omega)).mp c_31
        have hce : (M 10 x - 1).toNatClampNeg = v - 1 := by rw [nI_pr hv hv0]; exact nI_clamp (by omega)
        refine r_iload_n C0 37 2 dX5_at_37 rfl rfl ?_
        rcases swc 4 (by decide) wh with ⟨i, hi, rfl⟩ | ho
        · rcases (show i = 0 ∨ i = 1 ∨ i = 2 ∨ i = 3 by omega) with rfl | rfl | rfl | rfl
          · refine r_tableIn C0 38 68 dX5_at_38 (by decide) (by decide) rfl (by decide) ?_
            refine r_iload_n C0 68 3 dX5_at_68 rfl rfl ?_
            refine r_iret C 69 dX5_at_69 (Nat.le_refl _) (Nat.le_refl _) ?_
            exact ⟨by simp only [atA, hcl, hce, eq_false c_7, eq_false c_16, eq_true c_31]; rfl, rfl⟩
          · refine r_tableIn C0 38 70 dX5_at_38 (by decide) (by decide) rfl (by decide) ?_
            refine r_aload_n C0 70 0 dX5_at_70 rfl rfl ?_
            refine m_getA C0 71 1 (by decide) fl5_7 rfl dX5_at_71 ?_
            refine r_iload_n C0 74 3 dX5_at_74 rfl rfl ?_
            refine m_ld C0 75 (v - 1) rfl (nI_pr hv hv0) (show v - 1 < 600 by omega) dX5_at_75 ?_
            refine r_iret C 76 dX5_at_76 (Nat.le_refl _) (Nat.le_refl _) ?_
            exact ⟨by simp only [atA, hcl, hce, eq_false c_7, eq_false c_16, eq_true c_31]; rfl, rfl⟩
          · refine r_tableIn C0 38 77 dX5_at_38 (by decide) (by decide) rfl (by decide) ?_
            refine r_aload_n C0 77 0 dX5_at_77 rfl rfl ?_
            refine m_getA C0 78 2 (by decide) fl5_13 rfl dX5_at_78 ?_
            refine r_iload_n C0 81 3 dX5_at_81 rfl rfl ?_
            refine m_ld C0 82 (v - 1) rfl (nI_pr hv hv0) (show v - 1 < 600 by omega) dX5_at_82 ?_
            refine r_iret C 83 dX5_at_83 (Nat.le_refl _) (Nat.le_refl _) ?_
            exact ⟨by simp only [atA, hcl, hce, eq_false c_7, eq_false c_16, eq_true c_31]; rfl, rfl⟩
          · refine r_tableIn C0 38 84 dX5_at_38 (by decide) (by decide) rfl (by decide) ?_
            refine r_iload_n C0 84 1 dX5_at_84 rfl rfl ?_
            refine r_iconst C0 85 2 dX5_at_85 (by decide) ?_
            refine r_icmp_ge C0 86 93 dX5_at_86 (by decide) (fun c_86 => ?_) (fun c_86 => ?_)
            · refine r_aload_n C0 93 0 dX5_at_93 rfl rfl ?_
              refine m_getA C0 94 6 (by decide) fl5_25 rfl dX5_at_94 ?_
              refine r_iload_n C0 97 3 dX5_at_97 rfl rfl ?_
              refine m_ld C0 98 (v - 1) rfl (nI_pr hv hv0) (show v - 1 < 600 by omega) dX5_at_98 ?_
              refine r_iret C 99 dX5_at_99 (Nat.le_refl _) (Nat.le_refl _) ?_
              exact ⟨by simp only [atA, hcl, hce, eq_false c_7, eq_false c_16, eq_true c_31, eq_true c_86]; rfl, rfl⟩
            · refine r_iconst C0 89 0 dX5_at_89 (by decide) ?_
              refine r_goto C0 90 99 dX5_at_90 (by decide) ?_
              refine r_iret C 99 dX5_at_99 (Nat.le_refl _) (Nat.le_refl _) ?_
              exact ⟨by simp only [atA, hcl, hce, eq_false c_7, eq_false c_16, eq_true c_31, eq_false c_86]; rfl, rfl⟩
        · refine r_tableOut C0 38 100 dX5_at_38 ho (by decide) ?_
          refine r_iload_n C0 100 1 dX5_at_100 rfl rfl ?_
          refine r_iconst C0 101 2 dX5_at_101 (by decide) ?_
          refine r_icmp_ge C0 102 110 dX5_at_102 (by decide) (fun c_102 => ?_) (fun c_102 => ?_)
          · refine r_aload_n C0 110 0 dX5_at_110 rfl rfl ?_
            refine m_getA C0 111 6 (by decide) fl5_25 rfl dX5_at_111 ?_
            refine r_iload_n C0 114 3 dX5_at_114 rfl rfl ?_
            refine m_ld C0 115 (v - 1) rfl (nI_pr hv hv0) (show v - 1 < 600 by omega) dX5_at_115 ?_
            refine s_call (As := [.int _]) C0 116 1 (k5_gradeBy hX _ _) (rm5_gradeBy (by decide) (by decide) (Nat.le_refl _) (Nat.le_refl _)) ml5_138 st5_gradeBy rfl (Nat.le_of_ble_eq_true rfl) dX5_at_116 ?_
            rintro _ _ ⟨rfl, rfl⟩
            refine r_iret C 119 dX5_at_119 (Nat.le_refl _) (Nat.le_refl _) ?_
            exact ⟨by simp [atA, hcl, hce, swn ho (c := 0) (by decide), swn ho (c := 1) (by decide), swn ho (c := 2) (by decide), swn ho (c := 3) (by decide), eq_false c_7, eq_false c_16, eq_true c_31, eq_true c_102], rfl⟩
          · refine r_bipush C0 105 (-9) dX5_at_105 (by decide) ?_
            refine r_goto C0 107 119 dX5_at_107 (by decide) ?_
            refine r_iret C 119 dX5_at_119 (Nat.le_refl _) (Nat.le_refl _) ?_
            exact ⟨by simp [atA, hcl, hce, swn ho (c := 0) (by decide), swn ho (c := 1) (by decide), swn ho (c := 2) (by decide), swn ho (c := 3) (by decide), eq_false c_7, eq_false c_16, eq_true c_31, eq_false c_102], rfl⟩
      · refine r_bipush C0 34 (-9) dX5_at_34 (by decide) ?_
        refine r_iret C 36 dX5_at_36 (Nat.le_refl _) (Nat.le_refl _) ?_
        exact ⟨by simp only [atA, hcl, eq_false c_7, eq_false c_16, eq_false c_31]; rfl, rfl⟩
    · refine r_iconst C0 19 (-1) dX5_at_19 (by decide) ?_
      refine r_iret C 20 dX5_at_20 (Nat.le_refl _) (Nat.le_refl _) ?_
      exact ⟨by simp [atA, eq_false c_7, eq_true c_16], rfl⟩
theorem k5_barn (hX : Xok X) (b wh : Int32)  : Cn D ar X yX5_barn cX5_barn 3 (some .int) 1 22 0 0 [.ref h1, .int b, .int wh] (mW ar h1 ad M T) (fun r w => r = some (.int (brnA M b wh)) ∧ w = mW ar h1 ad M T) := by
  refine Cn.of (own := RX5) hX (by decide) rfl (Nat.le_of_ble_eq_true rfl) (fun j C => ?_)
  have C0 := C.to
  show j _ 0 0 0 [(0, _), (1, _), (2, _)] []
  refine r_iload_n C0 0 1 dX5_barn_0 rfl rfl ?_
  refine r_iconst C0 1 0 dX5_barn_1 (by decide) ?_
  refine r_iconst C0 2 3 dX5_barn_2 (by decide) ?_
  refine s_call (As := [.int _, .int _, .int _]) C0 3 3 (k5_in hX _ _ _ _) (rm5_in (by decide) (by decide) (Nat.le_refl _) (Nat.le_refl _)) ml5_102 st5_in rfl (Nat.le_of_ble_eq_true rfl) dX5_barn_3 ?_
  rintro _ _ ⟨rfl, rfl⟩
  refine r_if_eq C0 6 18 dX5_barn_6 (by decide) (fun c_6 => ?_) (fun c_6 => ?_)
  · refine r_iconst C0 18 (-1) dX5_barn_18 (by decide) ?_
    refine r_iret C 19 dX5_barn_19 (Nat.le_refl _) (Nat.le_refl _) ?_
    exact ⟨by simp [brnA, eq_true c_6], rfl⟩
  · refine r_iload_n C0 9 2 dX5_barn_9 rfl rfl ?_
    refine r_iconst C0 10 0 dX5_barn_10 (by decide) ?_
    refine r_iconst C0 11 4 dX5_barn_11 (by decide) ?_
    refine s_call (As := [.int _, .int _, .int _]) C0 12 3 (k5_in hX _ _ _ _) (rm5_in (by decide) (by decide) (Nat.le_refl _) (Nat.le_refl _)) ml5_102 st5_in rfl (Nat.le_of_ble_eq_true rfl) dX5_barn_12 ?_
    rintro _ _ ⟨rfl, rfl⟩
    refine r_if_ne C0 15 20 dX5_barn_15 (by decide) (fun c_15 => ?_) (fun c_15 => ?_)
    · obtain ⟨x, hx, rfl⟩ := inR_3 c_6
      have hcl : (nI x).toNatClampNeg = x := nI_clamp (by omega)
      refine r_iload_n C0 20 2 dX5_barn_20 rfl rfl ?_
      refine r_if_ne C0 21 36 dX5_barn_21 (by decide) (fun c_21 => ?_) (fun c_21 => ?_)
      · obtain ⟨y, hy, rfl⟩ := inR_x (n := 4) rfl c_15
        have hcl2 : (nI y).toNatClampNeg = y := nI_clamp (by omega)
        have hy0 : 0 < y := Nat.pos_of_ne_zero (fun q => c_21 (by rw [q]; rfl))
        refine r_aload_n C0 36 0 dX5_barn_36 rfl rfl ?_
        refine m_getA C0 37 15 (by decide) fl5_43 rfl dX5_barn_37 ?_
        refine r_iconst C0 40 4 dX5_barn_40 (by decide) ?_
        refine r_iload_n C0 41 2 dX5_barn_41 rfl rfl ?_
        refine r_iconst C0 42 1 dX5_barn_42 (by decide) ?_
        refine r_isub C0 43 dX5_barn_43 ?_
        refine r_imul C0 44 dX5_barn_44 ?_
        refine r_iload_n C0 45 1 dX5_barn_45 rfl rfl ?_
        refine r_iadd C0 46 dX5_barn_46 ?_
        refine m_ld C0 47 (4 * (y - 1) + x) rfl (nI_add' (nI_mul' (a := 4) rfl (nI_pr rfl hy0)) rfl) (show _ < 20 by omega) dX5_barn_47 ?_
        refine r_iret C 48 dX5_barn_48 (Nat.le_refl _) (Nat.le_refl _) ?_
        exact ⟨by simp only [brnA, hcl, hcl2, eq_false c_6, eq_false c_15, eq_false c_21]; rfl, rfl⟩
      · refine r_aload_n C0 24 0 dX5_barn_24 rfl rfl ?_
        refine m_getA C0 25 15 (by decide) fl5_43 rfl dX5_barn_25 ?_
        refine r_bipush C0 28 16 dX5_barn_28 (by decide) ?_
        refine r_iload_n C0 30 1 dX5_barn_30 rfl rfl ?_
        refine r_iadd C0 31 dX5_barn_31 ?_
        refine m_ld C0 32 (16 + x) rfl (nI_add 16 x) (show _ < 20 by omega) dX5_barn_32 ?_
        refine r_goto C0 33 48 dX5_barn_33 (by decide) ?_
        refine r_iret C 48 dX5_barn_48 (Nat.le_refl _) (Nat.le_refl _) ?_
        exact ⟨by simp only [brnA, hcl, eq_false c_6, eq_false c_15, eq_true c_21]; rfl, rfl⟩
    · refine r_iconst C0 18 (-1) dX5_barn_18 (by decide) ?_
      refine r_iret C 19 dX5_barn_19 (Nat.le_refl _) (Nat.le_refl _) ?_
      exact ⟨by simp [brnA, eq_false c_6, eq_true c_15], rfl⟩
theorem k5_grade (hX : Xok X) (p v : Int32)  : Cn D ar X yX5_grade cX5_grade 4 (some .int) 2 42 0 0 [.ref h1, .int p, .int v] (mW ar h1 ad M T) (fun r w => r = some (.int (grdA M p v).2) ∧ w = mW ar h1 ad (grdA M p v).1 T) := by
  refine Cn.of (own := RX5) hX (by decide) rfl (Nat.le_of_ble_eq_true rfl) (fun j C => ?_)
  have C0 := C.to
  show j _ 0 0 0 [(0, _), (1, _), (2, _)] []
  refine r_iload_n C0 0 1 dX5_grade_0 rfl rfl ?_
  refine s_call (As := [.int _]) C0 1 1 (k5_isPacker hX _ _) (rm5_isPacker (by decide) (by decide) (Nat.le_refl _) (Nat.le_refl _)) ml5_159 st5_isPacker rfl (Nat.le_of_ble_eq_true rfl) dX5_grade_1 ?_
  rintro _ _ ⟨rfl, rfl⟩
  refine r_if_eq C0 4 16 dX5_grade_4 (by decide) (fun c_4 => ?_) (fun c_4 => ?_)
  · refine r_iconst C0 16 (-1) dX5_grade_16 (by decide) ?_
    refine r_iret C 17 dX5_grade_17 (Nat.le_refl _) (Nat.le_refl _) ?_
    exact ⟨by simp [grdA, eq_true c_4], by simp [grdA, eq_true c_4]⟩
  · refine r_iload_n C0 7 2 dX5_grade_7 rfl rfl ?_
    refine r_iconst C0 8 0 dX5_grade_8 (by decide) ?_
    refine r_iconst C0 9 5 dX5_grade_9 (by decide) ?_
    refine s_call (As := [.int _, .int _, .int _]) C0 10 3 (k5_in hX _ _ _ _) (rm5_in (by decide) (by decide) (Nat.le_refl _) (Nat.le_refl _)) ml5_102 st5_in rfl (Nat.le_of_ble_eq_true rfl) dX5_grade_10 ?_
    rintro _ _ ⟨rfl, rfl⟩
    refine r_if_ne C0 13 18 dX5_grade_13 (by decide) (fun c_13 => ?_) (fun c_13 => ?_)
    · obtain ⟨x, hx, rfl⟩ := inR_3 c_4
      have hcl : (nI x).toNatClampNeg = x := nI_clamp (by omega)
      refine r_aload_n C0 18 0 dX5_grade_18 rfl rfl ?_
      refine m_getA C0 19 19 (by decide) fl5_56 rfl dX5_grade_19 ?_
      refine r_iload_n C0 22 1 dX5_grade_22 rfl rfl ?_
      refine m_ld C0 23 x rfl rfl hx dX5_grade_23 ?_
      refine r_if_le C0 24 30 dX5_grade_24 (by decide) (fun c_24 => ?_) (fun c_24 => ?_)
      · refine r_aload_n C0 30 0 dX5_grade_30 rfl rfl ?_
        refine m_getA C0 31 16 (by decide) fl5_46 rfl dX5_grade_31 ?_
        refine r_iload_n C0 34 1 dX5_grade_34 rfl rfl ?_
        refine m_ld C0 35 x rfl rfl hx dX5_grade_35 ?_
        refine r_istore_n (lv' := [(0, _), (1, _), (2, _), (3, _)]) C0 36 3 dX5_grade_36 rfl rfl (by decide) rfl ?_
        refine r_aload_n C0 37 0 dX5_grade_37 rfl rfl ?_
        refine m_getA C0 38 16 (by decide) fl5_46 rfl dX5_grade_38 ?_
        refine r_iload_n C0 41 1 dX5_grade_41 rfl rfl ?_
        refine r_iload_n C0 42 2 dX5_grade_42 rfl rfl ?_
        refine m_st C0 43 x rfl rfl hx dX5_grade_43 ?_
        refine r_iload_n C0 44 3 dX5_grade_44 rfl rfl ?_
        refine r_iret C 45 dX5_grade_45 (Nat.le_refl _) (Nat.le_refl _) ?_
        exact ⟨by simp only [grdA, hcl, eq_false c_4, eq_false c_13, eq_true c_24]; rfl, by simp only [grdA, hcl, eq_false c_4, eq_false c_13, eq_true c_24]; rfl⟩
      · refine r_bipush C0 27 (-2) dX5_grade_27 (by decide) ?_
        refine r_iret C 29 dX5_grade_29 (Nat.le_refl _) (Nat.le_refl _) ?_
        exact ⟨by simp only [grdA, hcl, eq_false c_4, eq_false c_13, eq_false c_24]; rfl, by simp only [grdA, hcl, eq_false c_4, eq_false c_13, eq_false c_24]; rfl⟩
    · refine r_iconst C0 16 (-1) dX5_grade_16 (by decide) ?_
      refine r_iret C 17 dX5_grade_17 (Nat.le_refl _) (Nat.le_refl _) ?_
      exact ⟨by simp [grdA, eq_false c_4, eq_true c_13], by simp [grdA, eq_false c_4, eq_true c_13]⟩
theorem k5_on (hX : Xok X) (p z : Int32)  : Cn D ar X yX5_on cX5_on 4 (some .int) 2 42 0 0 [.ref h1, .int p, .int z] (mW ar h1 ad M T) (fun r w => r = some (.int (onA M p z).2) ∧ w = mW ar h1 ad (onA M p z).1 T) := by
  refine Cn.of (own := RX5) hX (by decide) rfl (Nat.le_of_ble_eq_true rfl) (fun j C => ?_)
  have C0 := C.to
  show j _ 0 0 0 [(0, _), (1, _), (2, _)] []
  refine r_iload_n C0 0 1 dX5_on_0 rfl rfl ?_
  refine s_call (As := [.int _]) C0 1 1 (k5_isPacker hX _ _) (rm5_isPacker (by decide) (by decide) (Nat.le_refl _) (Nat.le_refl _)) ml5_159 st5_isPacker rfl (Nat.le_of_ble_eq_true rfl) dX5_on_1 ?_
  rintro _ _ ⟨rfl, rfl⟩
  refine r_if_ne C0 4 9 dX5_on_4 (by decide) (fun c_4 => ?_) (fun c_4 => ?_)
  · obtain ⟨x, hx, rfl⟩ := inR_3 c_4
    have hcl : (nI x).toNatClampNeg = x := nI_clamp (by omega)
    refine r_aload_n C0 9 0 dX5_on_9 rfl rfl ?_
    refine m_getA C0 10 17 (by decide) fl5_49 rfl dX5_on_10 ?_
    refine r_iload_n C0 13 1 dX5_on_13 rfl rfl ?_
    refine m_ldz C0 14 x rfl rfl hx dX5_on_14 ?_
    refine r_if_eq C0 15 22 dX5_on_15 (by decide) (fun c_15 => ?_) (fun c_15 => ?_)
    · refine r_iconst C0 22 1 dX5_on_22 (by decide) ?_
      refine r_istore_n (lv' := [(0, _), (1, _), (2, _), (3, _)]) C0 23 3 dX5_on_23 rfl rfl (by decide) rfl ?_
      refine r_aload_n C0 24 0 dX5_on_24 rfl rfl ?_
      refine m_getA C0 25 17 (by decide) fl5_49 rfl dX5_on_25 ?_
      refine r_iload_n C0 28 1 dX5_on_28 rfl rfl ?_
      refine r_iload_n C0 29 2 dX5_on_29 rfl rfl ?_
      refine r_if_ne C0 30 37 dX5_on_30 (by decide) (fun c_30 => ?_) (fun c_30 => ?_)
      · refine r_iconst C0 37 0 dX5_on_37 (by decide) ?_
        refine m_stz C0 38 x rfl rfl hx rfl dX5_on_38 ?_
        refine r_iload_n C0 39 3 dX5_on_39 rfl rfl ?_
        refine r_iret C 40 dX5_on_40 (Nat.le_refl _) (Nat.le_refl _) ?_
        exact ⟨by simp only [onA, hcl, eq_false c_4, eq_true c_15, eq_false c_30]; rfl, by simp only [onA, hcl, eq_false c_4, eq_true c_15, eq_false c_30]; rfl⟩
      · refine r_iconst C0 33 1 dX5_on_33 (by decide) ?_
        refine r_goto C0 34 38 dX5_on_34 (by decide) ?_
        refine m_stz C0 38 x rfl rfl hx rfl dX5_on_38 ?_
        refine r_iload_n C0 39 3 dX5_on_39 rfl rfl ?_
        refine r_iret C 40 dX5_on_40 (Nat.le_refl _) (Nat.le_refl _) ?_
        exact ⟨by simp only [onA, hcl, eq_false c_4, eq_true c_15, eq_true c_30]; rfl, by simp only [onA, hcl, eq_false c_4, eq_true c_15, eq_true c_30]; rfl⟩
    · refine r_iconst C0 18 0 dX5_on_18 (by decide) ?_
      refine r_goto C0 19 23 dX5_on_19 (by decide) ?_
      refine r_istore_n (lv' := [(0, _), (1, _), (2, _), (3, _)]) C0 23 3 dX5_on_23 rfl rfl (by decide) rfl ?_
      refine r_aload_n C0 24 0 dX5_on_24 rfl rfl ?_
      refine m_getA C0 25 17 (by decide) fl5_49 rfl dX5_on_25 ?_
      refine r_iload_n C0 28 1 dX5_on_28 rfl rfl ?_
      refine r_iload_n C0 29 2 dX5_on_29 rfl rfl ?_
      refine r_if_ne C0 30 37 dX5_on_30 (by decide) (fun c_30 => ?_) (fun c_30 => ?_)
      · refine r_iconst C0 37 0 dX5_on_37 (by decide) ?_
        refine m_stz C0 38 x rfl rfl hx rfl dX5_on_38 ?_
        refine r_iload_n C0 39 3 dX5_on_39 rfl rfl ?_
        refine r_iret C 40 dX5_on_40 (Nat.le_refl _) (Nat.le_refl _) ?_
        exact ⟨by simp only [onA, hcl, eq_false c_4, eq_false c_15, eq_false c_30]; rfl, by simp only [onA, hcl, eq_false c_4, eq_false c_15, eq_false c_30]; rfl⟩
      · refine r_iconst C0 33 1 dX5_on_33 (by decide) ?_
        refine r_goto C0 34 38 dX5_on_34 (by decide) ?_
        refine m_stz C0 38 x rfl rfl hx rfl dX5_on_38 ?_
        refine r_iload_n C0 39 3 dX5_on_39 rfl rfl ?_
        refine r_iret C 40 dX5_on_40 (Nat.le_refl _) (Nat.le_refl _) ?_
        exact ⟨by simp only [onA, hcl, eq_false c_4, eq_false c_15, eq_true c_30]; rfl, by simp only [onA, hcl, eq_false c_4, eq_false c_15, eq_true c_30]; rfl⟩
  · refine r_iconst C0 7 (-1) dX5_on_7 (by decide) ?_
    refine r_iret C 8 dX5_on_8 (Nat.le_refl _) (Nat.le_refl _) ?_
    exact ⟨by simp [onA, eq_true c_4], by simp [onA, eq_true c_4]⟩
theorem k5_egg (hX : Xok X) {E Q : Nat} (hE : M 0 0 = nI E) (hE6 : E < 600) (hQ : M 8 0 = nI Q) (hQ2 : Q ≤ 20) (b w9 t r9 d : Int32)  : Cn D ar X yX5_egg cX5_egg 6 (some .int) 1 22 0 0 [.ref h1, .int b, .int w9, .int t, .int r9, .int d] (mW ar h1 ad M T) (fun r w => r = some (.int (eggA M E Q b w9 t r9 d).2) ∧ w = mW ar h1 ad (eggA M E Q b w9 t r9 d).1 T) := by
  refine Cn.of (own := RX5) hX (by decide) rfl (Nat.le_of_ble_eq_true rfl) (fun j C => ?_)
  have C0 := C.to
  show j _ 0 0 0 [(0, _), (1, _), (2, _), (3, _), (4, _), (5, _)] []
  refine r_iload_n C0 0 1 dX5_egg_0 rfl rfl ?_
  refine r_iconst C0 1 0 dX5_egg_1 (by decide) ?_
  refine r_iconst C0 2 3 dX5_egg_2 (by decide) ?_
  refine s_call (As := [.int _, .int _, .int _]) C0 3 3 (k5_in hX _ _ _ _) (rm5_in (by decide) (by decide) (Nat.le_refl _) (Nat.le_refl _)) ml5_102 st5_in rfl (Nat.le_of_ble_eq_true rfl) dX5_egg_3 ?_
  rintro _ _ ⟨rfl, rfl⟩
  refine r_if_eq C0 6 51 dX5_egg_6 (by decide) (fun c_6 => ?_) (fun c_6 => ?_)
  · refine r_iconst C0 51 (-1) dX5_egg_51 (by decide) ?_
    refine r_iret C 52 dX5_egg_52 (Nat.le_refl _) (Nat.le_refl _) ?_
    exact ⟨by simp [eggA, eq_true c_6], by simp [eggA, eq_true c_6]⟩
  · refine r_iload_n C0 9 2 dX5_egg_9 rfl rfl ?_
    refine r_bipush C0 10 30 dX5_egg_10 (by decide) ?_
    refine r_bipush C0 12 90 dX5_egg_12 (by decide) ?_
    refine s_call (As := [.int _, .int _, .int _]) C0 14 3 (k5_in hX _ _ _ _) (rm5_in (by decide) (by decide) (Nat.le_refl _) (Nat.le_refl _)) ml5_102 st5_in rfl (Nat.le_of_ble_eq_true rfl) dX5_egg_14 ?_
    rintro _ _ ⟨rfl, rfl⟩
    refine r_if_eq C0 17 51 dX5_egg_17 (by decide) (fun c_17 => ?_) (fun c_17 => ?_)
    · refine r_iconst C0 51 (-1) dX5_egg_51 (by decide) ?_
      refine r_iret C 52 dX5_egg_52 (Nat.le_refl _) (Nat.le_refl _) ?_
      exact ⟨by simp [eggA, eq_false c_6, eq_true c_17], by simp [eggA, eq_false c_6, eq_true c_17]⟩
    · refine r_iload_n C0 20 3 dX5_egg_20 rfl rfl ?_
      refine r_iconst C0 21 0 dX5_egg_21 (by decide) ?_
      refine r_bipush C0 22 15 dX5_egg_22 (by decide) ?_
      refine s_call (As := [.int _, .int _, .int _]) C0 24 3 (k5_in hX _ _ _ _) (rm5_in (by decide) (by decide) (Nat.le_refl _) (Nat.le_refl _)) ml5_102 st5_in rfl (Nat.le_of_ble_eq_true rfl) dX5_egg_24 ?_
      rintro _ _ ⟨rfl, rfl⟩
      refine r_if_eq C0 27 51 dX5_egg_27 (by decide) (fun c_27 => ?_) (fun c_27 => ?_)
      · refine r_iconst C0 51 (-1) dX5_egg_51 (by decide) ?_
        refine r_iret C 52 dX5_egg_52 (Nat.le_refl _) (Nat.le_refl _) ?_
        exact ⟨by simp [eggA, eq_false c_6, eq_false c_17, eq_true c_27], by simp [eggA, eq_false c_6, eq_false c_17, eq_true c_27]⟩
      · refine r_iload C0 30 dX5_egg_30 rfl ?_
        refine r_iconst C0 32 0 dX5_egg_32 (by decide) ?_
        refine r_bipush C0 33 9 dX5_egg_33 (by decide) ?_
        refine s_call (As := [.int _, .int _, .int _]) C0 35 3 (k5_in hX _ _ _ _) (rm5_in (by decide) (by decide) (Nat.le_refl _) (Nat.le_refl _)) ml5_102 st5_in rfl (Nat.le_of_ble_eq_true rfl) dX5_egg_35 ?_
        rintro _ _ ⟨rfl, rfl⟩
        refine r_if_eq C0 38 51 dX5_egg_38 (by decide) (fun c_38 => ?_) (fun c_38 => ?_)
        · refine r_iconst C0 51 (-1) dX5_egg_51 (by decide) ?_
          refine r_iret C 52 dX5_egg_52 (Nat.le_refl _) (Nat.le_refl _) ?_
          exact ⟨by simp [eggA, eq_false c_6, eq_false c_17, eq_false c_27, eq_true c_38], by simp [eggA, eq_false c_6, eq_false c_17, eq_false c_27, eq_true c_38]⟩
        · refine r_iload C0 41 dX5_egg_41 rfl ?_
          refine r_iconst C0 43 0 dX5_egg_43 (by decide) ?_
          refine r_iconst C0 44 3 dX5_egg_44 (by decide) ?_
          refine s_call (As := [.int _, .int _, .int _]) C0 45 3 (k5_in hX _ _ _ _) (rm5_in (by decide) (by decide) (Nat.le_refl _) (Nat.le_refl _)) ml5_102 st5_in rfl (Nat.le_of_ble_eq_true rfl) dX5_egg_45 ?_
          rintro _ _ ⟨rfl, rfl⟩
          refine r_if_ne C0 48 53 dX5_egg_48 (by decide) (fun c_48 => ?_) (fun c_48 => ?_)
          · refine r_aload_n C0 53 0 dX5_egg_53 rfl rfl ?_
            refine m_getI C0 54 8 rfl fl5_106 rfl dX5_egg_54 ?_
            refine r_bipush C0 57 20 dX5_egg_57 (by decide) ?_
            refine r_icmp_ne C0 59 65 dX5_egg_59 (by decide) (fun c_59 => ?_) (fun c_59 => ?_)
            · have hlt : Q < 20 := Nat.lt_of_le_of_ne hQ2 (fun q => c_59 (by rw [hQ, q]; rfl))
              obtain ⟨x, hx, rfl⟩ := inR_3 c_6
              have hcl : (nI x).toNatClampNeg = x := nI_clamp (by omega)
              refine r_aload_n C0 65 0 dX5_egg_65 rfl rfl ?_
              refine m_getA C0 66 1 (by decide) fl5_7 rfl dX5_egg_66 ?_
              refine r_aload_n C0 69 0 dX5_egg_69 rfl rfl ?_
              refine m_getI C0 70 0 rfl fl5_109 rfl dX5_egg_70 ?_
              refine r_iload_n C0 73 1 dX5_egg_73 rfl rfl ?_
              refine m_st C0 74 E rfl hE (show E < 600 by omega) dX5_egg_74 ?_
              refine r_aload_n C0 75 0 dX5_egg_75 rfl rfl ?_
              refine m_getA C0 76 2 (by decide) fl5_13 rfl dX5_egg_76 ?_
              refine r_aload_n C0 79 0 dX5_egg_79 rfl rfl ?_
              refine m_getI C0 80 0 rfl fl5_109 rfl dX5_egg_80 ?_
              refine r_iload_n C0 83 2 dX5_egg_83 rfl rfl ?_
              refine m_st C0 84 E rfl hE (show E < 600 by omega) dX5_egg_84 ?_
              refine r_aload_n C0 85 0 dX5_egg_85 rfl rfl ?_
              refine m_getA C0 86 3 (by decide) fl5_16 rfl dX5_egg_86 ?_
              refine r_aload_n C0 89 0 dX5_egg_89 rfl rfl ?_
              refine m_getI C0 90 0 rfl fl5_109 rfl dX5_egg_90 ?_
              refine r_iload_n C0 93 3 dX5_egg_93 rfl rfl ?_
              refine m_st C0 94 E rfl hE (show E < 600 by omega) dX5_egg_94 ?_
              refine r_aload_n C0 95 0 dX5_egg_95 rfl rfl ?_
              refine m_getA C0 96 4 (by decide) fl5_19 rfl dX5_egg_96 ?_
              refine r_aload_n C0 99 0 dX5_egg_99 rfl rfl ?_
              refine m_getI C0 100 0 rfl fl5_109 rfl dX5_egg_100 ?_
              refine r_iload C0 103 dX5_egg_103 rfl ?_
              refine m_st C0 105 E rfl hE (show E < 600 by omega) dX5_egg_105 ?_
              refine r_aload_n C0 106 0 dX5_egg_106 rfl rfl ?_
              refine m_getA C0 107 5 (by decide) fl5_22 rfl dX5_egg_107 ?_
              refine r_aload_n C0 110 0 dX5_egg_110 rfl rfl ?_
              refine m_getI C0 111 0 rfl fl5_109 rfl dX5_egg_111 ?_
              refine r_iload C0 114 dX5_egg_114 rfl ?_
              refine m_st C0 116 E rfl hE (show E < 600 by omega) dX5_egg_116 ?_
              refine r_aload_n C0 117 0 dX5_egg_117 rfl rfl ?_
              refine m_getA C0 118 9 (by decide) fl5_31 rfl dX5_egg_118 ?_
              refine r_aload_n C0 121 0 dX5_egg_121 rfl rfl ?_
              refine m_getI C0 122 8 rfl fl5_106 rfl dX5_egg_122 ?_
              refine r_aload_n C0 125 0 dX5_egg_125 rfl rfl ?_
              refine m_getI C0 126 0 rfl fl5_109 rfl dX5_egg_126 ?_
              refine m_st C0 129 Q rfl hQ hlt dX5_egg_129 ?_
              refine r_aload_n C0 130 0 dX5_egg_130 rfl rfl ?_
              refine r_dup C0 131 dX5_egg_131 rfl ?_
              refine m_getI C0 132 8 rfl fl5_106 rfl dX5_egg_132 ?_
              refine r_iconst C0 135 1 dX5_egg_135 (by decide) ?_
              refine r_iadd C0 136 dX5_egg_136 ?_
              refine m_put C0 137 8 rfl fl5_106 rfl dX5_egg_137 ?_
              refine r_aload_n C0 140 0 dX5_egg_140 rfl rfl ?_
              refine m_getA C0 141 15 (by decide) fl5_43 rfl dX5_egg_141 ?_
              refine r_bipush C0 144 16 dX5_egg_144 (by decide) ?_
              refine r_iload_n C0 146 1 dX5_egg_146 rfl rfl ?_
              refine r_iadd C0 147 dX5_egg_147 ?_
              refine r_dup2 C0 148 dX5_egg_148 rfl rfl ?_
              refine m_ld C0 149 (16 + x) rfl (nI_add 16 x) (show _ < 20 by omega) dX5_egg_149 ?_
              refine r_iconst C0 150 1 dX5_egg_150 (by decide) ?_
              refine r_iadd C0 151 dX5_egg_151 ?_
              refine m_st C0 152 (16 + x) rfl (nI_add 16 x) (show _ < 20 by omega) dX5_egg_152 ?_
              refine r_aload_n C0 153 0 dX5_egg_153 rfl rfl ?_
              refine r_dup C0 154 dX5_egg_154 rfl ?_
              refine m_getI C0 155 0 rfl fl5_109 rfl dX5_egg_155 ?_
              refine r_iconst C0 158 1 dX5_egg_158 (by decide) ?_
              refine r_iadd C0 159 dX5_egg_159 ?_
              refine m_put C0 160 0 rfl fl5_109 rfl dX5_egg_160 ?_
              refine r_aload_n C0 163 0 dX5_egg_163 rfl rfl ?_
              refine m_getI C0 164 0 rfl fl5_109 rfl dX5_egg_164 ?_
              refine r_iconst C0 167 1 dX5_egg_167 (by decide) ?_
              refine r_isub C0 168 dX5_egg_168 ?_
              refine r_iret C 169 dX5_egg_169 (Nat.le_refl _) (Nat.le_refl _) ?_
              exact ⟨by simp only [eggA, eq_false c_6, eq_false c_17, eq_false c_27, eq_false c_38, eq_false c_48, eq_false c_59]; rfl, by simp only [eggA, eggM, hcl, eq_false c_6, eq_false c_17, eq_false c_27, eq_false c_38, eq_false c_48, eq_false c_59]; rfl⟩
            · refine r_bipush C0 62 (-3) dX5_egg_62 (by decide) ?_
              refine r_iret C 64 dX5_egg_64 (Nat.le_refl _) (Nat.le_refl _) ?_
              exact ⟨by simp [eggA, eq_false c_6, eq_false c_17, eq_false c_27, eq_false c_38, eq_false c_48, eq_true c_59], by simp [eggA, eq_false c_6, eq_false c_17, eq_false c_27, eq_false c_38, eq_false c_48, eq_true c_59]⟩
          · refine r_iconst C0 51 (-1) dX5_egg_51 (by decide) ?_
            refine r_iret C 52 dX5_egg_52 (Nat.le_refl _) (Nat.le_refl _) ?_
            exact ⟨by simp [eggA, eq_false c_6, eq_false c_17, eq_false c_27, eq_false c_38, eq_true c_48], by simp [eggA, eq_false c_6, eq_false c_17, eq_false c_27, eq_false c_38, eq_true c_48]⟩
end M9
end
section
/-! a tick of the model, pure: its steps, and that they keep the numbers in their ranges -/
def whN (M : Nat → Nat → Int32) (e : Nat) : Int32 := if dullN (M 3 e) ≤ 1 then if M 4 e ≤ 4 then if M 5 e ≤ 1 then 0 else 1 else 2 else 3
def whT (M : Nat → Nat → Int32) (e : Nat) (T : Int64) : Int64 := if dullN (M 3 e) ≤ 1 then if M 4 e ≤ 4 then if M 5 e ≤ 1 then T + 1000 + 100 + 10 + 1 else T + 1000 + 100 + 10 else T + 1000 + 100 else T + 1000
def eN (M : Nat → Nat → Int32) (k : Nat) : Nat := (M 10 k - 1).toNatClampNeg
def bN (M : Nat → Nat → Int32) (e : Nat) : Nat := (M 1 e).toNatClampNeg
def in15 (M : Nat → Nat → Int32) (x : Nat) : Nat → Nat → Int32 := up2 M 15 x (M 15 x + 1)
def s1M (M : Nat → Nat → Int32) : Nat → Nat → Int32 := if M 10 15 - 1 < 0 then M else in15 M (8 + bN M (eN M 15))
def mvL (f : Nat → Int32) (d : Nat) : Nat → Int32 := fun i => if 15 - d < i ∧ i ≤ 15 then f (i - 1) else f i
def s2M (M : Nat → Nat → Int32) : Nat → Nat → Int32 := fun g => if g = 10 then upd (mvL (M 10) 15) 0 0 else M g
def s3M (M : Nat → Nat → Int32) : Nat → Nat → Int32 := if M 10 2 - 1 < 0 then M else up2 (up2 M 6 (eN M 2) (M 2 (eN M 2) + M 36 0)) 7 (eN M 2) (M 35 0)
def lkW (M : Nat → Nat → Int32) (e : Nat) : Nat → Nat → Int32 := up2 (up2 (up2 (up2 (up2 M 12 (M 11 0).toNatClampNeg (nI e)) 13 (M 11 0).toNatClampNeg (M 35 0 + 8)) 11 0 (M 11 0 + 1)) 14 0 (M 14 0 + 1)) 5 e 0
def lk2 (M : Nat → Nat → Int32) (e : Nat) : Nat → Nat → Int32 := if whN M e = 0 then M else if whN M e = 1 then if 30 ≤ M 11 0 then in15 (up2 M 10 5 0) (0 + bN M e) else lkW (up2 M 10 5 0) e else in15 (up2 M 10 5 0) ((if whN M e = 3 then 4 else 0) + bN M e)
def lkM (M : Nat → Nat → Int32) : Nat → Nat → Int32 := if 0 ≤ M 10 5 - 1 then lk2 M (eN M 5) else M
def lkT (M : Nat → Nat → Int32) (T : Int64) : Int64 := if 0 ≤ M 10 5 - 1 then whT M (eN M 5) T else T
/-- what a tray of k eggs holds: first and last tick, weights, what the scale told -/
def trE (M : Nat → Nat → Int32) (p k : Nat) : Nat := (M 20 (6 * p + k)).toNatClampNeg
def trF (M : Nat → Nat → Int32) (p : Nat) : Nat → Int32
  | 0 => M 7 (trE M p 0)
  | k + 1 => if trF M p k ≤ M 7 (trE M p k) then trF M p k else M 7 (trE M p k)
def trL (M : Nat → Nat → Int32) (p : Nat) : Nat → Int32
  | 0 => M 7 (trE M p 0)
  | k + 1 => if M 7 (trE M p k) ≤ trL M p k then trL M p k else M 7 (trE M p k)
def trW (M : Nat → Nat → Int32) (p : Nat) : Nat → Int32
  | 0 => 0
  | k + 1 => trW M p k + M 2 (trE M p k)
def trT (M : Nat → Nat → Int32) (p : Nat) : Nat → Int32
  | 0 => 0
  | k + 1 => trT M p k + M 6 (trE M p k)
def pkI (M : Nat → Nat → Int32) (p a k : Nat) : Nat → Nat → Int32 := up2 (up2 (up2 (up2 (up2 (up2 M 22 a (M 16 p)) 23 a (btsN M p k)) 24 a (trF M p k)) 25 a (trL M p k)) 26 a (trW M p k)) 27 a (trT M p k)
def pkM (M : Nat → Nat → Int32) (p a : Nat) : Nat → Nat → Int32 := up2 (up2 (up2 (up2 (pkI M p a 6) 28 a (-9)) 29 a 0) 19 p 0) 21 0 (M 21 0 + 1)
def tk1 (M : Nat → Nat → Int32) (p e : Nat) : Nat → Nat → Int32 := in15 (up2 (up2 (up2 (up2 M 10 (8 + 2 * p) 0) 20 (6 * p + (M 19 p).toNatClampNeg) (nI e)) 19 p (M 19 p + 1)) 18 p 2) (12 + bN M e)
def tk2 (M : Nat → Nat → Int32) (p e : Nat) : Nat → Nat → Int32 := if M 19 p + 1 = 6 then pkM (tk1 M p e) p (M 21 0).toNatClampNeg else tk1 M p e
def tkM (M : Nat → Nat → Int32) (p : Nat) : Nat → Nat → Int32 := if M 18 p ≤ 0 then if M 10 (8 + 2 * p) - 1 < 0 then M else if M 17 p = 0 then if gradeN (M 6 (eN M (8 + 2 * p))) = M 16 p then if M 19 p = 5 then if M 21 0 = 60 then M else tk2 M p (eN M (8 + 2 * p)) else tk2 M p (eN M (8 + 2 * p)) else M else M else up2 M 18 p (M 18 p - 1)
def shf (f : Nat → Int32) (n : Nat) : Nat → Int32 := fun k => if k < n then f (k + 1) else f k
def drQ (M : Nat → Nat → Int32) : Nat → Nat → Int32 := up2 (up2 (up2 M 9 (M 8 0).toNatClampNeg (M 12 0)) 8 0 (M 8 0 + 1)) 11 0 (M 11 0 - 1)
def drS (M : Nat → Nat → Int32) (n : Nat) : Nat → Nat → Int32 := fun g => if g = 12 then shf (M 12) n else if g = 13 then shf (M 13) n else M g
def dr1 (M : Nat → Nat → Int32) : Nat → Nat → Int32 := drS (drQ M) ((M 11 0).toNatClampNeg - 1)
def drN : Nat → (Nat → Nat → Int32) → (Nat → Nat → Int32)
  | 0, M => M
  | n + 1, M => if M 11 0 ≤ 0 then M else if M 35 0 < M 13 0 then M else if 20 ≤ M 8 0 then M else drN n (dr1 M)
def fdS (M : Nat → Nat → Int32) (n : Nat) : Nat → Nat → Int32 := fun g => if g = 9 then shf (M 9) n else M g
def fdM (M : Nat → Nat → Int32) : Nat → Nat → Int32 := if M 8 0 ≤ 0 then M else fdS (up2 (up2 M 10 0 (M 9 0 + 1)) 8 0 (M 8 0 - 1)) ((M 8 0).toNatClampNeg - 1)
def tk4 (M : Nat → Nat → Int32) : Nat → (Nat → Nat → Int32)
  | 0 => M
  | p + 1 => tkM (tk4 M p) p
def tkA (M : Nat → Nat → Int32) : Nat → Nat → Int32 := s3M (s2M (s1M M))
def tkB (M : Nat → Nat → Int32) : Nat → Nat → Int32 := fdM (drN 30 (tk4 (lkM (tkA M)) 4))
def otM (M : Nat → Nat → Int32) : Nat → Nat → Int32 := up2 (tkB M) 35 0 (tkB M 35 0 + 1)
def otT (M : Nat → Nat → Int32) (T : Int64) : Int64 := lkT (tkA M) T
/-! the ranges -/
def QuOK (M : Nat → Nat → Int32) (E : Nat) : Prop := ∃ Q : Nat, Q ≤ 20 ∧ M 8 0 = nI Q ∧ ∀ k, k < Q → ∃ e : Nat, e < E ∧ M 9 k = nI e
def WaOK (M : Nat → Nat → Int32) (E : Nat) : Prop := ∃ W : Nat, W ≤ 30 ∧ M 11 0 = nI W ∧ ∀ k, k < W → ∃ e : Nat, e < E ∧ M 12 k = nI e
def Tr5 (M : Nat → Nat → Int32) (E : Nat) : Prop := ∀ p, p < 4 → ∃ t : Nat, t ≤ 5 ∧ M 19 p = nI t ∧ ∀ k, k < t → ∃ e : Nat, e < E ∧ M 20 (6 * p + k) = nI e
def PaOK (M : Nat → Nat → Int32) : Prop := ∃ P : Nat, P ≤ 60 ∧ M 21 0 = nI P
def BrOK (M : Nat → Nat → Int32) (E : Nat) : Prop := ∀ e, e < E → ∃ b : Nat, b < 4 ∧ M 1 e = nI b
def OKM (M : Nat → Nat → Int32) (E : Nat) : Prop := QuOK M E ∧ LiOK M E ∧ WaOK M E ∧ Tr5 M E ∧ PaOK M ∧ BrOK M E
theorem QuOK.c {M N : Nat → Nat → Int32} {E : Nat} (h : QuOK M E) (h8 : N 8 = M 8) (h9 : N 9 = M 9) : QuOK N E := by
  unfold QuOK; rw [h8, h9]; exact h
theorem LiOK.c {M N : Nat → Nat → Int32} {E : Nat} (h : LiOK M E) (h8 : N 10 = M 10) : LiOK N E := by
  unfold LiOK; rw [h8]; exact h
theorem WaOK.c {M N : Nat → Nat → Int32} {E : Nat} (h : WaOK M E) (h8 : N 11 = M 11) (h9 : N 12 = M 12) : WaOK N E := by
  unfold WaOK; rw [h8, h9]; exact h
theorem Tr5.c {M N : Nat → Nat → Int32} {E : Nat} (h : Tr5 M E) (h8 : N 19 = M 19) (h9 : N 20 = M 20) : Tr5 N E := by
  unfold Tr5; rw [h8, h9]; exact h
theorem PaOK.c {M N : Nat → Nat → Int32} (h : PaOK M) (h8 : N 21 = M 21) : PaOK N := by
  unfold PaOK; rw [h8]; exact h
theorem BrOK.c {M N : Nat → Nat → Int32} {E : Nat} (h : BrOK M E) (h8 : N 1 = M 1) : BrOK N E := by
  unfold BrOK; rw [h8]; exact h
theorem LiOK.z {M : Nat → Nat → Int32} {E k : Nat} (h : LiOK M E) : LiOK (up2 M 10 k 0) E := by
  intro i hi
  show ∃ v : Nat, v ≤ E ∧ upd (M 10) k 0 i = nI v
  unfold upd
  by_cases e : i = k
  · rw [if_pos e]; exact ⟨0, Nat.zero_le _, rfl⟩
  · rw [if_neg e]; exact h i hi
theorem OKM.s1 {M : Nat → Nat → Int32} {E : Nat} (h : OKM M E) : OKM (s1M M) E := by
  unfold s1M
  split
  · exact h
  · exact ⟨h.1.c rfl rfl, h.2.1.c rfl, h.2.2.1.c rfl rfl, h.2.2.2.1.c rfl rfl, h.2.2.2.2.1.c rfl, h.2.2.2.2.2.c rfl⟩
theorem OKM.s2 {M : Nat → Nat → Int32} {E : Nat} (h : OKM M E) : OKM (s2M M) E := by
  refine ⟨h.1.c rfl rfl, ?_, h.2.2.1.c rfl rfl, h.2.2.2.1.c rfl rfl, h.2.2.2.2.1.c rfl, h.2.2.2.2.2.c rfl⟩
  intro i hi
  show ∃ v : Nat, v ≤ E ∧ upd (mvL (M 10) 15) 0 0 i = nI v
  unfold upd mvL
  by_cases e : i = 0
  · rw [if_pos e]; exact ⟨0, Nat.zero_le _, rfl⟩
  · rw [if_neg e, if_pos (by omega)]
    exact h.2.1 (i - 1) (by omega)
theorem OKM.s3 {M : Nat → Nat → Int32} {E : Nat} (h : OKM M E) : OKM (s3M M) E := by
  unfold s3M
  split
  · exact h
  · exact ⟨h.1.c rfl rfl, h.2.1.c rfl, h.2.2.1.c rfl rfl, h.2.2.2.1.c rfl rfl, h.2.2.2.2.1.c rfl, h.2.2.2.2.2.c rfl⟩
theorem OKM.in15 {M : Nat → Nat → Int32} {E x : Nat} (h : OKM M E) : OKM (in15 M x) E := ⟨h.1.c rfl rfl, h.2.1.c rfl, h.2.2.1.c rfl rfl, h.2.2.2.1.c rfl rfl, h.2.2.2.2.1.c rfl, h.2.2.2.2.2.c rfl⟩
theorem OKM.z {M : Nat → Nat → Int32} {E k : Nat} (h : OKM M E) : OKM (up2 M 10 k 0) E := ⟨h.1.c rfl rfl, h.2.1.z, h.2.2.1.c rfl rfl, h.2.2.2.1.c rfl rfl, h.2.2.2.2.1.c rfl, h.2.2.2.2.2.c rfl⟩
theorem OKM.egg {M : Nat → Nat → Int32} {E k : Nat} (h : OKM M E) (hE : E ≤ 600) (hk : k < 16) (h0 : ¬ M 10 k - 1 < 0) : eN M k < E ∧ M 10 k - 1 = nI (eN M k) := by
  obtain ⟨v, hv, e⟩ := h.2.1 k hk
  have hv0 : 0 < v := (nI_prn e (by omega)).mp (Int32.not_lt.mp h0)
  unfold eN
  rw [nI_pr e hv0, nI_clamp (by omega)]
  exact ⟨by omega, rfl⟩
theorem OKM.lkW {M : Nat → Nat → Int32} {E e : Nat} (h : OKM M E) (he : e < E) (h0 : ¬ 30 ≤ M 11 0) : OKM (lkW M e) E := by
  refine ⟨h.1.c rfl rfl, h.2.1.c rfl, ?_, h.2.2.2.1.c rfl rfl, h.2.2.2.2.1.c rfl, h.2.2.2.2.2.c rfl⟩
  obtain ⟨W, hW, e1, hw⟩ := h.2.2.1
  have hlt : W < 30 := Nat.lt_of_not_le (fun q => h0 (by rw [e1]; exact nI_le (a := 30) q (by omega)))
  refine ⟨W + 1, by omega, ?_, fun k hk => ?_⟩
  · show upd (M 11) 0 (M 11 0 + 1) 0 = nI (W + 1)
    unfold upd
    rw [if_pos rfl, e1, nI_1]
  · show ∃ e9 : Nat, e9 < E ∧ upd (M 12) (M 11 0).toNatClampNeg (nI e) k = nI e9
    rw [e1, nI_clamp (by omega)]
    unfold upd
    by_cases q : k = W
    · rw [if_pos q]; exact ⟨e, he, rfl⟩
    · rw [if_neg q]; exact hw k (by omega)
theorem OKM.lk {M : Nat → Nat → Int32} {E : Nat} (h : OKM M E) (hE : E ≤ 600) : OKM (lkM M) E := by
  unfold lkM
  split
  · rename_i h0
    have he := (h.egg hE (k := 5) (by decide) (Int32.not_lt.mpr h0)).1
    unfold lk2
    split
    · exact h
    · split
      · split
        · exact h.z.in15
        · rename_i h3
          exact h.z.lkW he h3
      · exact h.z.in15
  · exact h
theorem OKM.pk {M : Nat → Nat → Int32} {E p a : Nat} (hp : p < 4) (hq : QuOK M E) (hl : LiOK M E) (hw : WaOK M E) (ht : ∀ q, q < 4 → q ≠ p → ∃ t : Nat, t ≤ 5 ∧ M 19 q = nI t ∧ ∀ k, k < t → ∃ e : Nat, e < E ∧ M 20 (6 * q + k) = nI e) (hP : ∃ P : Nat, P < 60 ∧ M 21 0 = nI P) (hb : BrOK M E) : OKM (pkM M p a) E := by
  refine ⟨hq.c rfl rfl, hl.c rfl, hw.c rfl rfl, fun q hq9 => ?_, ?_, hb.c rfl⟩
  · by_cases e : q = p
    · refine ⟨0, by omega, ?_, fun k hk => by omega⟩
      show upd (M 19) p 0 q = nI 0
      unfold upd
      rw [if_pos e]; rfl
    · obtain ⟨t, h1, h2, h3⟩ := ht q hq9 e
      refine ⟨t, h1, ?_, h3⟩
      show upd (M 19) p 0 q = nI t
      unfold upd
      rw [if_neg e]; exact h2
  · obtain ⟨P, h1, h2⟩ := hP
    refine ⟨P + 1, by omega, ?_⟩
    show upd (M 21) 0 (M 21 0 + 1) 0 = _
    unfold upd
    rw [if_pos rfl, h2, nI_1]
theorem OKM.tk {M : Nat → Nat → Int32} {E p : Nat} (h : OKM M E) (hE : E ≤ 600) (hp : p < 4) : OKM (tkM M p) E := by
  have key : ∀ e, e < E → ¬ (M 19 p = 5 ∧ M 21 0 = 60) → OKM (tk2 M p e) E := fun e he hno => by
    obtain ⟨t, ht5, ht, hk⟩ := h.2.2.2.1 p hp
    have h19 : ∀ q, (tk1 M p e) 19 q = if q = p then M 19 p + 1 else M 19 q := fun q => rfl
    have h20 : ∀ q, (tk1 M p e) 20 q = if q = 6 * p + (M 19 p).toNatClampNeg then nI e else M 20 q := fun q => rfl
    have hct : (M 19 p).toNatClampNeg = t := by rw [ht]; exact nI_clamp (by omega)
    have hoth : ∀ q, q < 4 → q ≠ p → ∃ t : Nat, t ≤ 5 ∧ (tk1 M p e) 19 q = nI t ∧ ∀ k, k < t → ∃ e9 : Nat, e9 < E ∧ (tk1 M p e) 20 (6 * q + k) = nI e9 := fun q hq9 hne => by
      obtain ⟨t2, a1, a2, a3⟩ := h.2.2.2.1 q hq9
      refine ⟨t2, a1, by rw [h19, if_neg hne]; exact a2, fun k hk9 => ?_⟩
      rw [h20, if_neg (by rw [hct]; omega)]
      exact a3 k hk9
    have hLi : LiOK (tk1 M p e) E := (h.2.1.z (k := 8 + 2 * p)).c rfl
    unfold tk2
    split
    · rename_i h6
      have ht5' : M 19 p = 5 := by
        rw [ht, nI_1] at h6
        have := (nI_eq (by omega) (by decide)).mp (show nI (t + 1) = nI 6 from h6)
        rw [ht, show t = 5 by omega]; rfl
      obtain ⟨P, hP6, hP⟩ := h.2.2.2.2.1
      exact OKM.pk hp (h.1.c rfl rfl) hLi (h.2.2.1.c rfl rfl) hoth ⟨P, Nat.lt_of_le_of_ne hP6 (fun q => hno ⟨ht5', by rw [hP, q]; rfl⟩), hP⟩ (h.2.2.2.2.2.c rfl)
    · rename_i h6
      refine ⟨h.1.c rfl rfl, hLi, h.2.2.1.c rfl rfl, fun q hq9 => ?_, h.2.2.2.2.1.c rfl, h.2.2.2.2.2.c rfl⟩
      by_cases hqp : q = p
      · subst hqp
        have ht4 : t < 5 := Nat.lt_of_le_of_ne ht5 (fun z => h6 (by rw [ht, z]; rfl))
        refine ⟨t + 1, by omega, by rw [h19, if_pos rfl, ht, nI_1], fun k hk9 => ?_⟩
        rw [h20, hct]
        by_cases hkt : k = t
        · rw [if_pos (by rw [hkt])]; exact ⟨e, he, rfl⟩
        · rw [if_neg (by omega)]; exact hk k (by omega)
      · exact hoth q hq9 hqp
  unfold tkM
  split
  · split
    · exact h
    · rename_i h0
      have he := (h.egg hE (k := 8 + 2 * p) (by omega) h0).1
      split
      · split
        · split
          · split
            · exact h
            · rename_i h5 h60
              exact key _ he (fun q => h60 q.2)
          · rename_i h5
            exact key _ he (fun q => h5 q.1)
        · exact h
      · exact h
  · exact ⟨h.1.c rfl rfl, h.2.1.c rfl, h.2.2.1.c rfl rfl, h.2.2.2.1.c rfl rfl, h.2.2.2.2.1.c rfl, h.2.2.2.2.2.c rfl⟩
theorem OKM.tk4 {M : Nat → Nat → Int32} {E : Nat} (h : OKM M E) (hE : E ≤ 600) : ∀ p, p ≤ 4 → OKM (tk4 M p) E
  | 0, _ => h
  | p + 1, hp => (OKM.tk4 h hE p (by omega)).tk hE (by omega)
theorem OKM.d1 {M : Nat → Nat → Int32} {E : Nat} (h : OKM M E) (h0 : ¬ M 11 0 ≤ 0) (h2 : ¬ 20 ≤ M 8 0) : OKM (dr1 M) E := by
  obtain ⟨Q, hQ, eQ, hq⟩ := h.1
  obtain ⟨W, hW, eW, hw⟩ := h.2.2.1
  have hQ2 : Q < 20 := Nat.lt_of_not_le (fun q => h2 (by rw [eQ]; exact nI_le (a := 20) q (by omega)))
  have hW0 : 0 < W := Nat.pos_of_ne_zero (fun q => h0 (by rw [eW, q]; decide))
  refine ⟨?_, h.2.1.c rfl, ?_, h.2.2.2.1.c rfl rfl, h.2.2.2.2.1.c rfl, h.2.2.2.2.2.c rfl⟩
  · refine ⟨Q + 1, by omega, ?_, fun k hk => ?_⟩
    · show upd (M 8) 0 (M 8 0 + 1) 0 = _
      unfold upd
      rw [if_pos rfl, eQ, nI_1]
    · show ∃ e9 : Nat, e9 < E ∧ upd (M 9) (M 8 0).toNatClampNeg (M 12 0) k = nI e9
      rw [eQ, nI_clamp (by omega)]
      unfold upd
      by_cases q : k = Q
      · rw [if_pos q]; exact hw 0 hW0
      · rw [if_neg q]; exact hq k (by omega)
  · refine ⟨W - 1, by omega, ?_, fun k hk => ?_⟩
    · show upd (M 11) 0 (M 11 0 - 1) 0 = _
      unfold upd
      rw [if_pos rfl]; exact nI_pr eW hW0
    · show ∃ e9 : Nat, e9 < E ∧ shf (M 12) ((M 11 0).toNatClampNeg - 1) k = nI e9
      rw [eW, nI_clamp (by omega)]
      unfold shf
      rw [if_pos hk]
      exact hw (k + 1) (by omega)
theorem OKM.dr {E : Nat} : ∀ (n : Nat) {M : Nat → Nat → Int32}, OKM M E → OKM (drN n M) E
  | 0, _, h => h
  | n + 1, M, h => by
    show OKM (if M 11 0 ≤ 0 then M else if M 35 0 < M 13 0 then M else if 20 ≤ M 8 0 then M else drN n (dr1 M)) E
    split
    · exact h
    · split
      · exact h
      · split
        · exact h
        · rename_i a b c
          exact OKM.dr n (h.d1 a c)
theorem OKM.fd {M : Nat → Nat → Int32} {E : Nat} (h : OKM M E) : OKM (fdM M) E := by
  unfold fdM
  split
  · exact h
  · rename_i h0
    obtain ⟨Q, hQ, eQ, hq⟩ := h.1
    have hQ0 : 0 < Q := Nat.pos_of_ne_zero (fun q => h0 (by rw [eQ, q]; decide))
    refine ⟨?_, ?_, h.2.2.1.c rfl rfl, h.2.2.2.1.c rfl rfl, h.2.2.2.2.1.c rfl, h.2.2.2.2.2.c rfl⟩
    · refine ⟨Q - 1, by omega, ?_, fun k hk => ?_⟩
      · show upd (M 8) 0 (M 8 0 - 1) 0 = _
        unfold upd
        rw [if_pos rfl]; exact nI_pr eQ hQ0
      · show ∃ e9 : Nat, e9 < E ∧ shf (M 9) ((M 8 0).toNatClampNeg - 1) k = nI e9
        rw [eQ, nI_clamp (by omega)]
        unfold shf
        rw [if_pos hk]
        exact hq (k + 1) (by omega)
    · intro i hi
      show ∃ v : Nat, v ≤ E ∧ upd (M 10) 0 (M 9 0 + 1) i = nI v
      unfold upd
      by_cases q : i = 0
      · rw [if_pos q]
        obtain ⟨e, he, e9⟩ := hq 0 hQ0
        exact ⟨e + 1, by omega, by rw [e9, nI_1]⟩
      · rw [if_neg q]; exact h.2.1 i hi
theorem OKM.tkA {M : Nat → Nat → Int32} {E : Nat} (h : OKM M E) : OKM (tkA M) E := h.s1.s2.s3
theorem OKM.tkB {M : Nat → Nat → Int32} {E : Nat} (h : OKM M E) (hE : E ≤ 600) : OKM (tkB M) E := (OKM.dr 30 ((h.tkA.lk hE).tk4 hE 4 (by decide))).fd
theorem okm_35 {N : Nat → Nat → Int32} {E : Nat} {v : Int32} (h : OKM N E) : OKM (up2 N 35 0 v) E := ⟨h.1.c rfl rfl, h.2.1.c rfl, h.2.2.1.c rfl rfl, h.2.2.2.1.c rfl rfl, h.2.2.2.2.1.c rfl, h.2.2.2.2.2.c rfl⟩
theorem okm_ot {M : Nat → Nat → Int32} {E : Nat} (h : OKM M E) (hE : E ≤ 600) : OKM (otM M) E := okm_35 (h.tkB hE)
end
section
/-! the model: whereTo, looks, packs, takes, dries, oneTick, tick -/
section M11a
variable {cc : ByteArray} {nL : Nat} {D : va_G} {ar : Nat → ClassId} {X : XT} {R : Room} {j : jT} {h1 : Nat} {ad : Nat → Nat} {M N : Nat → Nat → Int32} {T : Int64} {k n : Nat} {lv : List (Nat × Value)} {st : List Value}
theorem m_ldv (C : Cx0 RX5 cc nL D ar X R j) (pc x : Nat) (v : Int32) {f : Nat} {i : Int32} (hf : mkd f = 0) (hi : i = nI x) (hlt : x < mlen f) (hv : M f x = v) (hd : decode cc pc = .ok (.iaload, 1)) (kk : j (mW ar h1 ad M T) k n (pc + 1) lv (.int v :: st)) : j (mW ar h1 ad M T) k n pc lv (.int i :: .ref (ad f) :: st) := by
  subst hv
  exact m_ld C pc x hf hi hlt hd kk
theorem m_eq {pc : Nat} (h : M = N) (kk : j (mW ar h1 ad N T) k n pc lv st) : j (mW ar h1 ad M T) k n pc lv st := by
  subst h
  exact kk
end M11a
theorem up2_up2 {M : Nat → Nat → Int32} {f a : Nat} {v w : Int32} : up2 (up2 M f a v) f a w = up2 M f a w := by
  funext g
  unfold up2
  by_cases h : g = f
  · rw [if_pos h, if_pos h, if_pos h]
    funext x
    unfold upd
    by_cases e : x = a
    · rw [if_pos e, if_pos e]
    · rw [if_neg e, if_neg e, if_neg e]
  · rw [if_neg h, if_neg h, if_neg h]
theorem up2_sw {M : Nat → Nat → Int32} {f g a b : Nat} {v w : Int32} (h : f ≠ g) : up2 (up2 M f a v) g b w = up2 (up2 M g b w) f a v := by
  funext q
  unfold up2
  by_cases h1 : q = f
  · have h2 : ¬ q = g := fun z => h (h1.symm.trans z)
    rw [if_neg h2, if_pos h1, if_pos h1, if_neg h2]
  · rw [if_neg h1, if_neg h1]
theorem pk6 {M : Nat → Nat → Int32} {a : Nat} {v22 v23 v24 v25 v26 v27 w23 w24 w25 w26 w27 : Int32} : up2 (up2 (up2 (up2 (up2 (up2 (up2 (up2 (up2 (up2 (up2 M 22 a v22) 23 a v23) 24 a v24) 25 a v25) 26 a v26) 27 a v27) 23 a w23) 24 a w24) 25 a w25) 26 a w26) 27 a w27 = up2 (up2 (up2 (up2 (up2 (up2 M 22 a v22) 23 a w23) 24 a w24) 25 a w25) 26 a w26) 27 a w27 := by
  rw [up2_sw (f := 27) (g := 23) (by decide), up2_sw (f := 26) (g := 23) (by decide), up2_sw (f := 25) (g := 23) (by decide), up2_sw (f := 24) (g := 23) (by decide), up2_up2]
  rw [up2_sw (f := 27) (g := 24) (by decide), up2_sw (f := 26) (g := 24) (by decide), up2_sw (f := 25) (g := 24) (by decide), up2_up2]
  rw [up2_sw (f := 27) (g := 25) (by decide), up2_sw (f := 26) (g := 25) (by decide), up2_up2]
  rw [up2_sw (f := 27) (g := 26) (by decide), up2_up2]
  rw [up2_up2]
theorem shf_0 (f : Nat → Int32) : shf f 0 = f := by
  funext k
  unfold shf
  rw [if_neg (by omega)]
theorem shf_s (f : Nat → Int32) (n : Nat) : upd (shf f n) n (f (n + 1)) = shf f (n + 1) := by
  funext k
  unfold upd shf
  by_cases h : k = n
  · rw [if_pos h, if_pos (by omega), h]
  · rw [if_neg h]
    by_cases h2 : k < n
    · rw [if_pos h2, if_pos (by omega)]
    · rw [if_neg h2, if_neg (by omega)]
theorem shf_r (f : Nat → Int32) (n : Nat) : shf f n (n + 1) = f (n + 1) := by
  unfold shf
  rw [if_neg (by omega)]
theorem drS_0 (M : Nat → Nat → Int32) : drS M 0 = M := by
  funext g
  unfold drS
  by_cases h : g = 12
  · rw [if_pos h, shf_0, h]
  · rw [if_neg h]
    by_cases h2 : g = 13
    · rw [if_pos h2, shf_0, h2]
    · rw [if_neg h2]
theorem drS_s (M : Nat → Nat → Int32) (n : Nat) : up2 (up2 (drS M n) 12 n (M 12 (n + 1))) 13 n (M 13 (n + 1)) = drS M (n + 1) := by
  funext g
  by_cases h : g = 12
  · subst h
    exact shf_s (M 12) n
  · by_cases h2 : g = 13
    · subst h2
      exact shf_s (M 13) n
    · rw [up2_n h2, up2_n h]
      unfold drS
      rw [if_neg h, if_neg h2, if_neg h, if_neg h2]
theorem fdS_0 (M : Nat → Nat → Int32) : fdS M 0 = M := by
  funext g
  unfold fdS
  by_cases h : g = 9
  · rw [if_pos h, shf_0, h]
  · rw [if_neg h]
theorem fdS_s (M : Nat → Nat → Int32) (n : Nat) : up2 (fdS M n) 9 n (M 9 (n + 1)) = fdS M (n + 1) := by
  funext g
  by_cases h : g = 9
  · subst h
    exact shf_s (M 9) n
  · rw [up2_n h]
    unfold fdS
    rw [if_neg h, if_neg h]
def mvS (M : Nat → Nat → Int32) (d : Nat) : Nat → Nat → Int32 := fun g => if g = 10 then mvL (M 10) d else M g
theorem mvS_0 (M : Nat → Nat → Int32) : mvS M 0 = M := by
  funext g
  unfold mvS
  by_cases h : g = 10
  · rw [if_pos h, h]
    funext k
    unfold mvL
    rw [if_neg (by omega)]
  · rw [if_neg h]
theorem mvS_s (M : Nat → Nat → Int32) {d : Nat} (hd : d < 15) : up2 (mvS M d) 10 (15 - d) (M 10 (15 - d - 1)) = mvS M (d + 1) := by
  funext g
  by_cases h : g = 10
  · subst h
    show upd (mvL (M 10) d) (15 - d) _ = mvL (M 10) (d + 1)
    funext k
    unfold upd mvL
    by_cases h2 : k = 15 - d
    · rw [if_pos h2, if_pos (by omega), h2]
    · rw [if_neg h2]
      by_cases h3 : 15 - d < k ∧ k ≤ 15
      · rw [if_pos h3, if_pos (by omega)]
      · rw [if_neg h3, if_neg (by omega)]
  · rw [up2_n h]
    unfold mvS
    rw [if_neg h, if_neg h]
theorem mvS_r (M : Nat → Nat → Int32) {d : Nat} : mvS M d 10 (15 - d - 1) = M 10 (15 - d - 1) := by
  show mvL (M 10) d _ = _
  unfold mvL
  rw [if_neg (by omega)]
def tikN (M : Nat → Nat → Int32) (T : Int64) : Nat → (Nat → Nat → Int32) × Int64
  | 0 => (M, T)
  | k + 1 => (otM (tikN M T k).1, otT (tikN M T k).1 (tikN M T k).2)
theorem tikN_ok {M : Nat → Nat → Int32} {T : Int64} {E : Nat} (h : OKM M E) (hE : E ≤ 600) : ∀ k, OKM (tikN M T k).1 E
  | 0 => h
  | k + 1 => okm_ot (tikN_ok h hE k) hE
def tikM (M : Nat → Nat → Int32) (T : Int64) (n : Int32) : (Nat → Nat → Int32) × Int64 := if inR n 1 40 = 0 then (M, T) else tikN M T n.toNatClampNeg
def tikA (M : Nat → Nat → Int32) (T : Int64) (n : Int32) : Int32 := if inR n 1 40 = 0 then -1 else (tikN M T n.toNatClampNeg).1 35 0

section M11
variable {D : va_G} {ar : Nat → ClassId} {X : XT} {h1 : Nat} {ad : Nat → Nat} {M : Nat → Nat → Int32} {T : Int64}
set_option maxRecDepth 100000 in
theorem k5_whereTo (hX : Xok X) {e : Nat} (he : e < 600)  : Cn D ar X yX5_whereTo cX5_whereTo 2 (some .int) 1 20 0 0 [.ref h1, .int (nI e)] (mW ar h1 ad M T) (fun r w => r = some (.int (whN M e)) ∧ w = mW ar h1 ad M (whT M e T)) := by
  refine Cn.of (own := RX5) hX (by decide) rfl (Nat.le_of_ble_eq_true rfl) (fun j C => ?_)
  have C0 := C.to
  show j _ 0 0 0 [(0, _), (1, _)] []
  refine r_aload_n C0 0 0 dX5_whereTo_0 rfl rfl ?_
  refine r_dup C0 1 dX5_whereTo_1 rfl ?_
  refine m_getT C0 2 fl5_112 dX5_whereTo_2 ?_
  refine r_ldc2 C0 5 cl5_116 dX5_whereTo_5 ?_
  refine r_ladd C0 8 dX5_whereTo_8 ?_
  refine m_putT C0 9 fl5_112 dX5_whereTo_9 ?_
  refine r_aload_n C0 12 0 dX5_whereTo_12 rfl rfl ?_
  refine m_getA C0 13 3 (by decide) fl5_16 rfl dX5_whereTo_13 ?_
  refine r_iload_n C0 16 1 dX5_whereTo_16 rfl rfl ?_
  refine m_ld C0 17 e rfl rfl he dX5_whereTo_17 ?_
  refine s_call (As := [.int _]) C0 18 1 (k5_dull hX _ _) (rm5_dull (by decide) (by decide) (Nat.le_refl _) (Nat.le_refl _)) ml5_118 st5_dull rfl (Nat.le_of_ble_eq_true rfl) dX5_whereTo_18 ?_
  rintro _ _ ⟨rfl, rfl⟩
  refine r_iconst C0 21 1 dX5_whereTo_21 (by decide) ?_
  refine r_icmp_le C0 22 27 dX5_whereTo_22 (by decide) (fun c_22 => ?_) (fun c_22 => ?_)
  · refine r_aload_n C0 27 0 dX5_whereTo_27 rfl rfl ?_
    refine r_dup C0 28 dX5_whereTo_28 rfl ?_
    refine m_getT C0 29 fl5_112 dX5_whereTo_29 ?_
    refine r_ldc2 C0 32 cl5_122 dX5_whereTo_32 ?_
    refine r_ladd C0 35 dX5_whereTo_35 ?_
    refine m_putT C0 36 fl5_112 dX5_whereTo_36 ?_
    refine r_aload_n C0 39 0 dX5_whereTo_39 rfl rfl ?_
    refine m_getA C0 40 4 (by decide) fl5_19 rfl dX5_whereTo_40 ?_
    refine r_iload_n C0 43 1 dX5_whereTo_43 rfl rfl ?_
    refine m_ld C0 44 e rfl rfl he dX5_whereTo_44 ?_
    refine r_iconst C0 45 4 dX5_whereTo_45 (by decide) ?_
    refine r_icmp_le C0 46 51 dX5_whereTo_46 (by decide) (fun c_46 => ?_) (fun c_46 => ?_)
    · refine r_aload_n C0 51 0 dX5_whereTo_51 rfl rfl ?_
      refine r_dup C0 52 dX5_whereTo_52 rfl ?_
      refine m_getT C0 53 fl5_112 dX5_whereTo_53 ?_
      refine r_ldc2 C0 56 cl5_124 dX5_whereTo_56 ?_
      refine r_ladd C0 59 dX5_whereTo_59 ?_
      refine m_putT C0 60 fl5_112 dX5_whereTo_60 ?_
      refine r_aload_n C0 63 0 dX5_whereTo_63 rfl rfl ?_
      refine m_getA C0 64 5 (by decide) fl5_22 rfl dX5_whereTo_64 ?_
      refine r_iload_n C0 67 1 dX5_whereTo_67 rfl rfl ?_
      refine m_ld C0 68 e rfl rfl he dX5_whereTo_68 ?_
      refine r_iconst C0 69 1 dX5_whereTo_69 (by decide) ?_
      refine r_icmp_le C0 70 75 dX5_whereTo_70 (by decide) (fun c_70 => ?_) (fun c_70 => ?_)
      · refine r_aload_n C0 75 0 dX5_whereTo_75 rfl rfl ?_
        refine r_dup C0 76 dX5_whereTo_76 rfl ?_
        refine m_getT C0 77 fl5_112 dX5_whereTo_77 ?_
        refine r_lconst C0 80 1 dX5_whereTo_80 (by decide) ?_
        refine r_ladd C0 81 dX5_whereTo_81 ?_
        refine m_putT C0 82 fl5_112 dX5_whereTo_82 ?_
        refine r_iconst C0 85 0 dX5_whereTo_85 (by decide) ?_
        refine r_iret C 86 dX5_whereTo_86 (Nat.le_refl _) (Nat.le_refl _) ?_
        exact ⟨by simp only [whN, eq_true c_22, eq_true c_46, eq_true c_70]; rfl, by simp only [whT, eq_true c_22, eq_true c_46, eq_true c_70]; rfl⟩
      · refine r_iconst C0 73 1 dX5_whereTo_73 (by decide) ?_
        refine r_iret C 74 dX5_whereTo_74 (Nat.le_refl _) (Nat.le_refl _) ?_
        exact ⟨by simp only [whN, eq_true c_22, eq_true c_46, eq_false c_70]; rfl, by simp only [whT, eq_true c_22, eq_true c_46, eq_false c_70]; rfl⟩
    · refine r_iconst C0 49 2 dX5_whereTo_49 (by decide) ?_
      refine r_iret C 50 dX5_whereTo_50 (Nat.le_refl _) (Nat.le_refl _) ?_
      exact ⟨by simp only [whN, eq_true c_22, eq_false c_46]; rfl, by simp only [whT, eq_true c_22, eq_false c_46]; rfl⟩
  · refine r_iconst C0 25 3 dX5_whereTo_25 (by decide) ?_
    refine r_iret C 26 dX5_whereTo_26 (Nat.le_refl _) (Nat.le_refl _) ?_
    exact ⟨by simp only [whN, eq_false c_22]; rfl, by simp only [whT, eq_false c_22]; rfl⟩
set_option maxRecDepth 100000 in
theorem k5_looks (hX : Xok X) {E : Nat} (hE : E ≤ 600) (h : OKM M E)  : Cn D ar X yX5_looks cX5_looks 3 none 2 41 0 0 [.ref h1] (mW ar h1 ad M T) (fun r w => r = none ∧ w = mW ar h1 ad (lkM M) (lkT M T)) := by
  refine Cn.of (own := RX5) hX (by decide) rfl (Nat.le_of_ble_eq_true rfl) (fun j C => ?_)
  have C0 := C.to
  show j _ 0 0 0 [(0, _)] []
  refine r_aload_n C0 0 0 dX5_looks_0 rfl rfl ?_
  refine m_getA C0 1 10 (by decide) fl5_34 rfl dX5_looks_1 ?_
  refine r_iconst C0 4 5 dX5_looks_4 (by decide) ?_
  refine m_ld C0 5 5 rfl rfl (by decide) dX5_looks_5 ?_
  refine r_iconst C0 6 1 dX5_looks_6 (by decide) ?_
  refine r_isub C0 7 dX5_looks_7 ?_
  refine r_istore_n (lv' := [(0, _), (1, _)]) C0 8 1 dX5_looks_8 rfl rfl (by decide) rfl ?_
  refine r_iload_n C0 9 1 dX5_looks_9 rfl rfl ?_
  refine r_if_ge C0 10 17 dX5_looks_10 (by decide) (fun c_10 => ?_) (fun c_10 => ?_)
  · obtain ⟨heE, hve⟩ := h.egg hE (k := 5) (by decide) (Int32.not_lt.mpr c_10)
    rw [hve]
    obtain ⟨W, hW30, hW, -⟩ := h.2.2.1
    have hcW : (M 11 0).toNatClampNeg = W := by rw [hW]; exact nI_clamp (by omega)
    obtain ⟨b, hb4, hb0⟩ := h.2.2.2.2.2 _ heE
    have hbN : bN M (eN M 5) = b := by unfold bN; rw [hb0]; exact nI_clamp (by omega)
    have hb : M 1 (eN M 5) = nI (bN M (eN M 5)) := by rw [hbN]; exact hb0
    refine r_aload_n C0 17 0 dX5_looks_17 rfl rfl ?_
    refine r_iload_n C0 18 1 dX5_looks_18 rfl rfl ?_
    refine m_call (As := [.int _]) C0 19 1 (k5_whereTo hX (by omega)) (rm5_whereTo (by decide) (by decide) (Nat.le_refl _) (Nat.le_refl _)) ml5_126 im5_whereTo se5_whereTo rfl (Nat.le_of_ble_eq_true rfl) dX5_looks_19 ?_
    rintro _ _ ⟨rfl, rfl⟩
    refine r_istore_n (lv' := [(0, _), (1, _), (2, _)]) C0 22 2 dX5_looks_22 rfl rfl (by decide) rfl ?_
    refine r_iload_n C0 23 2 dX5_looks_23 rfl rfl ?_
    refine r_if_ne C0 24 28 dX5_looks_24 (by decide) (fun c_24 => ?_) (fun c_24 => ?_)
    · refine r_aload_n C0 28 0 dX5_looks_28 rfl rfl ?_
      refine m_getA C0 29 10 (by decide) fl5_34 rfl dX5_looks_29 ?_
      refine r_iconst C0 32 5 dX5_looks_32 (by decide) ?_
      refine r_iconst C0 33 0 dX5_looks_33 (by decide) ?_
      refine m_st C0 34 5 rfl rfl (by decide) dX5_looks_34 ?_
      refine r_iload_n C0 35 2 dX5_looks_35 rfl rfl ?_
      refine r_iconst C0 36 1 dX5_looks_36 (by decide) ?_
      refine r_icmp_ne C0 37 105 dX5_looks_37 (by decide) (fun c_37 => ?_) (fun c_37 => ?_)
      · refine r_aload_n C0 105 0 dX5_looks_105 rfl rfl ?_
        refine m_getA C0 106 15 (by decide) fl5_43 rfl dX5_looks_106 ?_
        refine r_iload_n C0 109 2 dX5_looks_109 rfl rfl ?_
        refine r_iconst C0 110 3 dX5_looks_110 (by decide) ?_
        refine r_icmp_ne C0 111 118 dX5_looks_111 (by decide) (fun c_111 => ?_) (fun c_111 => ?_)
        · refine r_iconst C0 118 0 dX5_looks_118 (by decide) ?_
          refine r_aload_n C0 119 0 dX5_looks_119 rfl rfl ?_
          refine m_getA C0 120 1 (by decide) fl5_7 rfl dX5_looks_120 ?_
          refine r_iload_n C0 123 1 dX5_looks_123 rfl rfl ?_
          refine m_ld C0 124 (eN M 5) rfl rfl (show eN M 5 < 600 by omega) dX5_looks_124 ?_
          refine r_iadd C0 125 dX5_looks_125 ?_
          refine r_dup2 C0 126 dX5_looks_126 rfl rfl ?_
          refine m_ld C0 127 (0 + bN M (eN M 5)) rfl (nI_add' (a := 0) rfl hb) (show _ < 20 by omega) dX5_looks_127 ?_
          refine r_iconst C0 128 1 dX5_looks_128 (by decide) ?_
          refine r_iadd C0 129 dX5_looks_129 ?_
          refine m_st C0 130 (0 + bN M (eN M 5)) rfl (nI_add' (a := 0) rfl hb) (show _ < 20 by omega) dX5_looks_130 ?_
          refine r_vret C 131 dX5_looks_131 (Nat.le_refl _) (Nat.le_refl _) ?_
          exact ⟨rfl, by simp only [lkM, lkT, lk2, eq_true c_10, eq_false c_24, eq_false c_37, eq_false c_111]; rfl⟩
        · refine r_iconst C0 114 4 dX5_looks_114 (by decide) ?_
          refine r_goto C0 115 119 dX5_looks_115 (by decide) ?_
          refine r_aload_n C0 119 0 dX5_looks_119 rfl rfl ?_
          refine m_getA C0 120 1 (by decide) fl5_7 rfl dX5_looks_120 ?_
          refine r_iload_n C0 123 1 dX5_looks_123 rfl rfl ?_
          refine m_ld C0 124 (eN M 5) rfl rfl (show eN M 5 < 600 by omega) dX5_looks_124 ?_
          refine r_iadd C0 125 dX5_looks_125 ?_
          refine r_dup2 C0 126 dX5_looks_126 rfl rfl ?_
          refine m_ld C0 127 (4 + bN M (eN M 5)) rfl (nI_add' (a := 4) rfl hb) (show _ < 20 by omega) dX5_looks_127 ?_
          refine r_iconst C0 128 1 dX5_looks_128 (by decide) ?_
          refine r_iadd C0 129 dX5_looks_129 ?_
          refine m_st C0 130 (4 + bN M (eN M 5)) rfl (nI_add' (a := 4) rfl hb) (show _ < 20 by omega) dX5_looks_130 ?_
          refine r_vret C 131 dX5_looks_131 (Nat.le_refl _) (Nat.le_refl _) ?_
          exact ⟨rfl, by simp only [lkM, lkT, lk2, eq_true c_10, eq_false c_24, eq_false c_37, eq_true c_111]; rfl⟩
      · refine r_aload_n C0 40 0 dX5_looks_40 rfl rfl ?_
        refine m_getI C0 41 11 rfl fl5_129 rfl dX5_looks_41 ?_
        refine r_bipush C0 44 30 dX5_looks_44 (by decide) ?_
        refine r_icmp_ge C0 46 105 dX5_looks_46 (by decide) (fun c_46 => ?_) (fun c_46 => ?_)
        · refine r_aload_n C0 105 0 dX5_looks_105 rfl rfl ?_
          refine m_getA C0 106 15 (by decide) fl5_43 rfl dX5_looks_106 ?_
          refine r_iload_n C0 109 2 dX5_looks_109 rfl rfl ?_
          refine r_iconst C0 110 3 dX5_looks_110 (by decide) ?_
          refine r_icmp_ne C0 111 118 dX5_looks_111 (by decide) (fun c_111 => ?_) (fun c_111 => ?_)
          · refine r_iconst C0 118 0 dX5_looks_118 (by decide) ?_
            refine r_aload_n C0 119 0 dX5_looks_119 rfl rfl ?_
            refine m_getA C0 120 1 (by decide) fl5_7 rfl dX5_looks_120 ?_
            refine r_iload_n C0 123 1 dX5_looks_123 rfl rfl ?_
            refine m_ld C0 124 (eN M 5) rfl rfl (show eN M 5 < 600 by omega) dX5_looks_124 ?_
            refine r_iadd C0 125 dX5_looks_125 ?_
            refine r_dup2 C0 126 dX5_looks_126 rfl rfl ?_
            refine m_ld C0 127 (0 + bN M (eN M 5)) rfl (nI_add' (a := 0) rfl hb) (show _ < 20 by omega) dX5_looks_127 ?_
            refine r_iconst C0 128 1 dX5_looks_128 (by decide) ?_
            refine r_iadd C0 129 dX5_looks_129 ?_
            refine m_st C0 130 (0 + bN M (eN M 5)) rfl (nI_add' (a := 0) rfl hb) (show _ < 20 by omega) dX5_looks_130 ?_
            refine r_vret C 131 dX5_looks_131 (Nat.le_refl _) (Nat.le_refl _) ?_
            exact ⟨rfl, by simp only [lkM, lkT, lk2, eq_true c_10, eq_false c_24, eq_true c_37, eq_true c_46, eq_false c_111]; rw [if_pos (show 30 ≤ M 11 0 from c_46)]; rfl⟩
          · exact absurd (c_37.symm.trans c_111) (by decide)
        · have hltW : W < 30 := Nat.lt_of_not_le (fun q => c_46 (by show 30 ≤ M 11 0; rw [hW]; exact nI_le (a := 30) q (by omega)))
          refine r_aload_n C0 49 0 dX5_looks_49 rfl rfl ?_
          refine m_getA C0 50 12 (by decide) fl5_37 rfl dX5_looks_50 ?_
          refine r_aload_n C0 53 0 dX5_looks_53 rfl rfl ?_
          refine m_getI C0 54 11 rfl fl5_129 rfl dX5_looks_54 ?_
          refine r_iload_n C0 57 1 dX5_looks_57 rfl rfl ?_
          refine m_st C0 58 W rfl hW hltW dX5_looks_58 ?_
          refine r_aload_n C0 59 0 dX5_looks_59 rfl rfl ?_
          refine m_getA C0 60 13 (by decide) fl5_40 rfl dX5_looks_60 ?_
          refine r_aload_n C0 63 0 dX5_looks_63 rfl rfl ?_
          refine m_getI C0 64 11 rfl fl5_129 rfl dX5_looks_64 ?_
          refine r_aload_n C0 67 0 dX5_looks_67 rfl rfl ?_
          refine m_getI C0 68 35 rfl fl5_98 rfl dX5_looks_68 ?_
          refine r_bipush C0 71 8 dX5_looks_71 (by decide) ?_
          refine r_iadd C0 73 dX5_looks_73 ?_
          refine m_st C0 74 W rfl hW hltW dX5_looks_74 ?_
          refine r_aload_n C0 75 0 dX5_looks_75 rfl rfl ?_
          refine r_dup C0 76 dX5_looks_76 rfl ?_
          refine m_getI C0 77 11 rfl fl5_129 rfl dX5_looks_77 ?_
          refine r_iconst C0 80 1 dX5_looks_80 (by decide) ?_
          refine r_iadd C0 81 dX5_looks_81 ?_
          refine m_put C0 82 11 rfl fl5_129 rfl dX5_looks_82 ?_
          refine r_aload_n C0 85 0 dX5_looks_85 rfl rfl ?_
          refine r_dup C0 86 dX5_looks_86 rfl ?_
          refine m_getI C0 87 14 rfl fl5_132 rfl dX5_looks_87 ?_
          refine r_iconst C0 90 1 dX5_looks_90 (by decide) ?_
          refine r_iadd C0 91 dX5_looks_91 ?_
          refine m_put C0 92 14 rfl fl5_132 rfl dX5_looks_92 ?_
          refine r_aload_n C0 95 0 dX5_looks_95 rfl rfl ?_
          refine m_getA C0 96 5 (by decide) fl5_22 rfl dX5_looks_96 ?_
          refine r_iload_n C0 99 1 dX5_looks_99 rfl rfl ?_
          refine r_iconst C0 100 0 dX5_looks_100 (by decide) ?_
          refine m_st C0 101 (eN M 5) rfl rfl (show eN M 5 < 600 by omega) dX5_looks_101 ?_
          refine r_goto C0 102 131 dX5_looks_102 (by decide) ?_
          refine r_vret C 131 dX5_looks_131 (Nat.le_refl _) (Nat.le_refl _) ?_
          exact ⟨rfl, by simp only [lkM, lkT, lk2, lkW, eq_false (show ¬ 30 ≤ M 11 0 from c_46), eq_true c_10, eq_false c_24, eq_true c_37, eq_false c_46]; rw [show (up2 M 10 5 0 11 0).toNatClampNeg = W from hcW]; rfl⟩
    · refine r_vret C 27 dX5_looks_27 (Nat.le_refl _) (Nat.le_refl _) ?_
      exact ⟨rfl, by simp only [lkM, lkT, lk2, eq_true c_10, eq_true c_24]; rfl⟩
  · refine r_iconst C0 13 0 dX5_looks_13 (by decide) ?_
    refine r_goto C0 14 22 dX5_looks_14 (by decide) ?_
    refine r_istore_n (lv' := [(0, _), (1, _), (2, _)]) C0 22 2 dX5_looks_22 rfl rfl (by decide) rfl ?_
    refine r_iload_n C0 23 2 dX5_looks_23 rfl rfl ?_
    refine r_if_ne C0 24 28 dX5_looks_24 (by decide) (fun c_24 => ?_) (fun c_24 => ?_)
    · exact absurd rfl c_24
    · refine r_vret C 27 dX5_looks_27 (Nat.le_refl _) (Nat.le_refl _) ?_
      exact ⟨rfl, by simp only [lkM, lkT, eq_false c_10]; rfl⟩
theorem pkI_23 {M : Nat → Nat → Int32} {p a k : Nat} : pkI M p a k 23 a = btsN M p k := pk_us
theorem pkI_24 {M : Nat → Nat → Int32} {p a k : Nat} : pkI M p a k 24 a = trF M p k := pk_us
theorem pkI_25 {M : Nat → Nat → Int32} {p a k : Nat} : pkI M p a k 25 a = trL M p k := pk_us
theorem pkI_26 {M : Nat → Nat → Int32} {p a k : Nat} : pkI M p a k 26 a = trW M p k := pk_us
theorem pkI_27 {M : Nat → Nat → Int32} {p a k : Nat} : pkI M p a k 27 a = trT M p k := pk_us
set_option maxRecDepth 100000 in
theorem k5_packs (hX : Xok X) {p P : Nat} (hp : p < 4) (hP : M 21 0 = nI P) (hP6 : P < 60) (ht : ∀ k, k < 6 → ∃ e : Nat, e < 600 ∧ M 20 (6 * p + k) = nI e)  : Cn D ar X yX5_packs cX5_packs 5 none 0 0 0 0 [.ref h1, .int (nI p)] (mW ar h1 ad M T) (fun r w => r = none ∧ w = mW ar h1 ad (pkM M p P) T) := by
  refine Cn.of (own := RX5) hX (by decide) rfl (Nat.le_of_ble_eq_true rfl) (fun j C => ?_)
  have C0 := C.to
  show j _ 0 0 0 [(0, _), (1, _)] []
  obtain ⟨e0, he0, hee0⟩ := ht 0 (by decide)
  have htr0 : trE M p 0 = e0 := by unfold trE; rw [hee0]; exact nI_clamp (by omega)
  refine r_aload_n C0 0 0 dX5_packs_0 rfl rfl ?_
  refine m_getI C0 1 21 rfl fl5_135 rfl dX5_packs_1 ?_
  refine r_istore_n (lv' := [(0, _), (1, _), (2, _)]) C0 4 2 dX5_packs_4 rfl rfl (by decide) rfl ?_
  rw [hP]
  refine r_aload_n C0 5 0 dX5_packs_5 rfl rfl ?_
  refine m_getA C0 6 22 (by decide) fl5_62 rfl dX5_packs_6 ?_
  refine r_iload_n C0 9 2 dX5_packs_9 rfl rfl ?_
  refine r_aload_n C0 10 0 dX5_packs_10 rfl rfl ?_
  refine m_getA C0 11 16 (by decide) fl5_46 rfl dX5_packs_11 ?_
  refine r_iload_n C0 14 1 dX5_packs_14 rfl rfl ?_
  refine m_ld C0 15 p rfl rfl hp dX5_packs_15 ?_
  refine m_st C0 16 P rfl rfl hP6 dX5_packs_16 ?_
  refine r_aload_n C0 17 0 dX5_packs_17 rfl rfl ?_
  refine m_getA C0 18 23 (by decide) fl5_65 rfl dX5_packs_18 ?_
  refine r_iload_n C0 21 2 dX5_packs_21 rfl rfl ?_
  refine r_iconst C0 22 0 dX5_packs_22 (by decide) ?_
  refine m_st C0 23 P rfl rfl hP6 dX5_packs_23 ?_
  refine r_aload_n C0 24 0 dX5_packs_24 rfl rfl ?_
  refine m_getA C0 25 24 (by decide) fl5_68 rfl dX5_packs_25 ?_
  refine r_iload_n C0 28 2 dX5_packs_28 rfl rfl ?_
  refine r_aload_n C0 29 0 dX5_packs_29 rfl rfl ?_
  refine m_getA C0 30 7 (by decide) fl5_28 rfl dX5_packs_30 ?_
  refine r_aload_n C0 33 0 dX5_packs_33 rfl rfl ?_
  refine m_getA C0 34 20 (by decide) fl5_59 rfl dX5_packs_34 ?_
  refine r_bipush C0 37 6 dX5_packs_37 (by decide) ?_
  refine r_iload_n C0 39 1 dX5_packs_39 rfl rfl ?_
  refine r_imul C0 40 dX5_packs_40 ?_
  refine m_ld C0 41 (6 * p) rfl (nI_mul' (a := 6) rfl rfl) (show _ < 24 by omega) dX5_packs_41 ?_
  refine m_ld C0 42 e0 rfl hee0 he0 dX5_packs_42 ?_
  refine m_st C0 43 P rfl rfl hP6 dX5_packs_43 ?_
  refine r_aload_n C0 44 0 dX5_packs_44 rfl rfl ?_
  refine m_getA C0 45 25 (by decide) fl5_71 rfl dX5_packs_45 ?_
  refine r_iload_n C0 48 2 dX5_packs_48 rfl rfl ?_
  refine r_aload_n C0 49 0 dX5_packs_49 rfl rfl ?_
  refine m_getA C0 50 24 (by decide) fl5_68 rfl dX5_packs_50 ?_
  refine r_iload_n C0 53 2 dX5_packs_53 rfl rfl ?_
  refine m_ldv C0 54 P (M 7 e0) rfl rfl hP6 pk_us dX5_packs_54 ?_
  refine m_st C0 55 P rfl rfl hP6 dX5_packs_55 ?_
  refine r_aload_n C0 56 0 dX5_packs_56 rfl rfl ?_
  refine m_getA C0 57 26 (by decide) fl5_74 rfl dX5_packs_57 ?_
  refine r_iload_n C0 60 2 dX5_packs_60 rfl rfl ?_
  refine r_iconst C0 61 0 dX5_packs_61 (by decide) ?_
  refine m_st C0 62 P rfl rfl hP6 dX5_packs_62 ?_
  refine r_aload_n C0 63 0 dX5_packs_63 rfl rfl ?_
  refine m_getA C0 64 27 (by decide) fl5_77 rfl dX5_packs_64 ?_
  refine r_iload_n C0 67 2 dX5_packs_67 rfl rfl ?_
  refine r_iconst C0 68 0 dX5_packs_68 (by decide) ?_
  refine m_st C0 69 P rfl rfl hP6 dX5_packs_69 ?_
  refine r_iconst C0 70 0 dX5_packs_70 (by decide) ?_
  refine r_istore_n (lv' := [(0, _), (1, _), (2, _), (3, _)]) C0 71 3 dX5_packs_71 rfl rfl (by decide) rfl ?_
  refine m_eq (N := pkI M p P 0) ?_ ?_
  · unfold pkI
    rw [show trF M p 0 = M 7 e0 by unfold trF; rw [htr0], show trL M p 0 = M 7 e0 by unfold trL; rw [htr0]]
    rfl
  refine loopUp (P := 6) (f := fun k => j (mW ar h1 ad (pkI M p P k) T) 0 0 72 [(0, .ref h1), (1, .int (nI p)), (2, .int (nI P)), (3, .int (nI k))] []) (fun k hi ih => ?_) 0 (Nat.zero_le _)
  refine r_iload_n C0 72 3 dX5_packs_72 rfl rfl ?_
  refine r_bipush C0 73 6 dX5_packs_73 (by decide) ?_
  refine r_icmp_ge C0 75 223 dX5_packs_75 (by decide) (fun c_75 => ?_) (fun c_75 => ?_)
  · have hge : 6 ≤ k := (nI_leI (a := 6) (by omega) (by omega)).mp c_75
    have e9 : k = 6 := by omega
    subst e9
    refine r_aload_n C0 223 0 dX5_packs_223 rfl rfl ?_
    refine m_getA C0 224 28 (by decide) fl5_80 rfl dX5_packs_224 ?_
    refine r_iload_n C0 227 2 dX5_packs_227 rfl rfl ?_
    refine r_bipush C0 228 (-9) dX5_packs_228 (by decide) ?_
    refine m_st C0 230 P rfl rfl hP6 dX5_packs_230 ?_
    refine r_aload_n C0 231 0 dX5_packs_231 rfl rfl ?_
    refine m_getA C0 232 29 (by decide) fl5_83 rfl dX5_packs_232 ?_
    refine r_iload_n C0 235 2 dX5_packs_235 rfl rfl ?_
    refine r_iconst C0 236 0 dX5_packs_236 (by decide) ?_
    refine m_stz C0 237 P rfl rfl hP6 rfl dX5_packs_237 ?_
    refine r_aload_n C0 238 0 dX5_packs_238 rfl rfl ?_
    refine m_getA C0 239 19 (by decide) fl5_56 rfl dX5_packs_239 ?_
    refine r_iload_n C0 242 1 dX5_packs_242 rfl rfl ?_
    refine r_iconst C0 243 0 dX5_packs_243 (by decide) ?_
    refine m_st C0 244 p rfl rfl hp dX5_packs_244 ?_
    refine r_aload_n C0 245 0 dX5_packs_245 rfl rfl ?_
    refine r_dup C0 246 dX5_packs_246 rfl ?_
    refine m_getI C0 247 21 rfl fl5_135 rfl dX5_packs_247 ?_
    refine r_iconst C0 250 1 dX5_packs_250 (by decide) ?_
    refine r_iadd C0 251 dX5_packs_251 ?_
    refine m_put C0 252 21 rfl fl5_135 rfl dX5_packs_252 ?_
    refine r_vret C 255 dX5_packs_255 (Nat.le_refl _) (Nat.le_refl _) ?_
    exact ⟨rfl, rfl⟩
  · have hlt : k < 6 := Nat.lt_of_not_le (fun q => c_75 (nI_le (a := 6) q (by omega)))
    obtain ⟨e, he, hee⟩ := ht k hlt
    have htr : trE M p k = e := by unfold trE; rw [hee]; exact nI_clamp (by omega)
    have eB : btsN M p (k + 1) = btsN M p k ||| (1 <<< (M 1 e &&& 31)) := by
      show btsN M p k ||| _ = _
      rw [hee, nI_clamp (by omega)]
    have eW : trW M p (k + 1) = trW M p k + M 2 e := by
      show trW M p k + M 2 (trE M p k) = _
      rw [htr]
    have eT : trT M p (k + 1) = trT M p k + M 6 e := by
      show trT M p k + M 6 (trE M p k) = _
      rw [htr]
    have eF : trF M p (k + 1) = if trF M p k ≤ M 7 e then trF M p k else M 7 e := by
      show (if trF M p k ≤ M 7 (trE M p k) then trF M p k else M 7 (trE M p k)) = _
      rw [htr]
    have eL : trL M p (k + 1) = if M 7 e ≤ trL M p k then trL M p k else M 7 e := by
      show (if M 7 (trE M p k) ≤ trL M p k then trL M p k else M 7 (trE M p k)) = _
      rw [htr]
    refine r_aload_n C0 78 0 dX5_packs_78 rfl rfl ?_
    refine m_getA C0 79 20 (by decide) fl5_59 rfl dX5_packs_79 ?_
    refine r_bipush C0 82 6 dX5_packs_82 (by decide) ?_
    refine r_iload_n C0 84 1 dX5_packs_84 rfl rfl ?_
    refine r_imul C0 85 dX5_packs_85 ?_
    refine r_iload_n C0 86 3 dX5_packs_86 rfl rfl ?_
    refine r_iadd C0 87 dX5_packs_87 ?_
    refine m_ld C0 88 (6 * p + k) rfl (nI_add' (nI_mul' (a := 6) rfl rfl) rfl) (show _ < 24 by omega) dX5_packs_88 ?_
    refine r_istore (lv' := [(0, _), (1, _), (2, _), (3, _), (4, _)]) C0 89 dX5_packs_89 rfl (by decide) rfl ?_
    refine r_aload_n C0 91 0 dX5_packs_91 rfl rfl ?_
    refine m_getA C0 92 23 (by decide) fl5_65 rfl dX5_packs_92 ?_
    refine r_iload_n C0 95 2 dX5_packs_95 rfl rfl ?_
    refine r_dup2 C0 96 dX5_packs_96 rfl rfl ?_
    refine m_ldv C0 97 P (btsN M p k) rfl rfl hP6 pkI_23 dX5_packs_97 ?_
    refine r_iconst C0 98 1 dX5_packs_98 (by decide) ?_
    refine r_aload_n C0 99 0 dX5_packs_99 rfl rfl ?_
    refine m_getA C0 100 1 (by decide) fl5_7 rfl dX5_packs_100 ?_
    refine r_iload C0 103 dX5_packs_103 rfl ?_
    refine m_ldv C0 105 e (M 1 e) rfl hee he rfl dX5_packs_105 ?_
    refine r_ishl C0 106 dX5_packs_106 ?_
    refine r_ior C0 107 dX5_packs_107 ?_
    refine m_st C0 108 P rfl rfl hP6 dX5_packs_108 ?_
    refine r_aload_n C0 109 0 dX5_packs_109 rfl rfl ?_
    refine m_getA C0 110 24 (by decide) fl5_68 rfl dX5_packs_110 ?_
    refine r_iload_n C0 113 2 dX5_packs_113 rfl rfl ?_
    refine r_aload_n C0 114 0 dX5_packs_114 rfl rfl ?_
    refine m_getA C0 115 7 (by decide) fl5_28 rfl dX5_packs_115 ?_
    refine r_iload C0 118 dX5_packs_118 rfl ?_
    refine m_ldv C0 120 e (M 7 e) rfl hee he rfl dX5_packs_120 ?_
    refine r_aload_n C0 121 0 dX5_packs_121 rfl rfl ?_
    refine m_getA C0 122 24 (by decide) fl5_68 rfl dX5_packs_122 ?_
    refine r_iload_n C0 125 2 dX5_packs_125 rfl rfl ?_
    refine m_ldv C0 126 P (trF M p k) rfl rfl hP6 (by simp (decide := true) only [up2_n]; exact pkI_24) dX5_packs_126 ?_
    refine r_icmp_ge C0 127 140 dX5_packs_127 (by decide) (fun c_127 => ?_) (fun c_127 => ?_)
    · refine r_aload_n C0 140 0 dX5_packs_140 rfl rfl ?_
      refine m_getA C0 141 24 (by decide) fl5_68 rfl dX5_packs_141 ?_
      refine r_iload_n C0 144 2 dX5_packs_144 rfl rfl ?_
      refine m_ldv C0 145 P (trF M p k) rfl rfl hP6 (by simp (decide := true) only [up2_n]; exact pkI_24) dX5_packs_145 ?_
      refine m_st C0 146 P rfl rfl hP6 dX5_packs_146 ?_
      refine r_aload_n C0 147 0 dX5_packs_147 rfl rfl ?_
      refine m_getA C0 148 25 (by decide) fl5_71 rfl dX5_packs_148 ?_
      refine r_iload_n C0 151 2 dX5_packs_151 rfl rfl ?_
      refine r_aload_n C0 152 0 dX5_packs_152 rfl rfl ?_
      refine m_getA C0 153 7 (by decide) fl5_28 rfl dX5_packs_153 ?_
      refine r_iload C0 156 dX5_packs_156 rfl ?_
      refine m_ldv C0 158 e (M 7 e) rfl hee he rfl dX5_packs_158 ?_
      refine r_aload_n C0 159 0 dX5_packs_159 rfl rfl ?_
      refine m_getA C0 160 25 (by decide) fl5_71 rfl dX5_packs_160 ?_
      refine r_iload_n C0 163 2 dX5_packs_163 rfl rfl ?_
      refine m_ldv C0 164 P (trL M p k) rfl rfl hP6 (by simp (decide := true) only [up2_n]; exact pkI_25) dX5_packs_164 ?_
      refine r_icmp_le C0 165 178 dX5_packs_165 (by decide) (fun c_165 => ?_) (fun c_165 => ?_)
      · refine r_aload_n C0 178 0 dX5_packs_178 rfl rfl ?_
        refine m_getA C0 179 25 (by decide) fl5_71 rfl dX5_packs_179 ?_
        refine r_iload_n C0 182 2 dX5_packs_182 rfl rfl ?_
        refine m_ldv C0 183 P (trL M p k) rfl rfl hP6 (by simp (decide := true) only [up2_n]; exact pkI_25) dX5_packs_183 ?_
        refine m_st C0 184 P rfl rfl hP6 dX5_packs_184 ?_
        refine r_aload_n C0 185 0 dX5_packs_185 rfl rfl ?_
        refine m_getA C0 186 26 (by decide) fl5_74 rfl dX5_packs_186 ?_
        refine r_iload_n C0 189 2 dX5_packs_189 rfl rfl ?_
        refine r_dup2 C0 190 dX5_packs_190 rfl rfl ?_
        refine m_ldv C0 191 P (trW M p k) rfl rfl hP6 (by simp (decide := true) only [up2_n]; exact pkI_26) dX5_packs_191 ?_
        refine r_aload_n C0 192 0 dX5_packs_192 rfl rfl ?_
        refine m_getA C0 193 2 (by decide) fl5_13 rfl dX5_packs_193 ?_
        refine r_iload C0 196 dX5_packs_196 rfl ?_
        refine m_ldv C0 198 e (M 2 e) rfl hee he rfl dX5_packs_198 ?_
        refine r_iadd C0 199 dX5_packs_199 ?_
        refine m_st C0 200 P rfl rfl hP6 dX5_packs_200 ?_
        refine r_aload_n C0 201 0 dX5_packs_201 rfl rfl ?_
        refine m_getA C0 202 27 (by decide) fl5_77 rfl dX5_packs_202 ?_
        refine r_iload_n C0 205 2 dX5_packs_205 rfl rfl ?_
        refine r_dup2 C0 206 dX5_packs_206 rfl rfl ?_
        refine m_ldv C0 207 P (trT M p k) rfl rfl hP6 (by simp (decide := true) only [up2_n]; exact pkI_27) dX5_packs_207 ?_
        refine r_aload_n C0 208 0 dX5_packs_208 rfl rfl ?_
        refine m_getA C0 209 6 (by decide) fl5_25 rfl dX5_packs_209 ?_
        refine r_iload C0 212 dX5_packs_212 rfl ?_
        refine m_ldv C0 214 e (M 6 e) rfl hee he rfl dX5_packs_214 ?_
        refine r_iadd C0 215 dX5_packs_215 ?_
        refine m_st C0 216 P rfl rfl hP6 dX5_packs_216 ?_
        refine r_iinc (lv' := [(0, _), (1, _), (2, _), (3, _), (4, _)]) C0 217 _ dX5_packs_217 rfl rfl rfl (by decide) rfl ?_
        refine r_goto C0 220 72 dX5_packs_220 (by decide) ?_
        have h9 := ih hlt
        rw [← nI_1] at h9
        refine m_eq (N := pkI M p P (k + 1)) ?_ (r_drop C0 ?_ h9)
        · refine pk6.trans ?_
          unfold pkI
          rw [eB, eF, eL, eW, eT, if_pos c_127, if_pos c_165]
        · simp [show Int32.ofInt 1 = (1 : Int32) from rfl]
      · refine r_aload_n C0 168 0 dX5_packs_168 rfl rfl ?_
        refine m_getA C0 169 7 (by decide) fl5_28 rfl dX5_packs_169 ?_
        refine r_iload C0 172 dX5_packs_172 rfl ?_
        refine m_ldv C0 174 e (M 7 e) rfl hee he rfl dX5_packs_174 ?_
        refine r_goto C0 175 184 dX5_packs_175 (by decide) ?_
        refine m_st C0 184 P rfl rfl hP6 dX5_packs_184 ?_
        refine r_aload_n C0 185 0 dX5_packs_185 rfl rfl ?_
        refine m_getA C0 186 26 (by decide) fl5_74 rfl dX5_packs_186 ?_
        refine r_iload_n C0 189 2 dX5_packs_189 rfl rfl ?_
        refine r_dup2 C0 190 dX5_packs_190 rfl rfl ?_
        refine m_ldv C0 191 P (trW M p k) rfl rfl hP6 (by simp (decide := true) only [up2_n]; exact pkI_26) dX5_packs_191 ?_
        refine r_aload_n C0 192 0 dX5_packs_192 rfl rfl ?_
        refine m_getA C0 193 2 (by decide) fl5_13 rfl dX5_packs_193 ?_
        refine r_iload C0 196 dX5_packs_196 rfl ?_
        refine m_ldv C0 198 e (M 2 e) rfl hee he rfl dX5_packs_198 ?_
        refine r_iadd C0 199 dX5_packs_199 ?_
        refine m_st C0 200 P rfl rfl hP6 dX5_packs_200 ?_
        refine r_aload_n C0 201 0 dX5_packs_201 rfl rfl ?_
        refine m_getA C0 202 27 (by decide) fl5_77 rfl dX5_packs_202 ?_
        refine r_iload_n C0 205 2 dX5_packs_205 rfl rfl ?_
        refine r_dup2 C0 206 dX5_packs_206 rfl rfl ?_
        refine m_ldv C0 207 P (trT M p k) rfl rfl hP6 (by simp (decide := true) only [up2_n]; exact pkI_27) dX5_packs_207 ?_
        refine r_aload_n C0 208 0 dX5_packs_208 rfl rfl ?_
        refine m_getA C0 209 6 (by decide) fl5_25 rfl dX5_packs_209 ?_
        refine r_iload C0 212 dX5_packs_212 rfl ?_
        refine m_ldv C0 214 e (M 6 e) rfl hee he rfl dX5_packs_214 ?_
        refine r_iadd C0 215 dX5_packs_215 ?_
        refine m_st C0 216 P rfl rfl hP6 dX5_packs_216 ?_
        refine r_iinc (lv' := [(0, _), (1, _), (2, _), (3, _), (4, _)]) C0 217 _ dX5_packs_217 rfl rfl rfl (by decide) rfl ?_
        refine r_goto C0 220 72 dX5_packs_220 (by decide) ?_
        have h9 := ih hlt
        rw [← nI_1] at h9
        refine m_eq (N := pkI M p P (k + 1)) ?_ (r_drop C0 ?_ h9)
        · refine pk6.trans ?_
          unfold pkI
          rw [eB, eF, eL, eW, eT, if_pos c_127, if_neg c_165]
        · simp [show Int32.ofInt 1 = (1 : Int32) from rfl]
    · refine r_aload_n C0 130 0 dX5_packs_130 rfl rfl ?_
      refine m_getA C0 131 7 (by decide) fl5_28 rfl dX5_packs_131 ?_
      refine r_iload C0 134 dX5_packs_134 rfl ?_
      refine m_ldv C0 136 e (M 7 e) rfl hee he rfl dX5_packs_136 ?_
      refine r_goto C0 137 146 dX5_packs_137 (by decide) ?_
      refine m_st C0 146 P rfl rfl hP6 dX5_packs_146 ?_
      refine r_aload_n C0 147 0 dX5_packs_147 rfl rfl ?_
      refine m_getA C0 148 25 (by decide) fl5_71 rfl dX5_packs_148 ?_
      refine r_iload_n C0 151 2 dX5_packs_151 rfl rfl ?_
      refine r_aload_n C0 152 0 dX5_packs_152 rfl rfl ?_
      refine m_getA C0 153 7 (by decide) fl5_28 rfl dX5_packs_153 ?_
      refine r_iload C0 156 dX5_packs_156 rfl ?_
      refine m_ldv C0 158 e (M 7 e) rfl hee he rfl dX5_packs_158 ?_
      refine r_aload_n C0 159 0 dX5_packs_159 rfl rfl ?_
      refine m_getA C0 160 25 (by decide) fl5_71 rfl dX5_packs_160 ?_
      refine r_iload_n C0 163 2 dX5_packs_163 rfl rfl ?_
      refine m_ldv C0 164 P (trL M p k) rfl rfl hP6 (by simp (decide := true) only [up2_n]; exact pkI_25) dX5_packs_164 ?_
      refine r_icmp_le C0 165 178 dX5_packs_165 (by decide) (fun c_165 => ?_) (fun c_165 => ?_)
      · refine r_aload_n C0 178 0 dX5_packs_178 rfl rfl ?_
        refine m_getA C0 179 25 (by decide) fl5_71 rfl dX5_packs_179 ?_
        refine r_iload_n C0 182 2 dX5_packs_182 rfl rfl ?_
        refine m_ldv C0 183 P (trL M p k) rfl rfl hP6 (by simp (decide := true) only [up2_n]; exact pkI_25) dX5_packs_183 ?_
        refine m_st C0 184 P rfl rfl hP6 dX5_packs_184 ?_
        refine r_aload_n C0 185 0 dX5_packs_185 rfl rfl ?_
        refine m_getA C0 186 26 (by decide) fl5_74 rfl dX5_packs_186 ?_
        refine r_iload_n C0 189 2 dX5_packs_189 rfl rfl ?_
        refine r_dup2 C0 190 dX5_packs_190 rfl rfl ?_
        refine m_ldv C0 191 P (trW M p k) rfl rfl hP6 (by simp (decide := true) only [up2_n]; exact pkI_26) dX5_packs_191 ?_
        refine r_aload_n C0 192 0 dX5_packs_192 rfl rfl ?_
        refine m_getA C0 193 2 (by decide) fl5_13 rfl dX5_packs_193 ?_
        refine r_iload C0 196 dX5_packs_196 rfl ?_
        refine m_ldv C0 198 e (M 2 e) rfl hee he rfl dX5_packs_198 ?_
        refine r_iadd C0 199 dX5_packs_199 ?_
        refine m_st C0 200 P rfl rfl hP6 dX5_packs_200 ?_
        refine r_aload_n C0 201 0 dX5_packs_201 rfl rfl ?_
        refine m_getA C0 202 27 (by decide) fl5_77 rfl dX5_packs_202 ?_
        refine r_iload_n C0 205 2 dX5_packs_205 rfl rfl ?_
        refine r_dup2 C0 206 dX5_packs_206 rfl rfl ?_
        refine m_ldv C0 207 P (trT M p k) rfl rfl hP6 (by simp (decide := true) only [up2_n]; exact pkI_27) dX5_packs_207 ?_
        refine r_aload_n C0 208 0 dX5_packs_208 rfl rfl ?_
        refine m_getA C0 209 6 (by decide) fl5_25 rfl dX5_packs_209 ?_
        refine r_iload C0 212 dX5_packs_212 rfl ?_
        refine m_ldv C0 214 e (M 6 e) rfl hee he rfl dX5_packs_214 ?_
        refine r_iadd C0 215 dX5_packs_215 ?_
        refine m_st C0 216 P rfl rfl hP6 dX5_packs_216 ?_
        refine r_iinc (lv' := [(0, _), (1, _), (2, _), (3, _), (4, _)]) C0 217 _ dX5_packs_217 rfl rfl rfl (by decide) rfl ?_
        refine r_goto C0 220 72 dX5_packs_220 (by decide) ?_
        have h9 := ih hlt
        rw [← nI_1] at h9
        refine m_eq (N := pkI M p P (k + 1)) ?_ (r_drop C0 ?_ h9)
        · refine pk6.trans ?_
          unfold pkI
          rw [eB, eF, eL, eW, eT, if_neg c_127, if_pos c_165]
        · simp [show Int32.ofInt 1 = (1 : Int32) from rfl]
      · refine r_aload_n C0 168 0 dX5_packs_168 rfl rfl ?_
        refine m_getA C0 169 7 (by decide) fl5_28 rfl dX5_packs_169 ?_
        refine r_iload C0 172 dX5_packs_172 rfl ?_
        refine m_ldv C0 174 e (M 7 e) rfl hee he rfl dX5_packs_174 ?_
        refine r_goto C0 175 184 dX5_packs_175 (by decide) ?_
        refine m_st C0 184 P rfl rfl hP6 dX5_packs_184 ?_
        refine r_aload_n C0 185 0 dX5_packs_185 rfl rfl ?_
        refine m_getA C0 186 26 (by decide) fl5_74 rfl dX5_packs_186 ?_
        refine r_iload_n C0 189 2 dX5_packs_189 rfl rfl ?_
        refine r_dup2 C0 190 dX5_packs_190 rfl rfl ?_
        refine m_ldv C0 191 P (trW M p k) rfl rfl hP6 (by simp (decide := true) only [up2_n]; exact pkI_26) dX5_packs_191 ?_
        refine r_aload_n C0 192 0 dX5_packs_192 rfl rfl ?_
        refine m_getA C0 193 2 (by decide) fl5_13 rfl dX5_packs_193 ?_
        refine r_iload C0 196 dX5_packs_196 rfl ?_
        refine m_ldv C0 198 e (M 2 e) rfl hee he rfl dX5_packs_198 ?_
        refine r_iadd C0 199 dX5_packs_199 ?_
        refine m_st C0 200 P rfl rfl hP6 dX5_packs_200 ?_
        refine r_aload_n C0 201 0 dX5_packs_201 rfl rfl ?_
        refine m_getA C0 202 27 (by decide) fl5_77 rfl dX5_packs_202 ?_
        refine r_iload_n C0 205 2 dX5_packs_205 rfl rfl ?_
        refine r_dup2 C0 206 dX5_packs_206 rfl rfl ?_
        refine m_ldv C0 207 P (trT M p k) rfl rfl hP6 (by simp (decide := true) only [up2_n]; exact pkI_27) dX5_packs_207 ?_
        refine r_aload_n C0 208 0 dX5_packs_208 rfl rfl ?_
        refine m_getA C0 209 6 (by decide) fl5_25 rfl dX5_packs_209 ?_
        refine r_iload C0 212 dX5_packs_212 rfl ?_
        refine m_ldv C0 214 e (M 6 e) rfl hee he rfl dX5_packs_214 ?_
        refine r_iadd C0 215 dX5_packs_215 ?_
        refine m_st C0 216 P rfl rfl hP6 dX5_packs_216 ?_
        refine r_iinc (lv' := [(0, _), (1, _), (2, _), (3, _), (4, _)]) C0 217 _ dX5_packs_217 rfl rfl rfl (by decide) rfl ?_
        refine r_goto C0 220 72 dX5_packs_220 (by decide) ?_
        have h9 := ih hlt
        rw [← nI_1] at h9
        refine m_eq (N := pkI M p P (k + 1)) ?_ (r_drop C0 ?_ h9)
        · refine pk6.trans ?_
          unfold pkI
          rw [eB, eF, eL, eW, eT, if_neg c_127, if_neg c_165]
        · simp [show Int32.ofInt 1 = (1 : Int32) from rfl]
end M11
end
section
/-! the model: takes, dries, oneTick, tick -/
theorem s2M_eq (N : Nat → Nat → Int32) : up2 (mvS N 15) 10 0 0 = s2M N := by
  funext g
  by_cases h : g = 10
  · subst h; rfl
  · rw [up2_n h]
    unfold mvS s2M
    rw [if_neg h, if_neg h]
theorem inR_1x {v b : Int32} {n : Nat} (hb : b.toInt = n) (h : ¬ inR v 1 b = 0) : ∃ x : Nat, x ≤ n ∧ v = nI x := by
  have h1 : 1 ≤ v ∧ v ≤ b := Classical.byContradiction (fun q => h (inR_0.mpr q))
  exact nI_of2 hb (Int32.not_lt.mpr (Int32.le_trans (by decide) h1.1)) h1.2

section M12
variable {D : va_G} {ar : Nat → ClassId} {X : XT} {h1 : Nat} {ad : Nat → Nat} {M : Nat → Nat → Int32} {T : Int64}
set_option maxRecDepth 100000 in
theorem k5_takes (hX : Xok X) {E p : Nat} (hE : E ≤ 600) (h : OKM M E) (hp : p < 4)  : Cn D ar X yX5_takes cX5_takes 4 none 1 24 0 0 [.ref h1, .int (nI p)] (mW ar h1 ad M T) (fun r w => r = none ∧ w = mW ar h1 ad (tkM M p) T) := by
  refine Cn.of (own := RX5) hX (by decide) rfl (Nat.le_of_ble_eq_true rfl) (fun j C => ?_)
  have C0 := C.to
  show j _ 0 0 0 [(0, _), (1, _)] []
  obtain ⟨t, ht5, htt, htk⟩ := h.2.2.2.1 p hp
  obtain ⟨P, hP6, hP⟩ := h.2.2.2.2.1
  have hct : (M 19 p).toNatClampNeg = t := by rw [htt]; exact nI_clamp (by omega)
  have hcP : (M 21 0).toNatClampNeg = P := by rw [hP]; exact nI_clamp (by omega)
  have htc : M 19 p = nI (M 19 p).toNatClampNeg := by rw [hct]; exact htt
  refine r_bipush C0 0 8 dX5_takes_0 (by decide) ?_
  refine r_iconst C0 2 2 dX5_takes_2 (by decide) ?_
  refine r_iload_n C0 3 1 dX5_takes_3 rfl rfl ?_
  refine r_imul C0 4 dX5_takes_4 ?_
  refine r_iadd C0 5 dX5_takes_5 ?_
  refine r_istore_n (lv' := [(0, _), (1, _), (2, _)]) C0 6 2 dX5_takes_6 rfl rfl (by decide) rfl ?_
  refine r_aload_n C0 7 0 dX5_takes_7 rfl rfl ?_
  refine m_getA C0 8 10 (by decide) fl5_34 rfl dX5_takes_8 ?_
  refine r_iload_n C0 11 2 dX5_takes_11 rfl rfl ?_
  refine m_ld C0 12 (8 + 2 * p) rfl (nI_add' (a := 8) rfl (nI_mul' (a := 2) rfl rfl)) (show _ < 16 by omega) dX5_takes_12 ?_
  refine r_iconst C0 13 1 dX5_takes_13 (by decide) ?_
  refine r_isub C0 14 dX5_takes_14 ?_
  refine r_istore_n (lv' := [(0, _), (1, _), (2, _), (3, _)]) C0 15 3 dX5_takes_15 rfl rfl (by decide) rfl ?_
  refine r_aload_n C0 16 0 dX5_takes_16 rfl rfl ?_
  refine m_getA C0 17 18 (by decide) fl5_53 rfl dX5_takes_17 ?_
  refine r_iload_n C0 20 1 dX5_takes_20 rfl rfl ?_
  refine m_ld C0 21 p rfl rfl hp dX5_takes_21 ?_
  refine r_if_le C0 22 36 dX5_takes_22 (by decide) (fun c_22 => ?_) (fun c_22 => ?_)
  · refine r_iload_n C0 36 3 dX5_takes_36 rfl rfl ?_
    refine r_if_lt C0 37 86 dX5_takes_37 (by decide) (fun c_37 => ?_) (fun c_37 => ?_)
    · refine r_vret C 86 dX5_takes_86 (Nat.le_refl _) (Nat.le_refl _) ?_
      exact ⟨rfl, by simp only [tkM, eq_true c_22, eq_true c_37]; rfl⟩
    · obtain ⟨heE, hve⟩ := h.egg hE (k := 8 + 2 * p) (by omega) c_37
      rw [hve]
      obtain ⟨b, hb4, hb0⟩ := h.2.2.2.2.2 _ heE
      have hbN : bN M (eN M (8 + 2 * p)) = b := by unfold bN; rw [hb0]; exact nI_clamp (by omega)
      have hb : M 1 (eN M (8 + 2 * p)) = nI (bN M (eN M (8 + 2 * p))) := by rw [hbN]; exact hb0
      refine r_aload_n C0 40 0 dX5_takes_40 rfl rfl ?_
      refine m_getA C0 41 17 (by decide) fl5_49 rfl dX5_takes_41 ?_
      refine r_iload_n C0 44 1 dX5_takes_44 rfl rfl ?_
      refine m_ldz C0 45 p rfl rfl hp dX5_takes_45 ?_
      refine r_if_ne C0 46 86 dX5_takes_46 (by decide) (fun c_46 => ?_) (fun c_46 => ?_)
      · refine r_vret C 86 dX5_takes_86 (Nat.le_refl _) (Nat.le_refl _) ?_
        exact ⟨rfl, by simp only [tkM, eq_true c_22, eq_false c_37, eq_false c_46]; rfl⟩
      · refine r_aload_n C0 49 0 dX5_takes_49 rfl rfl ?_
        refine m_getA C0 50 6 (by decide) fl5_25 rfl dX5_takes_50 ?_
        refine r_iload_n C0 53 3 dX5_takes_53 rfl rfl ?_
        refine m_ld C0 54 (eN M (8 + 2 * p)) rfl rfl (show (eN M (8 + 2 * p)) < 600 by omega) dX5_takes_54 ?_
        refine s_call (As := [.int _]) C0 55 1 (k5_gradeBy hX _ _) (rm5_gradeBy (by decide) (by decide) (Nat.le_refl _) (Nat.le_refl _)) ml5_138 st5_gradeBy rfl (Nat.le_of_ble_eq_true rfl) dX5_takes_55 ?_
        rintro _ _ ⟨rfl, rfl⟩
        refine r_aload_n C0 58 0 dX5_takes_58 rfl rfl ?_
        refine m_getA C0 59 16 (by decide) fl5_46 rfl dX5_takes_59 ?_
        refine r_iload_n C0 62 1 dX5_takes_62 rfl rfl ?_
        refine m_ld C0 63 p rfl rfl hp dX5_takes_63 ?_
        refine r_icmp_ne C0 64 86 dX5_takes_64 (by decide) (fun c_64 => ?_) (fun c_64 => ?_)
        · refine r_vret C 86 dX5_takes_86 (Nat.le_refl _) (Nat.le_refl _) ?_
          exact ⟨rfl, by simp only [tkM, eq_true c_22, eq_false c_37, eq_true c_46, eq_false c_64]; rfl⟩
        · refine r_aload_n C0 67 0 dX5_takes_67 rfl rfl ?_
          refine m_getA C0 68 19 (by decide) fl5_56 rfl dX5_takes_68 ?_
          refine r_iload_n C0 71 1 dX5_takes_71 rfl rfl ?_
          refine m_ld C0 72 p rfl rfl hp dX5_takes_72 ?_
          refine r_iconst C0 73 5 dX5_takes_73 (by decide) ?_
          refine r_icmp_ne C0 74 87 dX5_takes_74 (by decide) (fun c_74 => ?_) (fun c_74 => ?_)
          · refine r_aload_n C0 87 0 dX5_takes_87 rfl rfl ?_
            refine m_getA C0 88 10 (by decide) fl5_34 rfl dX5_takes_88 ?_
            refine r_iload_n C0 91 2 dX5_takes_91 rfl rfl ?_
            refine r_iconst C0 92 0 dX5_takes_92 (by decide) ?_
            refine m_st C0 93 (8 + 2 * p) rfl (nI_add' (a := 8) rfl (nI_mul' (a := 2) rfl rfl)) (show _ < 16 by omega) dX5_takes_93 ?_
            refine r_aload_n C0 94 0 dX5_takes_94 rfl rfl ?_
            refine m_getA C0 95 20 (by decide) fl5_59 rfl dX5_takes_95 ?_
            refine r_bipush C0 98 6 dX5_takes_98 (by decide) ?_
            refine r_iload_n C0 100 1 dX5_takes_100 rfl rfl ?_
            refine r_imul C0 101 dX5_takes_101 ?_
            refine r_aload_n C0 102 0 dX5_takes_102 rfl rfl ?_
            refine m_getA C0 103 19 (by decide) fl5_56 rfl dX5_takes_103 ?_
            refine r_iload_n C0 106 1 dX5_takes_106 rfl rfl ?_
            refine m_ldv C0 107 p (M 19 p) rfl rfl hp rfl dX5_takes_107 ?_
            refine r_iadd C0 108 dX5_takes_108 ?_
            refine r_iload_n C0 109 3 dX5_takes_109 rfl rfl ?_
            refine m_st C0 110 (6 * p + (M 19 p).toNatClampNeg) rfl (nI_add' (nI_mul' (a := 6) rfl rfl) htc) (show _ < 24 by omega) dX5_takes_110 ?_
            refine r_aload_n C0 111 0 dX5_takes_111 rfl rfl ?_
            refine m_getA C0 112 19 (by decide) fl5_56 rfl dX5_takes_112 ?_
            refine r_iload_n C0 115 1 dX5_takes_115 rfl rfl ?_
            refine r_dup2 C0 116 dX5_takes_116 rfl rfl ?_
            refine m_ldv C0 117 p (M 19 p) rfl rfl hp rfl dX5_takes_117 ?_
            refine r_iconst C0 118 1 dX5_takes_118 (by decide) ?_
            refine r_iadd C0 119 dX5_takes_119 ?_
            refine m_st C0 120 p rfl rfl hp dX5_takes_120 ?_
            refine r_aload_n C0 121 0 dX5_takes_121 rfl rfl ?_
            refine m_getA C0 122 18 (by decide) fl5_53 rfl dX5_takes_122 ?_
            refine r_iload_n C0 125 1 dX5_takes_125 rfl rfl ?_
            refine r_iconst C0 126 2 dX5_takes_126 (by decide) ?_
            refine m_st C0 127 p rfl rfl hp dX5_takes_127 ?_
            refine r_aload_n C0 128 0 dX5_takes_128 rfl rfl ?_
            refine m_getA C0 129 15 (by decide) fl5_43 rfl dX5_takes_129 ?_
            refine r_bipush C0 132 12 dX5_takes_132 (by decide) ?_
            refine r_aload_n C0 134 0 dX5_takes_134 rfl rfl ?_
            refine m_getA C0 135 1 (by decide) fl5_7 rfl dX5_takes_135 ?_
            refine r_iload_n C0 138 3 dX5_takes_138 rfl rfl ?_
            refine m_ldv C0 139 (eN M (8 + 2 * p)) (M 1 (eN M (8 + 2 * p))) rfl rfl (show (eN M (8 + 2 * p)) < 600 by omega) rfl dX5_takes_139 ?_
            refine r_iadd C0 140 dX5_takes_140 ?_
            refine r_dup2 C0 141 dX5_takes_141 rfl rfl ?_
            refine m_ld C0 142 (12 + bN M (eN M (8 + 2 * p))) rfl (nI_add' (a := 12) rfl hb) (show _ < 20 by omega) dX5_takes_142 ?_
            refine r_iconst C0 143 1 dX5_takes_143 (by decide) ?_
            refine r_iadd C0 144 dX5_takes_144 ?_
            refine m_st C0 145 (12 + bN M (eN M (8 + 2 * p))) rfl (nI_add' (a := 12) rfl hb) (show _ < 20 by omega) dX5_takes_145 ?_
            refine r_aload_n C0 146 0 dX5_takes_146 rfl rfl ?_
            refine m_getA C0 147 19 (by decide) fl5_56 rfl dX5_takes_147 ?_
            refine r_iload_n C0 150 1 dX5_takes_150 rfl rfl ?_
            refine m_ldv C0 151 p (M 19 p + 1) rfl rfl hp (by simp (decide := true) only [up2_n, up2_s]; exact pk_us) dX5_takes_151 ?_
            refine r_bipush C0 152 6 dX5_takes_152 (by decide) ?_
            refine r_icmp_ne C0 154 162 dX5_takes_154 (by decide) (fun c_154 => ?_) (fun c_154 => ?_)
            · refine r_vret C 162 dX5_takes_162 (Nat.le_refl _) (Nat.le_refl _) ?_
              exact ⟨rfl, by simp only [tkM, tk2, hcP, eq_true c_22, eq_false c_37, eq_true c_46, eq_true c_64, eq_false c_74, eq_false c_154]; rfl⟩
            · have ht5' : t = 5 := by
                rw [htt, nI_1] at c_154
                have := (nI_eq (by omega) (by decide)).mp (show nI (t + 1) = nI 6 from c_154)
                omega
              have hno : P ≠ 60 := absurd (by rw [htt, ht5']; rfl) c_74
              have htt6 : ∀ k, k < 6 → ∃ e : Nat, e < 600 ∧ tk1 M p (eN M (8 + 2 * p)) 20 (6 * p + k) = nI e := fun k hk => by
                show ∃ e : Nat, e < 600 ∧ upd (M 20) (6 * p + (M 19 p).toNatClampNeg) (nI (eN M (8 + 2 * p))) (6 * p + k) = nI e
                rw [hct]
                unfold upd
                by_cases q : 6 * p + k = 6 * p + t
                · rw [if_pos q]; exact ⟨_, by omega, rfl⟩
                · rw [if_neg q]
                  obtain ⟨e, he, hee⟩ := htk k (by omega)
                  exact ⟨e, by omega, hee⟩
              refine r_aload_n C0 157 0 dX5_takes_157 rfl rfl ?_
              refine r_iload_n C0 158 1 dX5_takes_158 rfl rfl ?_
              refine m_call (As := [.int _]) C0 159 1 (k5_packs (M := tk1 M p (eN M (8 + 2 * p))) (P := P) hX hp hP (Nat.lt_of_le_of_ne hP6 hno) htt6) (rm5_packs (by decide) (by decide) (Nat.le_refl _) (Nat.le_refl _)) ml5_141 im5_packs se5_packs rfl (Nat.le_of_ble_eq_true rfl) dX5_takes_159 ?_
              rintro _ _ ⟨rfl, rfl⟩
              refine r_vret C 162 dX5_takes_162 (Nat.le_refl _) (Nat.le_refl _) ?_
              exact ⟨rfl, by simp only [tkM, tk2, hcP, eq_true c_22, eq_false c_37, eq_true c_46, eq_true c_64, eq_false c_74, eq_true c_154]; rfl⟩
          · refine r_aload_n C0 77 0 dX5_takes_77 rfl rfl ?_
            refine m_getI C0 78 21 rfl fl5_135 rfl dX5_takes_78 ?_
            refine r_bipush C0 81 60 dX5_takes_81 (by decide) ?_
            refine r_icmp_ne C0 83 87 dX5_takes_83 (by decide) (fun c_83 => ?_) (fun c_83 => ?_)
            · refine r_aload_n C0 87 0 dX5_takes_87 rfl rfl ?_
              refine m_getA C0 88 10 (by decide) fl5_34 rfl dX5_takes_88 ?_
              refine r_iload_n C0 91 2 dX5_takes_91 rfl rfl ?_
              refine r_iconst C0 92 0 dX5_takes_92 (by decide) ?_
              refine m_st C0 93 (8 + 2 * p) rfl (nI_add' (a := 8) rfl (nI_mul' (a := 2) rfl rfl)) (show _ < 16 by omega) dX5_takes_93 ?_
              refine r_aload_n C0 94 0 dX5_takes_94 rfl rfl ?_
              refine m_getA C0 95 20 (by decide) fl5_59 rfl dX5_takes_95 ?_
              refine r_bipush C0 98 6 dX5_takes_98 (by decide) ?_
              refine r_iload_n C0 100 1 dX5_takes_100 rfl rfl ?_
              refine r_imul C0 101 dX5_takes_101 ?_
              refine r_aload_n C0 102 0 dX5_takes_102 rfl rfl ?_
              refine m_getA C0 103 19 (by decide) fl5_56 rfl dX5_takes_103 ?_
              refine r_iload_n C0 106 1 dX5_takes_106 rfl rfl ?_
              refine m_ldv C0 107 p (M 19 p) rfl rfl hp rfl dX5_takes_107 ?_
              refine r_iadd C0 108 dX5_takes_108 ?_
              refine r_iload_n C0 109 3 dX5_takes_109 rfl rfl ?_
              refine m_st C0 110 (6 * p + (M 19 p).toNatClampNeg) rfl (nI_add' (nI_mul' (a := 6) rfl rfl) htc) (show _ < 24 by omega) dX5_takes_110 ?_
              refine r_aload_n C0 111 0 dX5_takes_111 rfl rfl ?_
              refine m_getA C0 112 19 (by decide) fl5_56 rfl dX5_takes_112 ?_
              refine r_iload_n C0 115 1 dX5_takes_115 rfl rfl ?_
              refine r_dup2 C0 116 dX5_takes_116 rfl rfl ?_
              refine m_ldv C0 117 p (M 19 p) rfl rfl hp rfl dX5_takes_117 ?_
              refine r_iconst C0 118 1 dX5_takes_118 (by decide) ?_
              refine r_iadd C0 119 dX5_takes_119 ?_
              refine m_st C0 120 p rfl rfl hp dX5_takes_120 ?_
              refine r_aload_n C0 121 0 dX5_takes_121 rfl rfl ?_
              refine m_getA C0 122 18 (by decide) fl5_53 rfl dX5_takes_122 ?_
              refine r_iload_n C0 125 1 dX5_takes_125 rfl rfl ?_
              refine r_iconst C0 126 2 dX5_takes_126 (by decide) ?_
              refine m_st C0 127 p rfl rfl hp dX5_takes_127 ?_
              refine r_aload_n C0 128 0 dX5_takes_128 rfl rfl ?_
              refine m_getA C0 129 15 (by decide) fl5_43 rfl dX5_takes_129 ?_
              refine r_bipush C0 132 12 dX5_takes_132 (by decide) ?_
              refine r_aload_n C0 134 0 dX5_takes_134 rfl rfl ?_
              refine m_getA C0 135 1 (by decide) fl5_7 rfl dX5_takes_135 ?_
              refine r_iload_n C0 138 3 dX5_takes_138 rfl rfl ?_
              refine m_ldv C0 139 (eN M (8 + 2 * p)) (M 1 (eN M (8 + 2 * p))) rfl rfl (show (eN M (8 + 2 * p)) < 600 by omega) rfl dX5_takes_139 ?_
              refine r_iadd C0 140 dX5_takes_140 ?_
              refine r_dup2 C0 141 dX5_takes_141 rfl rfl ?_
              refine m_ld C0 142 (12 + bN M (eN M (8 + 2 * p))) rfl (nI_add' (a := 12) rfl hb) (show _ < 20 by omega) dX5_takes_142 ?_
              refine r_iconst C0 143 1 dX5_takes_143 (by decide) ?_
              refine r_iadd C0 144 dX5_takes_144 ?_
              refine m_st C0 145 (12 + bN M (eN M (8 + 2 * p))) rfl (nI_add' (a := 12) rfl hb) (show _ < 20 by omega) dX5_takes_145 ?_
              refine r_aload_n C0 146 0 dX5_takes_146 rfl rfl ?_
              refine m_getA C0 147 19 (by decide) fl5_56 rfl dX5_takes_147 ?_
              refine r_iload_n C0 150 1 dX5_takes_150 rfl rfl ?_
              refine m_ldv C0 151 p (M 19 p + 1) rfl rfl hp (by simp (decide := true) only [up2_n, up2_s]; exact pk_us) dX5_takes_151 ?_
              refine r_bipush C0 152 6 dX5_takes_152 (by decide) ?_
              refine r_icmp_ne C0 154 162 dX5_takes_154 (by decide) (fun c_154 => ?_) (fun c_154 => ?_)
              · refine r_vret C 162 dX5_takes_162 (Nat.le_refl _) (Nat.le_refl _) ?_
                exact ⟨rfl, by simp only [tkM, tk2, hcP, eq_true c_22, eq_false c_37, eq_true c_46, eq_true c_64, eq_true c_74, eq_false c_83, eq_false c_154]; rfl⟩
              · have ht5' : t = 5 := by
                  rw [htt, nI_1] at c_154
                  have := (nI_eq (by omega) (by decide)).mp (show nI (t + 1) = nI 6 from c_154)
                  omega
                have hno : P ≠ 60 := fun q => c_83 (by rw [hP, q]; rfl)
                have htt6 : ∀ k, k < 6 → ∃ e : Nat, e < 600 ∧ tk1 M p (eN M (8 + 2 * p)) 20 (6 * p + k) = nI e := fun k hk => by
                  show ∃ e : Nat, e < 600 ∧ upd (M 20) (6 * p + (M 19 p).toNatClampNeg) (nI (eN M (8 + 2 * p))) (6 * p + k) = nI e
                  rw [hct]
                  unfold upd
                  by_cases q : 6 * p + k = 6 * p + t
                  · rw [if_pos q]; exact ⟨_, by omega, rfl⟩
                  · rw [if_neg q]
                    obtain ⟨e, he, hee⟩ := htk k (by omega)
                    exact ⟨e, by omega, hee⟩
                refine r_aload_n C0 157 0 dX5_takes_157 rfl rfl ?_
                refine r_iload_n C0 158 1 dX5_takes_158 rfl rfl ?_
                refine m_call (As := [.int _]) C0 159 1 (k5_packs (M := tk1 M p (eN M (8 + 2 * p))) (P := P) hX hp hP (Nat.lt_of_le_of_ne hP6 hno) htt6) (rm5_packs (by decide) (by decide) (Nat.le_refl _) (Nat.le_refl _)) ml5_141 im5_packs se5_packs rfl (Nat.le_of_ble_eq_true rfl) dX5_takes_159 ?_
                rintro _ _ ⟨rfl, rfl⟩
                refine r_vret C 162 dX5_takes_162 (Nat.le_refl _) (Nat.le_refl _) ?_
                exact ⟨rfl, by simp only [tkM, tk2, hcP, eq_true c_22, eq_false c_37, eq_true c_46, eq_true c_64, eq_true c_74, eq_false c_83, eq_true c_154]; rfl⟩
            · refine r_vret C 86 dX5_takes_86 (Nat.le_refl _) (Nat.le_refl _) ?_
              exact ⟨rfl, by simp only [tkM, eq_true c_22, eq_false c_37, eq_true c_46, eq_true c_64, eq_true c_74, eq_true c_83]; rfl⟩
  · refine r_aload_n C0 25 0 dX5_takes_25 rfl rfl ?_
    refine m_getA C0 26 18 (by decide) fl5_53 rfl dX5_takes_26 ?_
    refine r_iload_n C0 29 1 dX5_takes_29 rfl rfl ?_
    refine r_dup2 C0 30 dX5_takes_30 rfl rfl ?_
    refine m_ld C0 31 p rfl rfl hp dX5_takes_31 ?_
    refine r_iconst C0 32 1 dX5_takes_32 (by decide) ?_
    refine r_isub C0 33 dX5_takes_33 ?_
    refine m_st C0 34 p rfl rfl hp dX5_takes_34 ?_
    refine r_vret C 35 dX5_takes_35 (Nat.le_refl _) (Nat.le_refl _) ?_
    exact ⟨rfl, by simp only [tkM, eq_false c_22]; rfl⟩
set_option maxRecDepth 100000 in
theorem k5_dries (hX : Xok X) {E : Nat} (hE : E ≤ 600) (h : OKM M E)  : Cn D ar X yX5_dries cX5_dries 2 none 0 0 0 0 [.ref h1] (mW ar h1 ad M T) (fun r w => r = none ∧ w = mW ar h1 ad (drN 30 M) T) := by
  refine Cn.of (own := RX5) hX (by decide) rfl (Nat.le_of_ble_eq_true rfl) (fun j C => ?_)
  have C0 := C.to
  show j _ 0 0 0 [(0, _)] []
  obtain ⟨W, hW30, hW, -⟩ := h.2.2.1
  suffices key : ∀ (n : Nat), n ≤ 30 → ∀ (N : Nat → Nat → Int32), OKM N E → (∃ W : Nat, W ≤ n ∧ N 11 0 = nI W) → drN n N = drN 30 M → j (mW ar h1 ad N T) 0 0 0 [(0, .ref h1)] [] from key 30 (by decide) M h ⟨W, hW30, hW⟩ rfl
  intro n
  induction n with
  | zero =>
    intro hn30 N hN hW9 hd
    obtain ⟨W9, hWn, hW9⟩ := hW9
    refine r_aload_n C0 0 0 dX5_dries_0 rfl rfl ?_
    refine m_getI C0 1 11 rfl fl5_129 rfl dX5_dries_1 ?_
    refine r_if_le C0 4 111 dX5_dries_4 (by decide) (fun c_4 => ?_) (fun c_4 => ?_)
    · refine r_vret C 111 dX5_dries_111 (Nat.le_refl _) (Nat.le_refl _) ?_
      exact ⟨rfl, by rw [← hd]; rfl⟩
    · exact absurd (by rw [hW9, show W9 = 0 by omega]; decide) c_4
  | succ n ih =>
    intro hn30 N hN hW9 hd
    obtain ⟨W9, hWn, hW9⟩ := hW9
    obtain ⟨Q, hQ20, hQ, -⟩ := hN.1
    obtain ⟨W8, hW830, hW8, -⟩ := hN.2.2.1
    have hcQ : (N 8 0).toNatClampNeg = Q := by rw [hQ]; exact nI_clamp (by omega)
    have hQc : N 8 0 = nI (N 8 0).toNatClampNeg := by rw [hcQ]; exact hQ
    have hcW : (N 11 0).toNatClampNeg = W8 := by rw [hW8]; exact nI_clamp (by omega)
    refine r_aload_n C0 0 0 dX5_dries_0 rfl rfl ?_
    refine m_getI C0 1 11 rfl fl5_129 rfl dX5_dries_1 ?_
    refine r_if_le C0 4 111 dX5_dries_4 (by decide) (fun c_4 => ?_) (fun c_4 => ?_)
    · refine r_vret C 111 dX5_dries_111 (Nat.le_refl _) (Nat.le_refl _) ?_
      exact ⟨rfl, by rw [← hd]; simp only [drN, eq_true c_4]; rfl⟩
    · refine r_aload_n C0 7 0 dX5_dries_7 rfl rfl ?_
      refine m_getA C0 8 13 (by decide) fl5_40 rfl dX5_dries_8 ?_
      refine r_iconst C0 11 0 dX5_dries_11 (by decide) ?_
      refine m_ld C0 12 0 rfl rfl (by decide) dX5_dries_12 ?_
      refine r_aload_n C0 13 0 dX5_dries_13 rfl rfl ?_
      refine m_getI C0 14 35 rfl fl5_98 rfl dX5_dries_14 ?_
      refine r_icmp_gt C0 17 111 dX5_dries_17 (by decide) (fun c_17 => ?_) (fun c_17 => ?_)
      · refine r_vret C 111 dX5_dries_111 (Nat.le_refl _) (Nat.le_refl _) ?_
        exact ⟨rfl, by rw [← hd]; simp only [drN, eq_false c_4, eq_true c_17]; rfl⟩
      · refine r_aload_n C0 20 0 dX5_dries_20 rfl rfl ?_
        refine m_getI C0 21 8 rfl fl5_106 rfl dX5_dries_21 ?_
        refine r_bipush C0 24 20 dX5_dries_24 (by decide) ?_
        refine r_icmp_ge C0 26 111 dX5_dries_26 (by decide) (fun c_26 => ?_) (fun c_26 => ?_)
        · refine r_vret C 111 dX5_dries_111 (Nat.le_refl _) (Nat.le_refl _) ?_
          exact ⟨rfl, by rw [← hd]; simp only [drN, eq_false c_4, eq_false c_17, eq_true c_26]; rfl⟩
        · have hQlt : Q < 20 := Nat.lt_of_not_le (fun q => c_26 (by rw [hQ]; exact nI_le (a := 20) q (by omega)))
          refine r_aload_n C0 29 0 dX5_dries_29 rfl rfl ?_
          refine m_getA C0 30 9 (by decide) fl5_31 rfl dX5_dries_30 ?_
          refine r_aload_n C0 33 0 dX5_dries_33 rfl rfl ?_
          refine m_getI C0 34 8 rfl fl5_106 rfl dX5_dries_34 ?_
          refine r_aload_n C0 37 0 dX5_dries_37 rfl rfl ?_
          refine m_getA C0 38 12 (by decide) fl5_37 rfl dX5_dries_38 ?_
          refine r_iconst C0 41 0 dX5_dries_41 (by decide) ?_
          refine m_ld C0 42 0 rfl rfl (by decide) dX5_dries_42 ?_
          refine m_st C0 43 (N 8 0).toNatClampNeg rfl hQc (show (N 8 0).toNatClampNeg < 20 by rw [hcQ]; exact hQlt) dX5_dries_43 ?_
          refine r_aload_n C0 44 0 dX5_dries_44 rfl rfl ?_
          refine r_dup C0 45 dX5_dries_45 rfl ?_
          refine m_getI C0 46 8 rfl fl5_106 rfl dX5_dries_46 ?_
          refine r_iconst C0 49 1 dX5_dries_49 (by decide) ?_
          refine r_iadd C0 50 dX5_dries_50 ?_
          refine m_put C0 51 8 rfl fl5_106 rfl dX5_dries_51 ?_
          refine r_aload_n C0 54 0 dX5_dries_54 rfl rfl ?_
          refine r_dup C0 55 dX5_dries_55 rfl ?_
          refine m_getI C0 56 11 rfl fl5_129 rfl dX5_dries_56 ?_
          refine r_iconst C0 59 1 dX5_dries_59 (by decide) ?_
          refine r_isub C0 60 dX5_dries_60 ?_
          refine m_put C0 61 11 rfl fl5_129 rfl dX5_dries_61 ?_
          refine r_iconst C0 64 0 dX5_dries_64 (by decide) ?_
          refine r_istore_n (lv' := [(0, _), (1, _)]) C0 65 1 dX5_dries_65 rfl rfl (by decide) rfl ?_
          have hW0 : 0 < W8 := Nat.pos_of_ne_zero (fun q => c_4 (by rw [hW8, q]; decide))
          have hWq : ∀ k, drS (drQ N) k 11 0 = nI (W8 - 1) := fun k => by
            show upd (N 11) 0 (N 11 0 - 1) 0 = _
            rw [pk_us]; exact nI_pr hW8 hW0
          refine m_eq (N := drS (drQ N) 0) (by rw [drS_0]; rfl) ?_
          refine loopUp (P := (W8 - 1)) (f := fun k => j (mW ar h1 ad (drS (drQ N) k) T) 0 0 66 [(0, .ref h1), (1, .int (nI k))] []) (fun k hk ih2 => ?_) 0 (Nat.zero_le _)
          refine r_iload_n C0 66 1 dX5_dries_66 rfl rfl ?_
          refine r_aload_n C0 67 0 dX5_dries_67 rfl rfl ?_
          refine m_getI C0 68 11 rfl fl5_129 rfl dX5_dries_68 ?_
          refine r_icmp_ge C0 71 108 dX5_dries_71 (by decide) (fun c_71 => ?_) (fun c_71 => ?_)
          · have hge : W8 - 1 ≤ k := (nI_leI (by omega) (by omega)).mp (by rw [← hWq k]; exact c_71)
            refine r_goto C0 108 0 dX5_dries_108 (by decide) ?_
            have e9 : k = W8 - 1 := by omega
            have hdr : dr1 N = drS (drQ N) k := by unfold dr1; rw [hcW, e9]
            rw [← hdr]
            have hW1 : dr1 N 11 0 = nI (W8 - 1) := by rw [hdr]; exact hWq k
            refine r_drop C0 ?_ (ih (by omega) (dr1 N) (hN.d1 c_4 c_26) ⟨W8 - 1, ?_, hW1⟩ ?_)
            · simp
            · have := (nI_eq (a := W9) (b := W8) (by omega) (by omega)).mp (hW9.symm.trans hW8)
              omega
            · rw [← hd]
              simp only [drN, eq_false c_4, eq_false c_17, eq_false c_26]
              rfl
          · have hlt : k < W8 - 1 := Nat.lt_of_not_le (fun q => c_71 (by rw [hWq k]; exact nI_le q (by omega)))
            refine r_aload_n C0 74 0 dX5_dries_74 rfl rfl ?_
            refine m_getA C0 75 12 (by decide) fl5_37 rfl dX5_dries_75 ?_
            refine r_iload_n C0 78 1 dX5_dries_78 rfl rfl ?_
            refine r_aload_n C0 79 0 dX5_dries_79 rfl rfl ?_
            refine m_getA C0 80 12 (by decide) fl5_37 rfl dX5_dries_80 ?_
            refine r_iload_n C0 83 1 dX5_dries_83 rfl rfl ?_
            refine r_iconst C0 84 1 dX5_dries_84 (by decide) ?_
            refine r_iadd C0 85 dX5_dries_85 ?_
            refine m_ldv C0 86 (k + 1) (drQ N 12 (k + 1)) rfl (nI_1 k) (show k + 1 < 30 by omega) (shf_r _ _) dX5_dries_86 ?_
            refine m_st C0 87 k rfl rfl (show k < 30 by omega) dX5_dries_87 ?_
            refine r_aload_n C0 88 0 dX5_dries_88 rfl rfl ?_
            refine m_getA C0 89 13 (by decide) fl5_40 rfl dX5_dries_89 ?_
            refine r_iload_n C0 92 1 dX5_dries_92 rfl rfl ?_
            refine r_aload_n C0 93 0 dX5_dries_93 rfl rfl ?_
            refine m_getA C0 94 13 (by decide) fl5_40 rfl dX5_dries_94 ?_
            refine r_iload_n C0 97 1 dX5_dries_97 rfl rfl ?_
            refine r_iconst C0 98 1 dX5_dries_98 (by decide) ?_
            refine r_iadd C0 99 dX5_dries_99 ?_
            refine m_ldv C0 100 (k + 1) (drQ N 13 (k + 1)) rfl (nI_1 k) (show k + 1 < 30 by omega) (by simp (decide := true) only [up2_n]; exact shf_r _ _) dX5_dries_100 ?_
            refine m_st C0 101 k rfl rfl (show k < 30 by omega) dX5_dries_101 ?_
            refine r_iinc (lv' := [(0, _), (1, _)]) C0 102 _ dX5_dries_102 rfl rfl rfl (by decide) rfl ?_
            refine r_goto C0 105 66 dX5_dries_105 (by decide) ?_
            have h9 := ih2 hlt
            rw [← nI_1 k] at h9
            refine m_eq (N := drS (drQ N) (k + 1)) (drS_s _ _) ?_
            exact h9
set_option maxRecDepth 100000 in
theorem k5_oneTick (hX : Xok X) {E : Nat} (hE : E ≤ 600) (h : OKM M E)  : Cn D ar X yX5_oneTick cX5_oneTick 4 none 3 63 0 0 [.ref h1] (mW ar h1 ad M T) (fun r w => r = none ∧ w = mW ar h1 ad (otM M) (otT M T)) := by
  refine Cn.of (own := RX5) hX (by decide) rfl (Nat.le_of_ble_eq_true rfl) (fun j C => ?_)
  have C0 := C.to
  have hO3 := (h.tkA.lk hE)
  have h193 : j (mW ar h1 ad (tkB M) (otT M T)) 0 0 193 [(0, .ref h1)] [] := by
    refine r_aload_n C0 193 0 dX5_oneTick_193 rfl rfl ?_
    refine r_dup C0 194 dX5_oneTick_194 rfl ?_
    refine m_getI C0 195 35 rfl fl5_98 rfl dX5_oneTick_195 ?_
    refine r_iconst C0 198 1 dX5_oneTick_198 (by decide) ?_
    refine r_iadd C0 199 dX5_oneTick_199 ?_
    refine m_put C0 200 35 rfl fl5_98 rfl dX5_oneTick_200 ?_
    refine r_vret C 203 dX5_oneTick_203 (Nat.le_refl _) (Nat.le_refl _) ?_
    exact ⟨rfl, rfl⟩
  have h132 : j (mW ar h1 ad (drN 30 (tk4 (lkM (tkA M)) 4)) (otT M T)) 0 0 132 [(0, .ref h1)] [] := by
    have hN : OKM (drN 30 (tk4 (lkM (tkA M)) 4)) E := OKM.dr 30 (hO3.tk4 hE 4 (by decide))
    have htb : fdM (drN 30 (tk4 (lkM (tkA M)) 4)) = tkB M := rfl
    generalize drN 30 (tk4 (lkM (tkA M)) 4) = N at hN htb ⊢
    obtain ⟨Q, hQ20, hQ, -⟩ := hN.1
    have hcQ : (N 8 0).toNatClampNeg = Q := by rw [hQ]; exact nI_clamp (by omega)
    refine r_aload_n C0 132 0 dX5_oneTick_132 rfl rfl ?_
    refine m_getI C0 133 8 rfl fl5_106 rfl dX5_oneTick_133 ?_
    refine r_if_le C0 136 193 dX5_oneTick_136 (by decide) (fun c_136 => ?_) (fun c_136 => ?_)
    · refine m_eq ?_ h193
      rw [← htb]
      unfold fdM
      rw [if_pos c_136]
    · refine r_aload_n C0 139 0 dX5_oneTick_139 rfl rfl ?_
      refine m_getA C0 140 10 (by decide) fl5_34 rfl dX5_oneTick_140 ?_
      refine r_iconst C0 143 0 dX5_oneTick_143 (by decide) ?_
      refine r_aload_n C0 144 0 dX5_oneTick_144 rfl rfl ?_
      refine m_getA C0 145 9 (by decide) fl5_31 rfl dX5_oneTick_145 ?_
      refine r_iconst C0 148 0 dX5_oneTick_148 (by decide) ?_
      refine m_ld C0 149 0 rfl rfl (by decide) dX5_oneTick_149 ?_
      refine r_iconst C0 150 1 dX5_oneTick_150 (by decide) ?_
      refine r_iadd C0 151 dX5_oneTick_151 ?_
      refine m_st C0 152 0 rfl rfl (by decide) dX5_oneTick_152 ?_
      refine r_aload_n C0 153 0 dX5_oneTick_153 rfl rfl ?_
      refine r_dup C0 154 dX5_oneTick_154 rfl ?_
      refine m_getI C0 155 8 rfl fl5_106 rfl dX5_oneTick_155 ?_
      refine r_iconst C0 158 1 dX5_oneTick_158 (by decide) ?_
      refine r_isub C0 159 dX5_oneTick_159 ?_
      refine m_put C0 160 8 rfl fl5_106 rfl dX5_oneTick_160 ?_
      refine r_iconst C0 163 0 dX5_oneTick_163 (by decide) ?_
      refine r_istore_n (lv' := [(0, _), (3, _)]) C0 164 3 dX5_oneTick_164 rfl rfl (by decide) rfl ?_
      have hQ0 : 0 < Q := Nat.pos_of_ne_zero (fun q => c_136 (by rw [hQ, q]; decide))
      have hQq : ∀ k, fdS (up2 (up2 N 10 0 (N 9 0 + 1)) 8 0 (N 8 0 - 1)) k 8 0 = nI (Q - 1) := fun k => by
        show upd (N 8) 0 (N 8 0 - 1) 0 = _
        rw [pk_us]; exact nI_pr hQ hQ0
      refine m_eq (N := fdS (up2 (up2 N 10 0 (N 9 0 + 1)) 8 0 (N 8 0 - 1)) 0) (by rw [fdS_0]; rfl) ?_
      refine loopUp (P := (Q - 1)) (f := fun k => j (mW ar h1 ad (fdS (up2 (up2 N 10 0 (N 9 0 + 1)) 8 0 (N 8 0 - 1)) k) (otT M T)) 0 0 165 [(0, .ref h1), (3, .int (nI k))] []) (fun k hk ih => ?_) 0 (Nat.zero_le _)
      refine r_iload_n C0 165 3 dX5_oneTick_165 rfl rfl ?_
      refine r_aload_n C0 166 0 dX5_oneTick_166 rfl rfl ?_
      refine m_getI C0 167 8 rfl fl5_106 rfl dX5_oneTick_167 ?_
      refine r_icmp_ge C0 170 193 dX5_oneTick_170 (by decide) (fun c_170 => ?_) (fun c_170 => ?_)
      · have hge : Q - 1 ≤ k := (nI_leI (by omega) (by omega)).mp (by rw [← hQq k]; exact c_170)
        have e9 : k = Q - 1 := by omega
        have hfd : fdS (up2 (up2 N 10 0 (N 9 0 + 1)) 8 0 (N 8 0 - 1)) k = tkB M := by
          rw [← htb]
          unfold fdM
          rw [if_neg c_136, hcQ, e9]
        refine m_eq hfd (r_drop C0 ?_ h193)
        simp
      · have hlt : k < Q - 1 := Nat.lt_of_not_le (fun q => c_170 (by rw [hQq k]; exact nI_le q (by omega)))
        refine r_aload_n C0 173 0 dX5_oneTick_173 rfl rfl ?_
        refine m_getA C0 174 9 (by decide) fl5_31 rfl dX5_oneTick_174 ?_
        refine r_iload_n C0 177 3 dX5_oneTick_177 rfl rfl ?_
        refine r_aload_n C0 178 0 dX5_oneTick_178 rfl rfl ?_
        refine m_getA C0 179 9 (by decide) fl5_31 rfl dX5_oneTick_179 ?_
        refine r_iload_n C0 182 3 dX5_oneTick_182 rfl rfl ?_
        refine r_iconst C0 183 1 dX5_oneTick_183 (by decide) ?_
        refine r_iadd C0 184 dX5_oneTick_184 ?_
        refine m_ldv C0 185 (k + 1) ((up2 (up2 N 10 0 (N 9 0 + 1)) 8 0 (N 8 0 - 1)) 9 (k + 1)) rfl (nI_1 k) (show k + 1 < 20 by omega) (shf_r _ _) dX5_oneTick_185 ?_
        refine m_st C0 186 k rfl rfl (show k < 20 by omega) dX5_oneTick_186 ?_
        refine r_iinc (lv' := [(0, _), (3, _)]) C0 187 _ dX5_oneTick_187 rfl rfl rfl (by decide) rfl ?_
        refine r_goto C0 190 165 dX5_oneTick_190 (by decide) ?_
        have h9 := ih hlt
        rw [← nI_1 k] at h9
        refine m_eq (N := fdS (up2 (up2 N 10 0 (N 9 0 + 1)) 8 0 (N 8 0 - 1)) (k + 1)) (fdS_s _ _) ?_
        exact h9
  have h106 : j (mW ar h1 ad (tkA M) T) 0 0 106 [(0, .ref h1)] [] := by
    refine r_aload_n C0 106 0 dX5_oneTick_106 rfl rfl ?_
    refine m_call (As := []) C0 107 0 (k5_looks hX hE h.tkA) (rm5_looks (by decide) (by decide) (Nat.le_refl _) (Nat.le_refl _)) ml5_147 im5_looks se5_looks rfl (Nat.le_of_ble_eq_true rfl) dX5_oneTick_107 ?_
    rintro _ _ ⟨rfl, rfl⟩
    refine r_iconst C0 110 0 dX5_oneTick_110 (by decide) ?_
    refine r_istore_n (lv' := [(0, _), (3, _)]) C0 111 3 dX5_oneTick_111 rfl rfl (by decide) rfl ?_
    refine loopUp (P := 4) (f := fun i => j (mW ar h1 ad (tk4 (lkM (tkA M)) i) (otT M T)) 0 0 112 [(0, .ref h1), (3, .int (nI i))] []) (fun i hi ih => ?_) 0 (Nat.zero_le _)
    refine r_iload_n C0 112 3 dX5_oneTick_112 rfl rfl ?_
    refine r_iconst C0 113 4 dX5_oneTick_113 (by decide) ?_
    refine r_icmp_ge C0 114 128 dX5_oneTick_114 (by decide) (fun c_114 => ?_) (fun c_114 => ?_)
    · have hge : 4 ≤ i := (nI_leI (a := 4) (by omega) (by omega)).mp c_114
      have e9 : i = 4 := by omega
      subst e9
      refine r_aload_n C0 128 0 dX5_oneTick_128 rfl rfl ?_
      refine m_call (As := []) C0 129 0 (k5_dries hX hE (hO3.tk4 hE 4 (by decide))) (rm5_dries (by decide) (by decide) (Nat.le_refl _) (Nat.le_refl _)) ml5_153 im5_dries se5_dries rfl (Nat.le_of_ble_eq_true rfl) dX5_oneTick_129 ?_
      rintro _ _ ⟨rfl, rfl⟩
      refine r_drop C0 ?_ h132
      simp
    · have hlt : i < 4 := Nat.lt_of_not_le (fun q => c_114 (nI_le (a := 4) q (by omega)))
      refine r_aload_n C0 117 0 dX5_oneTick_117 rfl rfl ?_
      refine r_iload_n C0 118 3 dX5_oneTick_118 rfl rfl ?_
      refine m_call (As := [.int _]) C0 119 1 (k5_takes hX hE (hO3.tk4 hE i (by omega)) hlt) (rm5_takes (by decide) (by decide) (Nat.le_refl _) (Nat.le_refl _)) ml5_150 im5_takes se5_takes rfl (Nat.le_of_ble_eq_true rfl) dX5_oneTick_119 ?_
      rintro _ _ ⟨rfl, rfl⟩
      refine r_iinc (lv' := [(0, _), (3, _)]) C0 122 _ dX5_oneTick_122 rfl rfl rfl (by decide) rfl ?_
      refine r_goto C0 125 112 dX5_oneTick_125 (by decide) ?_
      have h9 := ih hlt
      rw [← nI_1 i] at h9
      exact h9
  have h66 : j (mW ar h1 ad (s2M (s1M M)) T) 0 0 66 [(0, .ref h1)] [] := by
    have hN : OKM (s2M (s1M M)) E := h.s1.s2
    have hta : s3M (s2M (s1M M)) = tkA M := rfl
    generalize s2M (s1M M) = N at hN hta ⊢
    refine r_aload_n C0 66 0 dX5_oneTick_66 rfl rfl ?_
    refine m_getA C0 67 10 (by decide) fl5_34 rfl dX5_oneTick_67 ?_
    refine r_iconst C0 70 2 dX5_oneTick_70 (by decide) ?_
    refine m_ld C0 71 2 rfl rfl (by decide) dX5_oneTick_71 ?_
    refine r_iconst C0 72 1 dX5_oneTick_72 (by decide) ?_
    refine r_isub C0 73 dX5_oneTick_73 ?_
    refine r_istore_n (lv' := [(0, _), (2, _)]) C0 74 2 dX5_oneTick_74 rfl rfl (by decide) rfl ?_
    refine r_iload_n C0 75 2 dX5_oneTick_75 rfl rfl ?_
    refine r_if_lt C0 76 106 dX5_oneTick_76 (by decide) (fun c_76 => ?_) (fun c_76 => ?_)
    · refine m_eq ?_ (r_drop C0 ?_ h106)
      · rw [← hta]
        simp only [s3M, eq_true c_76]
        rfl
      · simp
    · obtain ⟨heE, hve⟩ := hN.egg hE (k := 2) (by decide) c_76
      rw [hve]
      refine r_aload_n C0 79 0 dX5_oneTick_79 rfl rfl ?_
      refine m_getA C0 80 6 (by decide) fl5_25 rfl dX5_oneTick_80 ?_
      refine r_iload_n C0 83 2 dX5_oneTick_83 rfl rfl ?_
      refine r_aload_n C0 84 0 dX5_oneTick_84 rfl rfl ?_
      refine m_getA C0 85 2 (by decide) fl5_13 rfl dX5_oneTick_85 ?_
      refine r_iload_n C0 88 2 dX5_oneTick_88 rfl rfl ?_
      refine m_ld C0 89 (eN N 2) rfl rfl (show eN N 2 < 600 by omega) dX5_oneTick_89 ?_
      refine r_aload_n C0 90 0 dX5_oneTick_90 rfl rfl ?_
      refine m_getI C0 91 36 rfl fl5_144 rfl dX5_oneTick_91 ?_
      refine r_iadd C0 94 dX5_oneTick_94 ?_
      refine m_st C0 95 (eN N 2) rfl rfl (show eN N 2 < 600 by omega) dX5_oneTick_95 ?_
      refine r_aload_n C0 96 0 dX5_oneTick_96 rfl rfl ?_
      refine m_getA C0 97 7 (by decide) fl5_28 rfl dX5_oneTick_97 ?_
      refine r_iload_n C0 100 2 dX5_oneTick_100 rfl rfl ?_
      refine r_aload_n C0 101 0 dX5_oneTick_101 rfl rfl ?_
      refine m_getI C0 102 35 rfl fl5_98 rfl dX5_oneTick_102 ?_
      refine m_st C0 105 (eN N 2) rfl rfl (show eN N 2 < 600 by omega) dX5_oneTick_105 ?_
      refine m_eq ?_ (r_drop C0 ?_ h106)
      · rw [← hta]
        simp only [s3M, eq_false c_76]
        rfl
      · simp
  have h35 : j (mW ar h1 ad (mvS (s1M M) 0) T) 0 0 35 [(0, .ref h1), (2, .int (nI 15))] [] := by
    generalize s1M M = N at h66 ⊢
    refine loopUp (P := 15) (f := fun d => j (mW ar h1 ad (mvS N d) T) 0 0 35 [(0, .ref h1), (2, .int (nI (15 - d)))] []) (fun d hd ih => ?_) 0 (Nat.zero_le _)
    refine r_iload_n C0 35 2 dX5_oneTick_35 rfl rfl ?_
    refine r_if_le C0 36 59 dX5_oneTick_36 (by decide) (fun c_36 => ?_) (fun c_36 => ?_)
    · have hd15 : 15 ≤ d := Nat.le_of_not_lt (fun q => (nI_nle (n := 15 - d) (by omega) (by omega)) c_36)
      have e9 : d = 15 := by omega
      subst e9
      refine r_aload_n C0 59 0 dX5_oneTick_59 rfl rfl ?_
      refine m_getA C0 60 10 (by decide) fl5_34 rfl dX5_oneTick_60 ?_
      refine r_iconst C0 63 0 dX5_oneTick_63 (by decide) ?_
      refine r_iconst C0 64 0 dX5_oneTick_64 (by decide) ?_
      refine m_st C0 65 0 rfl rfl (by decide) dX5_oneTick_65 ?_
      refine m_eq (s2M_eq N) (r_drop C0 ?_ h66)
      simp
    · have hlt : d < 15 := Nat.lt_of_not_le (fun q => c_36 (by rw [show 15 - d = 0 by omega]; decide))
      have hd0 : 0 < 15 - d := by omega
      refine r_aload_n C0 39 0 dX5_oneTick_39 rfl rfl ?_
      refine m_getA C0 40 10 (by decide) fl5_34 rfl dX5_oneTick_40 ?_
      refine r_iload_n C0 43 2 dX5_oneTick_43 rfl rfl ?_
      refine r_aload_n C0 44 0 dX5_oneTick_44 rfl rfl ?_
      refine m_getA C0 45 10 (by decide) fl5_34 rfl dX5_oneTick_45 ?_
      refine r_iload_n C0 48 2 dX5_oneTick_48 rfl rfl ?_
      refine r_iconst C0 49 1 dX5_oneTick_49 (by decide) ?_
      refine r_isub C0 50 dX5_oneTick_50 ?_
      refine m_ldv C0 51 (15 - d - 1) (N 10 (15 - d - 1)) rfl (nI_pr rfl hd0) (show _ < 16 by omega) (mvS_r N) dX5_oneTick_51 ?_
      refine m_st C0 52 (15 - d) rfl rfl (show _ < 16 by omega) dX5_oneTick_52 ?_
      refine r_iinc (lv' := [(0, _), (2, _)]) C0 53 _ dX5_oneTick_53 rfl rfl rfl (by decide) rfl ?_
      refine r_goto C0 56 35 dX5_oneTick_56 (by decide) ?_
      have h9 := ih hlt
      refine m_eq (N := mvS N (d + 1)) (mvS_s N hlt) ?_
      rw [show nI (15 - d) + Int32.ofInt (-1) = nI (15 - (d + 1)) by rw [show 15 - (d + 1) = 15 - d - 1 by omega]; exact sb_m1 hd0]
      exact h9
  show j _ 0 0 0 [(0, _)] []
  refine r_aload_n C0 0 0 dX5_oneTick_0 rfl rfl ?_
  refine m_getA C0 1 10 (by decide) fl5_34 rfl dX5_oneTick_1 ?_
  refine r_bipush C0 4 15 dX5_oneTick_4 (by decide) ?_
  refine m_ld C0 6 15 rfl rfl (by decide) dX5_oneTick_6 ?_
  refine r_iconst C0 7 1 dX5_oneTick_7 (by decide) ?_
  refine r_isub C0 8 dX5_oneTick_8 ?_
  refine r_istore_n (lv' := [(0, _), (1, _)]) C0 9 1 dX5_oneTick_9 rfl rfl (by decide) rfl ?_
  refine r_iload_n C0 10 1 dX5_oneTick_10 rfl rfl ?_
  refine r_if_lt C0 11 32 dX5_oneTick_11 (by decide) (fun c_11 => ?_) (fun c_11 => ?_)
  · refine r_bipush C0 32 15 dX5_oneTick_32 (by decide) ?_
    refine r_istore_n (lv' := [(0, _), (1, _), (2, _)]) C0 34 2 dX5_oneTick_34 rfl rfl (by decide) rfl ?_
    refine m_eq ?_ (r_drop C0 ?_ h35)
    · rw [mvS_0]
      simp only [s1M, eq_true c_11]
      rfl
    · simp [show (15 : Int32) = nI 15 from rfl]
  · obtain ⟨heE, hve⟩ := h.egg hE (k := 15) (by decide) c_11
    rw [hve]
    obtain ⟨b, hb4, hb0⟩ := h.2.2.2.2.2 _ heE
    have hbN : bN M (eN M 15) = b := by unfold bN; rw [hb0]; exact nI_clamp (by omega)
    have hb : M 1 (eN M 15) = nI (bN M (eN M 15)) := by rw [hbN]; exact hb0
    refine r_aload_n C0 14 0 dX5_oneTick_14 rfl rfl ?_
    refine m_getA C0 15 15 (by decide) fl5_43 rfl dX5_oneTick_15 ?_
    refine r_bipush C0 18 8 dX5_oneTick_18 (by decide) ?_
    refine r_aload_n C0 20 0 dX5_oneTick_20 rfl rfl ?_
    refine m_getA C0 21 1 (by decide) fl5_7 rfl dX5_oneTick_21 ?_
    refine r_iload_n C0 24 1 dX5_oneTick_24 rfl rfl ?_
    refine m_ld C0 25 (eN M 15) rfl rfl (show eN M 15 < 600 by omega) dX5_oneTick_25 ?_
    refine r_iadd C0 26 dX5_oneTick_26 ?_
    refine r_dup2 C0 27 dX5_oneTick_27 rfl rfl ?_
    refine m_ld C0 28 (8 + bN M (eN M 15)) rfl (nI_add' (a := 8) rfl hb) (show _ < 20 by omega) dX5_oneTick_28 ?_
    refine r_iconst C0 29 1 dX5_oneTick_29 (by decide) ?_
    refine r_iadd C0 30 dX5_oneTick_30 ?_
    refine m_st C0 31 (8 + bN M (eN M 15)) rfl (nI_add' (a := 8) rfl hb) (show _ < 20 by omega) dX5_oneTick_31 ?_
    refine r_bipush C0 32 15 dX5_oneTick_32 (by decide) ?_
    refine r_istore_n (lv' := [(0, _), (1, _), (2, _)]) C0 34 2 dX5_oneTick_34 rfl rfl (by decide) rfl ?_
    refine m_eq ?_ (r_drop C0 ?_ h35)
    · rw [mvS_0]
      simp only [s1M, eq_false c_11]
      rfl
    · simp [show (15 : Int32) = nI 15 from rfl]
set_option maxRecDepth 100000 in
theorem k5_tick (hX : Xok X) {E : Nat} (hE : E ≤ 600) (h : OKM M E) (n : Int32)  : Cn D ar X yX5_tick cX5_tick 3 (some .int) 4 86 0 0 [.ref h1, .int n] (mW ar h1 ad M T) (fun r w => r = some (.int (tikA M T n)) ∧ w = mW ar h1 ad (tikM M T n).1 (tikM M T n).2) := by
  refine Cn.of (own := RX5) hX (by decide) rfl (Nat.le_of_ble_eq_true rfl) (fun j C => ?_)
  have C0 := C.to
  show j _ 0 0 0 [(0, _), (1, _)] []
  refine r_iload_n C0 0 1 dX5_tick_0 rfl rfl ?_
  refine r_iconst C0 1 1 dX5_tick_1 (by decide) ?_
  refine r_bipush C0 2 40 dX5_tick_2 (by decide) ?_
  refine s_call (As := [.int _, .int _, .int _]) C0 4 3 (k5_in hX _ _ _ _) (rm5_in (by decide) (by decide) (Nat.le_refl _) (Nat.le_refl _)) ml5_102 st5_in rfl (Nat.le_of_ble_eq_true rfl) dX5_tick_4 ?_
  rintro _ _ ⟨rfl, rfl⟩
  refine r_if_ne C0 7 12 dX5_tick_7 (by decide) (fun c_7 => ?_) (fun c_7 => ?_)
  · obtain ⟨x, hx, rfl⟩ := inR_1x (n := 40) rfl c_7
    have hcl : (nI x).toNatClampNeg = x := nI_clamp (by omega)
    refine r_iconst C0 12 0 dX5_tick_12 (by decide) ?_
    refine r_istore_n (lv' := [(0, _), (1, _), (2, _)]) C0 13 2 dX5_tick_13 rfl rfl (by decide) rfl ?_
    refine loopUp (P := x) (f := fun i => j (mW ar h1 ad (tikN M T i).1 (tikN M T i).2) 0 0 14 [(0, .ref h1), (1, .int (nI x)), (2, .int (nI i))] []) (fun i hi ih => ?_) 0 (Nat.zero_le _)
    refine r_iload_n C0 14 2 dX5_tick_14 rfl rfl ?_
    refine r_iload_n C0 15 1 dX5_tick_15 rfl rfl ?_
    refine r_icmp_ge C0 16 29 dX5_tick_16 (by decide) (fun c_16 => ?_) (fun c_16 => ?_)
    · have hge : x ≤ i := (nI_leI (by omega) (by omega)).mp c_16
      have e9 : i = x := by omega
      refine r_aload_n C0 29 0 dX5_tick_29 rfl rfl ?_
      refine m_getI C0 30 35 rfl fl5_98 rfl dX5_tick_30 ?_
      refine r_iret C 33 dX5_tick_33 (Nat.le_refl _) (Nat.le_refl _) ?_
      rw [e9]
      exact ⟨by simp only [tikA, hcl, eq_false c_7]; rfl, by simp only [tikM, hcl, eq_false c_7]; rfl⟩
    · have hlt : i < x := Nat.lt_of_not_le (fun q => c_16 (nI_le q (by omega)))
      refine r_aload_n C0 19 0 dX5_tick_19 rfl rfl ?_
      refine m_call (As := []) C0 20 0 (k5_oneTick hX hE (tikN_ok h hE i)) (rm5_oneTick (by decide) (by decide) (Nat.le_refl _) (Nat.le_refl _)) ml5_156 im5_oneTick se5_oneTick rfl (Nat.le_of_ble_eq_true rfl) dX5_tick_20 ?_
      rintro _ _ ⟨rfl, rfl⟩
      refine r_iinc (lv' := [(0, _), (1, _), (2, _)]) C0 23 _ dX5_tick_23 rfl rfl rfl (by decide) rfl ?_
      refine r_goto C0 26 14 dX5_tick_26 (by decide) ?_
      have h9 := ih hlt
      rw [← nI_1 i] at h9
      exact h9
  · refine r_iconst C0 10 (-1) dX5_tick_10 (by decide) ?_
    refine r_iret C 11 dX5_tick_11 (Nat.le_refl _) (Nat.le_refl _) ?_
    exact ⟨by simp only [tikA, eq_true c_7]; rfl, by simp only [tikM, eq_true c_7]; rfl⟩
end M12
end
section
/-! the printed decode rows of EggHouse and of the library methods that it reaches -/
theorem dX0_init_0 : decode cX0_init 0 = .ok (.aload_n 0, 1) := by decide +kernel
theorem dX0_init_1 : decode cX0_init 1 = .ok (.invokespecial 1, 3) := by decide +kernel
theorem dX0_init_4 : decode cX0_init 4 = .ok (.aload_n 0, 1) := by decide +kernel
theorem dX0_init_5 : decode cX0_init 5 = .ok (.iload_n 1, 1) := by decide +kernel
theorem dX0_init_6 : decode cX0_init 6 = .ok (.putfield 7, 3) := by decide +kernel
theorem dX0_init_9 : decode cX0_init 9 = .ok (.aload_n 0, 1) := by decide +kernel
theorem dX0_init_10 : decode cX0_init 10 = .ok (.iload_n 2, 1) := by decide +kernel
theorem dX0_init_11 : decode cX0_init 11 = .ok (.putfield 13, 3) := by decide +kernel
theorem dX0_init_14 : decode cX0_init 14 = .ok (.aload_n 0, 1) := by decide +kernel
theorem dX0_init_15 : decode cX0_init 15 = .ok (.iload_n 3, 1) := by decide +kernel
theorem dX0_init_16 : decode cX0_init 16 = .ok (.putfield 16, 3) := by decide +kernel
theorem dX0_init_19 : decode cX0_init 19 = .ok (.aload_n 0, 1) := by decide +kernel
theorem dX0_init_20 : decode cX0_init 20 = .ok (.iload 4, 2) := by decide +kernel
theorem dX0_init_22 : decode cX0_init 22 = .ok (.putfield 19, 3) := by decide +kernel
theorem dX0_init_25 : decode cX0_init 25 = .ok (.aload_n 0, 1) := by decide +kernel
theorem dX0_init_26 : decode cX0_init 26 = .ok (.iload 5, 2) := by decide +kernel
theorem dX0_init_28 : decode cX0_init 28 = .ok (.putfield 22, 3) := by decide +kernel
theorem dX0_init_31 : decode cX0_init 31 = .ok (.aload_n 0, 1) := by decide +kernel
theorem dX0_init_32 : decode cX0_init 32 = .ok (.iload 6, 2) := by decide +kernel
theorem dX0_init_34 : decode cX0_init 34 = .ok (.putfield 25, 3) := by decide +kernel
theorem dX0_init_37 : decode cX0_init 37 = .ok (.return_, 1) := by decide +kernel
theorem dX1_init_0 : decode cX1_init 0 = .ok (.aload_n 0, 1) := by decide +kernel
theorem dX1_init_1 : decode cX1_init 1 = .ok (.invokespecial 1, 3) := by decide +kernel
theorem dX1_init_4 : decode cX1_init 4 = .ok (.aload_n 0, 1) := by decide +kernel
theorem dX1_init_5 : decode cX1_init 5 = .ok (.iload_n 1, 1) := by decide +kernel
theorem dX1_init_6 : decode cX1_init 6 = .ok (.putfield 7, 3) := by decide +kernel
theorem dX1_init_9 : decode cX1_init 9 = .ok (.aload_n 0, 1) := by decide +kernel
theorem dX1_init_10 : decode cX1_init 10 = .ok (.iload_n 2, 1) := by decide +kernel
theorem dX1_init_11 : decode cX1_init 11 = .ok (.putfield 13, 3) := by decide +kernel
theorem dX1_init_14 : decode cX1_init 14 = .ok (.aload_n 0, 1) := by decide +kernel
theorem dX1_init_15 : decode cX1_init 15 = .ok (.iload_n 3, 1) := by decide +kernel
theorem dX1_init_16 : decode cX1_init 16 = .ok (.putfield 16, 3) := by decide +kernel
theorem dX1_init_19 : decode cX1_init 19 = .ok (.return_, 1) := by decide +kernel
theorem dX2_init_0 : decode cX2_init 0 = .ok (.aload_n 0, 1) := by decide +kernel
theorem dX2_init_1 : decode cX2_init 1 = .ok (.invokespecial 3, 3) := by decide +kernel
theorem dX2_init_4 : decode cX2_init 4 = .ok (.aload_n 0, 1) := by decide +kernel
theorem dX2_init_5 : decode cX2_init 5 = .ok (.bipush (-9), 2) := by decide +kernel
theorem dX2_init_7 : decode cX2_init 7 = .ok (.putfield 9, 3) := by decide +kernel
theorem dX2_init_10 : decode cX2_init 10 = .ok (.return_, 1) := by decide +kernel
theorem dX2_lay_0 : decode cX2_lay 0 = .ok (.aload_n 0, 1) := by decide +kernel
theorem dX2_lay_1 : decode cX2_lay 1 = .ok (.aload_n 0, 1) := by decide +kernel
theorem dX2_lay_2 : decode cX2_lay 2 = .ok (.getfield 15, 3) := by decide +kernel
theorem dX2_lay_5 : decode cX2_lay 5 = .ok (.ifCond .ne 10, 3) := by decide +kernel
theorem dX2_lay_8 : decode cX2_lay 8 = .ok (.aload_n 1, 1) := by decide +kernel
theorem dX2_lay_9 : decode cX2_lay 9 = .ok (.getfield 18, 3) := by decide +kernel
theorem dX2_lay_12 : decode cX2_lay 12 = .ok (.goto 14, 3) := by decide +kernel
theorem dX2_lay_15 : decode cX2_lay 15 = .ok (.aload_n 0, 1) := by decide +kernel
theorem dX2_lay_16 : decode cX2_lay 16 = .ok (.getfield 23, 3) := by decide +kernel
theorem dX2_lay_19 : decode cX2_lay 19 = .ok (.aload_n 1, 1) := by decide +kernel
theorem dX2_lay_20 : decode cX2_lay 20 = .ok (.getfield 18, 3) := by decide +kernel
theorem dX2_lay_23 : decode cX2_lay 23 = .ok (.invokestatic 26, 3) := by decide +kernel
theorem dX2_lay_26 : decode cX2_lay 26 = .ok (.putfield 23, 3) := by decide +kernel
theorem dX2_lay_29 : decode cX2_lay 29 = .ok (.aload_n 0, 1) := by decide +kernel
theorem dX2_lay_30 : decode cX2_lay 30 = .ok (.aload_n 0, 1) := by decide +kernel
theorem dX2_lay_31 : decode cX2_lay 31 = .ok (.getfield 32, 3) := by decide +kernel
theorem dX2_lay_34 : decode cX2_lay 34 = .ok (.aload_n 1, 1) := by decide +kernel
theorem dX2_lay_35 : decode cX2_lay 35 = .ok (.getfield 18, 3) := by decide +kernel
theorem dX2_lay_38 : decode cX2_lay 38 = .ok (.invokestatic 35, 3) := by decide +kernel
theorem dX2_lay_41 : decode cX2_lay 41 = .ok (.putfield 32, 3) := by decide +kernel
theorem dX2_lay_44 : decode cX2_lay 44 = .ok (.aload_n 0, 1) := by decide +kernel
theorem dX2_lay_45 : decode cX2_lay 45 = .ok (.dup, 1) := by decide +kernel
theorem dX2_lay_46 : decode cX2_lay 46 = .ok (.getfield 15, 3) := by decide +kernel
theorem dX2_lay_49 : decode cX2_lay 49 = .ok (.iconst 1, 1) := by decide +kernel
theorem dX2_lay_50 : decode cX2_lay 50 = .ok (.iadd, 1) := by decide +kernel
theorem dX2_lay_51 : decode cX2_lay 51 = .ok (.putfield 15, 3) := by decide +kernel
theorem dX2_lay_54 : decode cX2_lay 54 = .ok (.aload_n 0, 1) := by decide +kernel
theorem dX2_lay_55 : decode cX2_lay 55 = .ok (.dup, 1) := by decide +kernel
theorem dX2_lay_56 : decode cX2_lay 56 = .ok (.getfield 38, 3) := by decide +kernel
theorem dX2_lay_59 : decode cX2_lay 59 = .ok (.iconst 1, 1) := by decide +kernel
theorem dX2_lay_60 : decode cX2_lay 60 = .ok (.aload_n 1, 1) := by decide +kernel
theorem dX2_lay_61 : decode cX2_lay 61 = .ok (.getfield 41, 3) := by decide +kernel
theorem dX2_lay_64 : decode cX2_lay 64 = .ok (.ishl, 1) := by decide +kernel
theorem dX2_lay_65 : decode cX2_lay 65 = .ok (.ior, 1) := by decide +kernel
theorem dX2_lay_66 : decode cX2_lay 66 = .ok (.putfield 38, 3) := by decide +kernel
theorem dX2_lay_69 : decode cX2_lay 69 = .ok (.aload_n 0, 1) := by decide +kernel
theorem dX2_lay_70 : decode cX2_lay 70 = .ok (.dup, 1) := by decide +kernel
theorem dX2_lay_71 : decode cX2_lay 71 = .ok (.getfield 44, 3) := by decide +kernel
theorem dX2_lay_74 : decode cX2_lay 74 = .ok (.aload_n 1, 1) := by decide +kernel
theorem dX2_lay_75 : decode cX2_lay 75 = .ok (.getfield 47, 3) := by decide +kernel
theorem dX2_lay_78 : decode cX2_lay 78 = .ok (.iadd, 1) := by decide +kernel
theorem dX2_lay_79 : decode cX2_lay 79 = .ok (.putfield 44, 3) := by decide +kernel
theorem dX2_lay_82 : decode cX2_lay 82 = .ok (.aload_n 0, 1) := by decide +kernel
theorem dX2_lay_83 : decode cX2_lay 83 = .ok (.dup, 1) := by decide +kernel
theorem dX2_lay_84 : decode cX2_lay 84 = .ok (.getfield 50, 3) := by decide +kernel
theorem dX2_lay_87 : decode cX2_lay 87 = .ok (.aload_n 1, 1) := by decide +kernel
theorem dX2_lay_88 : decode cX2_lay 88 = .ok (.getfield 53, 3) := by decide +kernel
theorem dX2_lay_91 : decode cX2_lay 91 = .ok (.iadd, 1) := by decide +kernel
theorem dX2_lay_92 : decode cX2_lay 92 = .ok (.putfield 50, 3) := by decide +kernel
theorem dX2_lay_95 : decode cX2_lay 95 = .ok (.return_, 1) := by decide +kernel
theorem dX2_isFreeOf_0 : decode cX2_isFreeOf 0 = .ok (.aload_n 0, 1) := by decide +kernel
theorem dX2_isFreeOf_1 : decode cX2_isFreeOf 1 = .ok (.getfield 56, 3) := by decide +kernel
theorem dX2_isFreeOf_4 : decode cX2_isFreeOf 4 = .ok (.iload_n 1, 1) := by decide +kernel
theorem dX2_isFreeOf_5 : decode cX2_isFreeOf 5 = .ok (.if_icmp .ne 23, 3) := by decide +kernel
theorem dX2_isFreeOf_8 : decode cX2_isFreeOf 8 = .ok (.aload_n 0, 1) := by decide +kernel
theorem dX2_isFreeOf_9 : decode cX2_isFreeOf 9 = .ok (.getfield 9, 3) := by decide +kernel
theorem dX2_isFreeOf_12 : decode cX2_isFreeOf 12 = .ok (.bipush (-9), 2) := by decide +kernel
theorem dX2_isFreeOf_14 : decode cX2_isFreeOf 14 = .ok (.if_icmp .ne 14, 3) := by decide +kernel
theorem dX2_isFreeOf_17 : decode cX2_isFreeOf 17 = .ok (.aload_n 0, 1) := by decide +kernel
theorem dX2_isFreeOf_18 : decode cX2_isFreeOf 18 = .ok (.getfield 59, 3) := by decide +kernel
theorem dX2_isFreeOf_21 : decode cX2_isFreeOf 21 = .ok (.ifCond .ne 7, 3) := by decide +kernel
theorem dX2_isFreeOf_24 : decode cX2_isFreeOf 24 = .ok (.iconst 1, 1) := by decide +kernel
theorem dX2_isFreeOf_25 : decode cX2_isFreeOf 25 = .ok (.goto 4, 3) := by decide +kernel
theorem dX2_isFreeOf_28 : decode cX2_isFreeOf 28 = .ok (.iconst 0, 1) := by decide +kernel
theorem dX2_isFreeOf_29 : decode cX2_isFreeOf 29 = .ok (.ireturn, 1) := by decide +kernel
theorem dX2_holdIf_0 : decode cX2_holdIf 0 = .ok (.iload_n 1, 1) := by decide +kernel
theorem dX2_holdIf_1 : decode cX2_holdIf 1 = .ok (.ifCond .eq 17, 3) := by decide +kernel
theorem dX2_holdIf_4 : decode cX2_holdIf 4 = .ok (.aload_n 0, 1) := by decide +kernel
theorem dX2_holdIf_5 : decode cX2_holdIf 5 = .ok (.getfield 9, 3) := by decide +kernel
theorem dX2_holdIf_8 : decode cX2_holdIf 8 = .ok (.bipush (-9), 2) := by decide +kernel
theorem dX2_holdIf_10 : decode cX2_holdIf 10 = .ok (.if_icmp .ne 8, 3) := by decide +kernel
theorem dX2_holdIf_13 : decode cX2_holdIf 13 = .ok (.aload_n 0, 1) := by decide +kernel
theorem dX2_holdIf_14 : decode cX2_holdIf 14 = .ok (.iconst 1, 1) := by decide +kernel
theorem dX2_holdIf_15 : decode cX2_holdIf 15 = .ok (.putfield 59, 3) := by decide +kernel
theorem dX2_holdIf_18 : decode cX2_holdIf 18 = .ok (.return_, 1) := by decide +kernel
theorem dX3_init_0 : decode cX3_init 0 = .ok (.aload_n 0, 1) := by decide +kernel
theorem dX3_init_1 : decode cX3_init 1 = .ok (.invokespecial 1, 3) := by decide +kernel
theorem dX3_init_4 : decode cX3_init 4 = .ok (.aload_n 0, 1) := by decide +kernel
theorem dX3_init_5 : decode cX3_init 5 = .ok (.iconst 1, 1) := by decide +kernel
theorem dX3_init_6 : decode cX3_init 6 = .ok (.putfield 7, 3) := by decide +kernel
theorem dX3_init_9 : decode cX3_init 9 = .ok (.aload_n 0, 1) := by decide +kernel
theorem dX3_init_10 : decode cX3_init 10 = .ok (.new 13, 3) := by decide +kernel
theorem dX3_init_13 : decode cX3_init 13 = .ok (.dup, 1) := by decide +kernel
theorem dX3_init_14 : decode cX3_init 14 = .ok (.invokespecial 15, 3) := by decide +kernel
theorem dX3_init_17 : decode cX3_init 17 = .ok (.putfield 16, 3) := by decide +kernel
theorem dX3_init_20 : decode cX3_init 20 = .ok (.aload_n 0, 1) := by decide +kernel
theorem dX3_init_21 : decode cX3_init 21 = .ok (.iload_n 1, 1) := by decide +kernel
theorem dX3_init_22 : decode cX3_init 22 = .ok (.putfield 20, 3) := by decide +kernel
theorem dX3_init_25 : decode cX3_init 25 = .ok (.aload_n 0, 1) := by decide +kernel
theorem dX3_init_26 : decode cX3_init 26 = .ok (.iload_n 2, 1) := by decide +kernel
theorem dX3_init_27 : decode cX3_init 27 = .ok (.putfield 24, 3) := by decide +kernel
theorem dX3_init_30 : decode cX3_init 30 = .ok (.return_, 1) := by decide +kernel
theorem dX4_init_0 : decode cX4_init 0 = .ok (.aload_n 0, 1) := by decide +kernel
theorem dX4_init_1 : decode cX4_init 1 = .ok (.invokespecial 1, 3) := by decide +kernel
theorem dX4_init_4 : decode cX4_init 4 = .ok (.aload_n 0, 1) := by decide +kernel
theorem dX4_init_5 : decode cX4_init 5 = .ok (.new 7, 3) := by decide +kernel
theorem dX4_init_8 : decode cX4_init 8 = .ok (.dup, 1) := by decide +kernel
theorem dX4_init_9 : decode cX4_init 9 = .ok (.invokespecial 9, 3) := by decide +kernel
theorem dX4_init_12 : decode cX4_init 12 = .ok (.putfield 10, 3) := by decide +kernel
theorem dX4_init_15 : decode cX4_init 15 = .ok (.aload_n 0, 1) := by decide +kernel
theorem dX4_init_16 : decode cX4_init 16 = .ok (.new 7, 3) := by decide +kernel
theorem dX4_init_19 : decode cX4_init 19 = .ok (.dup, 1) := by decide +kernel
theorem dX4_init_20 : decode cX4_init 20 = .ok (.invokespecial 9, 3) := by decide +kernel
theorem dX4_init_23 : decode cX4_init 23 = .ok (.putfield 16, 3) := by decide +kernel
theorem dX4_init_26 : decode cX4_init 26 = .ok (.aload_n 0, 1) := by decide +kernel
theorem dX4_init_27 : decode cX4_init 27 = .ok (.bipush 16, 2) := by decide +kernel
theorem dX4_init_29 : decode cX4_init 29 = .ok (.anewarray 19, 3) := by decide +kernel
theorem dX4_init_32 : decode cX4_init 32 = .ok (.putfield 21, 3) := by decide +kernel
theorem dX4_init_35 : decode cX4_init 35 = .ok (.aload_n 0, 1) := by decide +kernel
theorem dX4_init_36 : decode cX4_init 36 = .ok (.iconst 4, 1) := by decide +kernel
theorem dX4_init_37 : decode cX4_init 37 = .ok (.anewarray 25, 3) := by decide +kernel
theorem dX4_init_40 : decode cX4_init 40 = .ok (.putfield 27, 3) := by decide +kernel
theorem dX4_init_43 : decode cX4_init 43 = .ok (.aload_n 0, 1) := by decide +kernel
theorem dX4_init_44 : decode cX4_init 44 = .ok (.new 7, 3) := by decide +kernel
theorem dX4_init_47 : decode cX4_init 47 = .ok (.dup, 1) := by decide +kernel
theorem dX4_init_48 : decode cX4_init 48 = .ok (.invokespecial 9, 3) := by decide +kernel
theorem dX4_init_51 : decode cX4_init 51 = .ok (.putfield 31, 3) := by decide +kernel
theorem dX4_init_54 : decode cX4_init 54 = .ok (.aload_n 0, 1) := by decide +kernel
theorem dX4_init_55 : decode cX4_init 55 = .ok (.new 7, 3) := by decide +kernel
theorem dX4_init_58 : decode cX4_init 58 = .ok (.dup, 1) := by decide +kernel
theorem dX4_init_59 : decode cX4_init 59 = .ok (.invokespecial 9, 3) := by decide +kernel
theorem dX4_init_62 : decode cX4_init 62 = .ok (.putfield 34, 3) := by decide +kernel
theorem dX4_init_65 : decode cX4_init 65 = .ok (.aload_n 0, 1) := by decide +kernel
theorem dX4_init_66 : decode cX4_init 66 = .ok (.iconst 4, 1) := by decide +kernel
theorem dX4_init_67 : decode cX4_init 67 = .ok (.iconst 5, 1) := by decide +kernel
theorem dX4_init_68 : decode cX4_init 68 = .ok (.multianewarray 37 2, 4) := by decide +kernel
theorem dX4_init_72 : decode cX4_init 72 = .ok (.putfield 39, 3) := by decide +kernel
theorem dX4_init_75 : decode cX4_init 75 = .ok (.iconst 0, 1) := by decide +kernel
theorem dX4_init_76 : decode cX4_init 76 = .ok (.istore_n 1, 1) := by decide +kernel
theorem dX4_init_77 : decode cX4_init 77 = .ok (.iload_n 1, 1) := by decide +kernel
theorem dX4_init_78 : decode cX4_init 78 = .ok (.iconst 4, 1) := by decide +kernel
theorem dX4_init_79 : decode cX4_init 79 = .ok (.if_icmp .ge 31, 3) := by decide +kernel
theorem dX4_init_82 : decode cX4_init 82 = .ok (.aload_n 0, 1) := by decide +kernel
theorem dX4_init_83 : decode cX4_init 83 = .ok (.getfield 27, 3) := by decide +kernel
theorem dX4_init_86 : decode cX4_init 86 = .ok (.iload_n 1, 1) := by decide +kernel
theorem dX4_init_87 : decode cX4_init 87 = .ok (.new 25, 3) := by decide +kernel
theorem dX4_init_90 : decode cX4_init 90 = .ok (.dup, 1) := by decide +kernel
theorem dX4_init_91 : decode cX4_init 91 = .ok (.bipush 8, 2) := by decide +kernel
theorem dX4_init_93 : decode cX4_init 93 = .ok (.iload_n 1, 1) := by decide +kernel
theorem dX4_init_94 : decode cX4_init 94 = .ok (.iconst 2, 1) := by decide +kernel
theorem dX4_init_95 : decode cX4_init 95 = .ok (.imul, 1) := by decide +kernel
theorem dX4_init_96 : decode cX4_init 96 = .ok (.iadd, 1) := by decide +kernel
theorem dX4_init_97 : decode cX4_init 97 = .ok (.iconst 2, 1) := by decide +kernel
theorem dX4_init_98 : decode cX4_init 98 = .ok (.iload_n 1, 1) := by decide +kernel
theorem dX4_init_99 : decode cX4_init 99 = .ok (.iadd, 1) := by decide +kernel
theorem dX4_init_100 : decode cX4_init 100 = .ok (.invokespecial 42, 3) := by decide +kernel
theorem dX4_init_103 : decode cX4_init 103 = .ok (.aastore, 1) := by decide +kernel
theorem dX4_init_104 : decode cX4_init 104 = .ok (.iinc 1 1, 3) := by decide +kernel
theorem dX4_init_107 : decode cX4_init 107 = .ok (.goto (-30), 3) := by decide +kernel
theorem dX4_init_110 : decode cX4_init 110 = .ok (.return_, 1) := by decide +kernel
theorem dX4_egg_0 : decode cX4_egg 0 = .ok (.iload_n 1, 1) := by decide +kernel
theorem dX4_egg_1 : decode cX4_egg 1 = .ok (.invokestatic 45, 3) := by decide +kernel
theorem dX4_egg_4 : decode cX4_egg 4 = .ok (.ifCond .eq 24, 3) := by decide +kernel
theorem dX4_egg_7 : decode cX4_egg 7 = .ok (.iload_n 2, 1) := by decide +kernel
theorem dX4_egg_8 : decode cX4_egg 8 = .ok (.bipush 30, 2) := by decide +kernel
theorem dX4_egg_10 : decode cX4_egg 10 = .ok (.bipush 90, 2) := by decide +kernel
theorem dX4_egg_12 : decode cX4_egg 12 = .ok (.invokestatic 49, 3) := by decide +kernel
theorem dX4_egg_15 : decode cX4_egg 15 = .ok (.ifCond .eq 13, 3) := by decide +kernel
theorem dX4_egg_18 : decode cX4_egg 18 = .ok (.iload_n 3, 1) := by decide +kernel
theorem dX4_egg_19 : decode cX4_egg 19 = .ok (.iconst 0, 1) := by decide +kernel
theorem dX4_egg_20 : decode cX4_egg 20 = .ok (.bipush 15, 2) := by decide +kernel
theorem dX4_egg_22 : decode cX4_egg 22 = .ok (.invokestatic 49, 3) := by decide +kernel
theorem dX4_egg_25 : decode cX4_egg 25 = .ok (.ifCond .ne 5, 3) := by decide +kernel
theorem dX4_egg_28 : decode cX4_egg 28 = .ok (.iconst (-1), 1) := by decide +kernel
theorem dX4_egg_29 : decode cX4_egg 29 = .ok (.ireturn, 1) := by decide +kernel
theorem dX4_egg_30 : decode cX4_egg 30 = .ok (.iload 4, 2) := by decide +kernel
theorem dX4_egg_32 : decode cX4_egg 32 = .ok (.iconst 0, 1) := by decide +kernel
theorem dX4_egg_33 : decode cX4_egg 33 = .ok (.bipush 9, 2) := by decide +kernel
theorem dX4_egg_35 : decode cX4_egg 35 = .ok (.invokestatic 49, 3) := by decide +kernel
theorem dX4_egg_38 : decode cX4_egg 38 = .ok (.ifCond .eq 13, 3) := by decide +kernel
theorem dX4_egg_41 : decode cX4_egg 41 = .ok (.iload 5, 2) := by decide +kernel
theorem dX4_egg_43 : decode cX4_egg 43 = .ok (.iconst 0, 1) := by decide +kernel
theorem dX4_egg_44 : decode cX4_egg 44 = .ok (.iconst 3, 1) := by decide +kernel
theorem dX4_egg_45 : decode cX4_egg 45 = .ok (.invokestatic 49, 3) := by decide +kernel
theorem dX4_egg_48 : decode cX4_egg 48 = .ok (.ifCond .ne 5, 3) := by decide +kernel
theorem dX4_egg_51 : decode cX4_egg 51 = .ok (.iconst (-1), 1) := by decide +kernel
theorem dX4_egg_52 : decode cX4_egg 52 = .ok (.ireturn, 1) := by decide +kernel
theorem dX4_egg_53 : decode cX4_egg 53 = .ok (.aload_n 0, 1) := by decide +kernel
theorem dX4_egg_54 : decode cX4_egg 54 = .ok (.getfield 10, 3) := by decide +kernel
theorem dX4_egg_57 : decode cX4_egg 57 = .ok (.invokevirtual 53, 3) := by decide +kernel
theorem dX4_egg_60 : decode cX4_egg 60 = .ok (.bipush 20, 2) := by decide +kernel
theorem dX4_egg_62 : decode cX4_egg 62 = .ok (.if_icmp .lt 6, 3) := by decide +kernel
theorem dX4_egg_65 : decode cX4_egg 65 = .ok (.bipush (-3), 2) := by decide +kernel
theorem dX4_egg_67 : decode cX4_egg 67 = .ok (.ireturn, 1) := by decide +kernel
theorem dX4_egg_68 : decode cX4_egg 68 = .ok (.aload_n 0, 1) := by decide +kernel
theorem dX4_egg_69 : decode cX4_egg 69 = .ok (.iconst 0, 1) := by decide +kernel
theorem dX4_egg_70 : decode cX4_egg 70 = .ok (.invokevirtual 57, 3) := by decide +kernel
theorem dX4_egg_73 : decode cX4_egg 73 = .ok (.istore 6, 2) := by decide +kernel
theorem dX4_egg_75 : decode cX4_egg 75 = .ok (.aload_n 0, 1) := by decide +kernel
theorem dX4_egg_76 : decode cX4_egg 76 = .ok (.getfield 10, 3) := by decide +kernel
theorem dX4_egg_79 : decode cX4_egg 79 = .ok (.new 19, 3) := by decide +kernel
theorem dX4_egg_82 : decode cX4_egg 82 = .ok (.dup, 1) := by decide +kernel
theorem dX4_egg_83 : decode cX4_egg 83 = .ok (.iload 6, 2) := by decide +kernel
theorem dX4_egg_85 : decode cX4_egg 85 = .ok (.iload_n 1, 1) := by decide +kernel
theorem dX4_egg_86 : decode cX4_egg 86 = .ok (.iload_n 2, 1) := by decide +kernel
theorem dX4_egg_87 : decode cX4_egg 87 = .ok (.iload_n 3, 1) := by decide +kernel
theorem dX4_egg_88 : decode cX4_egg 88 = .ok (.iload 4, 2) := by decide +kernel
theorem dX4_egg_90 : decode cX4_egg 90 = .ok (.iload 5, 2) := by decide +kernel
theorem dX4_egg_92 : decode cX4_egg 92 = .ok (.invokespecial 61, 3) := by decide +kernel
theorem dX4_egg_95 : decode cX4_egg 95 = .ok (.invokevirtual 64, 3) := by decide +kernel
theorem dX4_egg_98 : decode cX4_egg 98 = .ok (.pop, 1) := by decide +kernel
theorem dX4_egg_99 : decode cX4_egg 99 = .ok (.aload_n 0, 1) := by decide +kernel
theorem dX4_egg_100 : decode cX4_egg 100 = .ok (.getfield 39, 3) := by decide +kernel
theorem dX4_egg_103 : decode cX4_egg 103 = .ok (.iload_n 1, 1) := by decide +kernel
theorem dX4_egg_104 : decode cX4_egg 104 = .ok (.aaload, 1) := by decide +kernel
theorem dX4_egg_105 : decode cX4_egg 105 = .ok (.iconst 0, 1) := by decide +kernel
theorem dX4_egg_106 : decode cX4_egg 106 = .ok (.dup2, 1) := by decide +kernel
theorem dX4_egg_107 : decode cX4_egg 107 = .ok (.iaload, 1) := by decide +kernel
theorem dX4_egg_108 : decode cX4_egg 108 = .ok (.iconst 1, 1) := by decide +kernel
theorem dX4_egg_109 : decode cX4_egg 109 = .ok (.iadd, 1) := by decide +kernel
theorem dX4_egg_110 : decode cX4_egg 110 = .ok (.iastore, 1) := by decide +kernel
theorem dX4_egg_111 : decode cX4_egg 111 = .ok (.iload 6, 2) := by decide +kernel
theorem dX4_egg_113 : decode cX4_egg 113 = .ok (.ireturn, 1) := by decide +kernel
theorem dX4_tick_0 : decode cX4_tick 0 = .ok (.iload_n 1, 1) := by decide +kernel
theorem dX4_tick_1 : decode cX4_tick 1 = .ok (.iconst 1, 1) := by decide +kernel
theorem dX4_tick_2 : decode cX4_tick 2 = .ok (.bipush 40, 2) := by decide +kernel
theorem dX4_tick_4 : decode cX4_tick 4 = .ok (.invokestatic 49, 3) := by decide +kernel
theorem dX4_tick_7 : decode cX4_tick 7 = .ok (.ifCond .ne 5, 3) := by decide +kernel
theorem dX4_tick_10 : decode cX4_tick 10 = .ok (.iconst (-1), 1) := by decide +kernel
theorem dX4_tick_11 : decode cX4_tick 11 = .ok (.ireturn, 1) := by decide +kernel
theorem dX4_tick_12 : decode cX4_tick 12 = .ok (.iconst 0, 1) := by decide +kernel
theorem dX4_tick_13 : decode cX4_tick 13 = .ok (.istore_n 2, 1) := by decide +kernel
theorem dX4_tick_14 : decode cX4_tick 14 = .ok (.iload_n 2, 1) := by decide +kernel
theorem dX4_tick_15 : decode cX4_tick 15 = .ok (.iload_n 1, 1) := by decide +kernel
theorem dX4_tick_16 : decode cX4_tick 16 = .ok (.if_icmp .ge 13, 3) := by decide +kernel
theorem dX4_tick_19 : decode cX4_tick 19 = .ok (.aload_n 0, 1) := by decide +kernel
theorem dX4_tick_20 : decode cX4_tick 20 = .ok (.invokevirtual 68, 3) := by decide +kernel
theorem dX4_tick_23 : decode cX4_tick 23 = .ok (.iinc 2 1, 3) := by decide +kernel
theorem dX4_tick_26 : decode cX4_tick 26 = .ok (.goto (-12), 3) := by decide +kernel
theorem dX4_tick_29 : decode cX4_tick 29 = .ok (.aload_n 0, 1) := by decide +kernel
theorem dX4_tick_30 : decode cX4_tick 30 = .ok (.getfield 71, 3) := by decide +kernel
theorem dX4_tick_33 : decode cX4_tick 33 = .ok (.ireturn, 1) := by decide +kernel
theorem dX4_drift_0 : decode cX4_drift 0 = .ok (.iload_n 1, 1) := by decide +kernel
theorem dX4_drift_1 : decode cX4_drift 1 = .ok (.bipush (-9), 2) := by decide +kernel
theorem dX4_drift_3 : decode cX4_drift 3 = .ok (.bipush 9, 2) := by decide +kernel
theorem dX4_drift_5 : decode cX4_drift 5 = .ok (.invokestatic 49, 3) := by decide +kernel
theorem dX4_drift_8 : decode cX4_drift 8 = .ok (.ifCond .ne 7, 3) := by decide +kernel
theorem dX4_drift_11 : decode cX4_drift 11 = .ok (.sipush (-1000), 3) := by decide +kernel
theorem dX4_drift_14 : decode cX4_drift 14 = .ok (.ireturn, 1) := by decide +kernel
theorem dX4_drift_15 : decode cX4_drift 15 = .ok (.aload_n 0, 1) := by decide +kernel
theorem dX4_drift_16 : decode cX4_drift 16 = .ok (.getfield 75, 3) := by decide +kernel
theorem dX4_drift_19 : decode cX4_drift 19 = .ok (.istore_n 2, 1) := by decide +kernel
theorem dX4_drift_20 : decode cX4_drift 20 = .ok (.aload_n 0, 1) := by decide +kernel
theorem dX4_drift_21 : decode cX4_drift 21 = .ok (.iload_n 1, 1) := by decide +kernel
theorem dX4_drift_22 : decode cX4_drift 22 = .ok (.putfield 75, 3) := by decide +kernel
theorem dX4_drift_25 : decode cX4_drift 25 = .ok (.iload_n 2, 1) := by decide +kernel
theorem dX4_drift_26 : decode cX4_drift 26 = .ok (.ireturn, 1) := by decide +kernel
theorem dX4_grade_0 : decode cX4_grade 0 = .ok (.iload_n 1, 1) := by decide +kernel
theorem dX4_grade_1 : decode cX4_grade 1 = .ok (.invokestatic 78, 3) := by decide +kernel
theorem dX4_grade_4 : decode cX4_grade 4 = .ok (.ifCond .eq 10, 3) := by decide +kernel
theorem dX4_grade_7 : decode cX4_grade 7 = .ok (.iload_n 2, 1) := by decide +kernel
theorem dX4_grade_8 : decode cX4_grade 8 = .ok (.invokestatic 81, 3) := by decide +kernel
theorem dX4_grade_11 : decode cX4_grade 11 = .ok (.ifCond .ne 5, 3) := by decide +kernel
theorem dX4_grade_14 : decode cX4_grade 14 = .ok (.iconst (-1), 1) := by decide +kernel
theorem dX4_grade_15 : decode cX4_grade 15 = .ok (.ireturn, 1) := by decide +kernel
theorem dX4_grade_16 : decode cX4_grade 16 = .ok (.aload_n 0, 1) := by decide +kernel
theorem dX4_grade_17 : decode cX4_grade 17 = .ok (.getfield 27, 3) := by decide +kernel
theorem dX4_grade_20 : decode cX4_grade 20 = .ok (.iload_n 1, 1) := by decide +kernel
theorem dX4_grade_21 : decode cX4_grade 21 = .ok (.aaload, 1) := by decide +kernel
theorem dX4_grade_22 : decode cX4_grade 22 = .ok (.astore_n 3, 1) := by decide +kernel
theorem dX4_grade_23 : decode cX4_grade 23 = .ok (.aload_n 3, 1) := by decide +kernel
theorem dX4_grade_24 : decode cX4_grade 24 = .ok (.getfield 84, 3) := by decide +kernel
theorem dX4_grade_27 : decode cX4_grade 27 = .ok (.getfield 88, 3) := by decide +kernel
theorem dX4_grade_30 : decode cX4_grade 30 = .ok (.ifCond .le 6, 3) := by decide +kernel
theorem dX4_grade_33 : decode cX4_grade 33 = .ok (.bipush (-2), 2) := by decide +kernel
theorem dX4_grade_35 : decode cX4_grade 35 = .ok (.ireturn, 1) := by decide +kernel
theorem dX4_grade_36 : decode cX4_grade 36 = .ok (.aload_n 3, 1) := by decide +kernel
theorem dX4_grade_37 : decode cX4_grade 37 = .ok (.getfield 93, 3) := by decide +kernel
theorem dX4_grade_40 : decode cX4_grade 40 = .ok (.istore 4, 2) := by decide +kernel
theorem dX4_grade_42 : decode cX4_grade 42 = .ok (.aload_n 3, 1) := by decide +kernel
theorem dX4_grade_43 : decode cX4_grade 43 = .ok (.iload_n 2, 1) := by decide +kernel
theorem dX4_grade_44 : decode cX4_grade 44 = .ok (.putfield 93, 3) := by decide +kernel
theorem dX4_grade_47 : decode cX4_grade 47 = .ok (.iload 4, 2) := by decide +kernel
theorem dX4_grade_49 : decode cX4_grade 49 = .ok (.ireturn, 1) := by decide +kernel
theorem dX4_on_0 : decode cX4_on 0 = .ok (.iload_n 1, 1) := by decide +kernel
theorem dX4_on_1 : decode cX4_on 1 = .ok (.invokestatic 78, 3) := by decide +kernel
theorem dX4_on_4 : decode cX4_on 4 = .ok (.ifCond .ne 5, 3) := by decide +kernel
theorem dX4_on_7 : decode cX4_on 7 = .ok (.iconst (-1), 1) := by decide +kernel
theorem dX4_on_8 : decode cX4_on 8 = .ok (.ireturn, 1) := by decide +kernel
theorem dX4_on_9 : decode cX4_on 9 = .ok (.aload_n 0, 1) := by decide +kernel
theorem dX4_on_10 : decode cX4_on 10 = .ok (.getfield 27, 3) := by decide +kernel
theorem dX4_on_13 : decode cX4_on 13 = .ok (.iload_n 1, 1) := by decide +kernel
theorem dX4_on_14 : decode cX4_on 14 = .ok (.aaload, 1) := by decide +kernel
theorem dX4_on_15 : decode cX4_on 15 = .ok (.astore_n 3, 1) := by decide +kernel
theorem dX4_on_16 : decode cX4_on 16 = .ok (.aload_n 3, 1) := by decide +kernel
theorem dX4_on_17 : decode cX4_on 17 = .ok (.getfield 96, 3) := by decide +kernel
theorem dX4_on_20 : decode cX4_on 20 = .ok (.invokestatic 100, 3) := by decide +kernel
theorem dX4_on_23 : decode cX4_on 23 = .ok (.istore 4, 2) := by decide +kernel
theorem dX4_on_25 : decode cX4_on 25 = .ok (.aload_n 3, 1) := by decide +kernel
theorem dX4_on_26 : decode cX4_on 26 = .ok (.iload_n 2, 1) := by decide +kernel
theorem dX4_on_27 : decode cX4_on 27 = .ok (.putfield 96, 3) := by decide +kernel
theorem dX4_on_30 : decode cX4_on 30 = .ok (.iload 4, 2) := by decide +kernel
theorem dX4_on_32 : decode cX4_on 32 = .ok (.ireturn, 1) := by decide +kernel
theorem dX4_at_0 : decode cX4_at 0 = .ok (.iload_n 1, 1) := by decide +kernel
theorem dX4_at_1 : decode cX4_at 1 = .ok (.iconst 0, 1) := by decide +kernel
theorem dX4_at_2 : decode cX4_at 2 = .ok (.bipush 15, 2) := by decide +kernel
theorem dX4_at_4 : decode cX4_at 4 = .ok (.invokestatic 49, 3) := by decide +kernel
theorem dX4_at_7 : decode cX4_at 7 = .ok (.ifCond .eq 12, 3) := by decide +kernel
theorem dX4_at_10 : decode cX4_at 10 = .ok (.iload_n 2, 1) := by decide +kernel
theorem dX4_at_11 : decode cX4_at 11 = .ok (.iconst 0, 1) := by decide +kernel
theorem dX4_at_12 : decode cX4_at 12 = .ok (.iconst 4, 1) := by decide +kernel
theorem dX4_at_13 : decode cX4_at 13 = .ok (.invokestatic 49, 3) := by decide +kernel
theorem dX4_at_16 : decode cX4_at 16 = .ok (.ifCond .ne 5, 3) := by decide +kernel
theorem dX4_at_19 : decode cX4_at 19 = .ok (.iconst (-1), 1) := by decide +kernel
theorem dX4_at_20 : decode cX4_at 20 = .ok (.ireturn, 1) := by decide +kernel
theorem dX4_at_21 : decode cX4_at 21 = .ok (.aload_n 0, 1) := by decide +kernel
theorem dX4_at_22 : decode cX4_at 22 = .ok (.getfield 21, 3) := by decide +kernel
theorem dX4_at_25 : decode cX4_at 25 = .ok (.iload_n 1, 1) := by decide +kernel
theorem dX4_at_26 : decode cX4_at 26 = .ok (.aaload, 1) := by decide +kernel
theorem dX4_at_27 : decode cX4_at 27 = .ok (.astore_n 3, 1) := by decide +kernel
theorem dX4_at_28 : decode cX4_at 28 = .ok (.aload_n 3, 1) := by decide +kernel
theorem dX4_at_29 : decode cX4_at 29 = .ok (.ifnonnull 6, 3) := by decide +kernel
theorem dX4_at_32 : decode cX4_at 32 = .ok (.bipush (-9), 2) := by decide +kernel
theorem dX4_at_34 : decode cX4_at 34 = .ok (.ireturn, 1) := by decide +kernel
theorem dX4_at_35 : decode cX4_at 35 = .ok (.iload_n 1, 1) := by decide +kernel
theorem dX4_at_36 : decode cX4_at 36 = .ok (.iconst 2, 1) := by decide +kernel
theorem dX4_at_37 : decode cX4_at 37 = .ok (.if_icmp .lt 7, 3) := by decide +kernel
theorem dX4_at_40 : decode cX4_at 40 = .ok (.iconst 1, 1) := by decide +kernel
theorem dX4_at_41 : decode cX4_at 41 = .ok (.goto 4, 3) := by decide +kernel
theorem dX4_at_44 : decode cX4_at 44 = .ok (.iconst 0, 1) := by decide +kernel
theorem dX4_at_45 : decode cX4_at 45 = .ok (.istore 4, 2) := by decide +kernel
theorem dX4_at_47 : decode cX4_at 47 = .ok (.iload_n 2, 1) := by decide +kernel
theorem dX4_at_48 : decode cX4_at 48 = .ok (.tableswitch 61 0 3 #[32, 37, 42, 47], 32) := by decide +kernel
theorem dX4_at_80 : decode cX4_at 80 = .ok (.aload_n 3, 1) := by decide +kernel
theorem dX4_at_81 : decode cX4_at 81 = .ok (.getfield 104, 3) := by decide +kernel
theorem dX4_at_84 : decode cX4_at 84 = .ok (.ireturn, 1) := by decide +kernel
theorem dX4_at_85 : decode cX4_at 85 = .ok (.aload_n 3, 1) := by decide +kernel
theorem dX4_at_86 : decode cX4_at 86 = .ok (.getfield 107, 3) := by decide +kernel
theorem dX4_at_89 : decode cX4_at 89 = .ok (.ireturn, 1) := by decide +kernel
theorem dX4_at_90 : decode cX4_at 90 = .ok (.aload_n 3, 1) := by decide +kernel
theorem dX4_at_91 : decode cX4_at 91 = .ok (.getfield 110, 3) := by decide +kernel
theorem dX4_at_94 : decode cX4_at 94 = .ok (.ireturn, 1) := by decide +kernel
theorem dX4_at_95 : decode cX4_at 95 = .ok (.iload 4, 2) := by decide +kernel
theorem dX4_at_97 : decode cX4_at 97 = .ok (.ifCond .eq 10, 3) := by decide +kernel
theorem dX4_at_100 : decode cX4_at 100 = .ok (.aload_n 3, 1) := by decide +kernel
theorem dX4_at_101 : decode cX4_at 101 = .ok (.getfield 113, 3) := by decide +kernel
theorem dX4_at_104 : decode cX4_at 104 = .ok (.goto 4, 3) := by decide +kernel
theorem dX4_at_107 : decode cX4_at 107 = .ok (.iconst 0, 1) := by decide +kernel
theorem dX4_at_108 : decode cX4_at 108 = .ok (.ireturn, 1) := by decide +kernel
theorem dX4_at_109 : decode cX4_at 109 = .ok (.iload 4, 2) := by decide +kernel
theorem dX4_at_111 : decode cX4_at 111 = .ok (.ifCond .eq 13, 3) := by decide +kernel
theorem dX4_at_114 : decode cX4_at 114 = .ok (.aload_n 3, 1) := by decide +kernel
theorem dX4_at_115 : decode cX4_at 115 = .ok (.getfield 113, 3) := by decide +kernel
theorem dX4_at_118 : decode cX4_at 118 = .ok (.invokestatic 116, 3) := by decide +kernel
theorem dX4_at_121 : decode cX4_at 121 = .ok (.goto 5, 3) := by decide +kernel
theorem dX4_at_124 : decode cX4_at 124 = .ok (.bipush (-9), 2) := by decide +kernel
theorem dX4_at_126 : decode cX4_at 126 = .ok (.ireturn, 1) := by decide +kernel
theorem dX4_packer_0 : decode cX4_packer 0 = .ok (.iload_n 1, 1) := by decide +kernel
theorem dX4_packer_1 : decode cX4_packer 1 = .ok (.invokestatic 78, 3) := by decide +kernel
theorem dX4_packer_4 : decode cX4_packer 4 = .ok (.ifCond .ne 5, 3) := by decide +kernel
theorem dX4_packer_7 : decode cX4_packer 7 = .ok (.iconst (-1), 1) := by decide +kernel
theorem dX4_packer_8 : decode cX4_packer 8 = .ok (.ireturn, 1) := by decide +kernel
theorem dX4_packer_9 : decode cX4_packer 9 = .ok (.aload_n 0, 1) := by decide +kernel
theorem dX4_packer_10 : decode cX4_packer 10 = .ok (.getfield 27, 3) := by decide +kernel
theorem dX4_packer_13 : decode cX4_packer 13 = .ok (.iload_n 1, 1) := by decide +kernel
theorem dX4_packer_14 : decode cX4_packer 14 = .ok (.aaload, 1) := by decide +kernel
theorem dX4_packer_15 : decode cX4_packer 15 = .ok (.astore_n 3, 1) := by decide +kernel
theorem dX4_packer_16 : decode cX4_packer 16 = .ok (.iload_n 2, 1) := by decide +kernel
theorem dX4_packer_17 : decode cX4_packer 17 = .ok (.tableswitch 69 0 4 #[35, 40, 48, 56, 61], 35) := by decide +kernel
theorem dX4_packer_52 : decode cX4_packer 52 = .ok (.aload_n 3, 1) := by decide +kernel
theorem dX4_packer_53 : decode cX4_packer 53 = .ok (.getfield 93, 3) := by decide +kernel
theorem dX4_packer_56 : decode cX4_packer 56 = .ok (.ireturn, 1) := by decide +kernel
theorem dX4_packer_57 : decode cX4_packer 57 = .ok (.aload_n 3, 1) := by decide +kernel
theorem dX4_packer_58 : decode cX4_packer 58 = .ok (.getfield 96, 3) := by decide +kernel
theorem dX4_packer_61 : decode cX4_packer 61 = .ok (.invokestatic 100, 3) := by decide +kernel
theorem dX4_packer_64 : decode cX4_packer 64 = .ok (.ireturn, 1) := by decide +kernel
theorem dX4_packer_65 : decode cX4_packer 65 = .ok (.aload_n 3, 1) := by decide +kernel
theorem dX4_packer_66 : decode cX4_packer 66 = .ok (.getfield 84, 3) := by decide +kernel
theorem dX4_packer_69 : decode cX4_packer 69 = .ok (.getfield 88, 3) := by decide +kernel
theorem dX4_packer_72 : decode cX4_packer 72 = .ok (.ireturn, 1) := by decide +kernel
theorem dX4_packer_73 : decode cX4_packer 73 = .ok (.aload_n 3, 1) := by decide +kernel
theorem dX4_packer_74 : decode cX4_packer 74 = .ok (.getfield 119, 3) := by decide +kernel
theorem dX4_packer_77 : decode cX4_packer 77 = .ok (.ireturn, 1) := by decide +kernel
theorem dX4_packer_78 : decode cX4_packer 78 = .ok (.aload_n 3, 1) := by decide +kernel
theorem dX4_packer_79 : decode cX4_packer 79 = .ok (.getfield 84, 3) := by decide +kernel
theorem dX4_packer_82 : decode cX4_packer 82 = .ok (.getfield 122, 3) := by decide +kernel
theorem dX4_packer_85 : decode cX4_packer 85 = .ok (.ireturn, 1) := by decide +kernel
theorem dX4_packer_86 : decode cX4_packer 86 = .ok (.iconst (-1), 1) := by decide +kernel
theorem dX4_packer_87 : decode cX4_packer 87 = .ok (.ireturn, 1) := by decide +kernel
theorem dX4_count_0 : decode cX4_count 0 = .ok (.iload_n 1, 1) := by decide +kernel
theorem dX4_count_1 : decode cX4_count 1 = .ok (.tableswitch 121 0 9 #[55, 61, 69, 74, 82, 88, 94, 100, 105, 116], 55) := by decide +kernel
theorem dX4_count_56 : decode cX4_count 56 = .ok (.aload_n 0, 1) := by decide +kernel
theorem dX4_count_57 : decode cX4_count 57 = .ok (.iconst 0, 1) := by decide +kernel
theorem dX4_count_58 : decode cX4_count 58 = .ok (.invokevirtual 57, 3) := by decide +kernel
theorem dX4_count_61 : decode cX4_count 61 = .ok (.ireturn, 1) := by decide +kernel
theorem dX4_count_62 : decode cX4_count 62 = .ok (.aload_n 0, 1) := by decide +kernel
theorem dX4_count_63 : decode cX4_count 63 = .ok (.getfield 10, 3) := by decide +kernel
theorem dX4_count_66 : decode cX4_count 66 = .ok (.invokevirtual 53, 3) := by decide +kernel
theorem dX4_count_69 : decode cX4_count 69 = .ok (.ireturn, 1) := by decide +kernel
theorem dX4_count_70 : decode cX4_count 70 = .ok (.aload_n 0, 1) := by decide +kernel
theorem dX4_count_71 : decode cX4_count 71 = .ok (.invokevirtual 125, 3) := by decide +kernel
theorem dX4_count_74 : decode cX4_count 74 = .ok (.ireturn, 1) := by decide +kernel
theorem dX4_count_75 : decode cX4_count 75 = .ok (.aload_n 0, 1) := by decide +kernel
theorem dX4_count_76 : decode cX4_count 76 = .ok (.getfield 16, 3) := by decide +kernel
theorem dX4_count_79 : decode cX4_count 79 = .ok (.invokevirtual 53, 3) := by decide +kernel
theorem dX4_count_82 : decode cX4_count 82 = .ok (.ireturn, 1) := by decide +kernel
theorem dX4_count_83 : decode cX4_count 83 = .ok (.aload_n 0, 1) := by decide +kernel
theorem dX4_count_84 : decode cX4_count 84 = .ok (.iconst 1, 1) := by decide +kernel
theorem dX4_count_85 : decode cX4_count 85 = .ok (.invokevirtual 57, 3) := by decide +kernel
theorem dX4_count_88 : decode cX4_count 88 = .ok (.ireturn, 1) := by decide +kernel
theorem dX4_count_89 : decode cX4_count 89 = .ok (.aload_n 0, 1) := by decide +kernel
theorem dX4_count_90 : decode cX4_count 90 = .ok (.iconst 2, 1) := by decide +kernel
theorem dX4_count_91 : decode cX4_count 91 = .ok (.invokevirtual 57, 3) := by decide +kernel
theorem dX4_count_94 : decode cX4_count 94 = .ok (.ireturn, 1) := by decide +kernel
theorem dX4_count_95 : decode cX4_count 95 = .ok (.aload_n 0, 1) := by decide +kernel
theorem dX4_count_96 : decode cX4_count 96 = .ok (.iconst 3, 1) := by decide +kernel
theorem dX4_count_97 : decode cX4_count 97 = .ok (.invokevirtual 57, 3) := by decide +kernel
theorem dX4_count_100 : decode cX4_count 100 = .ok (.ireturn, 1) := by decide +kernel
theorem dX4_count_101 : decode cX4_count 101 = .ok (.aload_n 0, 1) := by decide +kernel
theorem dX4_count_102 : decode cX4_count 102 = .ok (.invokevirtual 128, 3) := by decide +kernel
theorem dX4_count_105 : decode cX4_count 105 = .ok (.ireturn, 1) := by decide +kernel
theorem dX4_count_106 : decode cX4_count 106 = .ok (.aload_n 0, 1) := by decide +kernel
theorem dX4_count_107 : decode cX4_count 107 = .ok (.getfield 31, 3) := by decide +kernel
theorem dX4_count_110 : decode cX4_count 110 = .ok (.invokevirtual 53, 3) := by decide +kernel
theorem dX4_count_113 : decode cX4_count 113 = .ok (.bipush 6, 2) := by decide +kernel
theorem dX4_count_115 : decode cX4_count 115 = .ok (.imul, 1) := by decide +kernel
theorem dX4_count_116 : decode cX4_count 116 = .ok (.ireturn, 1) := by decide +kernel
theorem dX4_count_117 : decode cX4_count 117 = .ok (.aload_n 0, 1) := by decide +kernel
theorem dX4_count_118 : decode cX4_count 118 = .ok (.getfield 131, 3) := by decide +kernel
theorem dX4_count_121 : decode cX4_count 121 = .ok (.ireturn, 1) := by decide +kernel
theorem dX4_count_122 : decode cX4_count 122 = .ok (.iconst (-1), 1) := by decide +kernel
theorem dX4_count_123 : decode cX4_count 123 = .ok (.ireturn, 1) := by decide +kernel
theorem dX4_barn_0 : decode cX4_barn 0 = .ok (.iload_n 1, 1) := by decide +kernel
theorem dX4_barn_1 : decode cX4_barn 1 = .ok (.invokestatic 45, 3) := by decide +kernel
theorem dX4_barn_4 : decode cX4_barn 4 = .ok (.ifCond .eq 12, 3) := by decide +kernel
theorem dX4_barn_7 : decode cX4_barn 7 = .ok (.iload_n 2, 1) := by decide +kernel
theorem dX4_barn_8 : decode cX4_barn 8 = .ok (.iconst 0, 1) := by decide +kernel
theorem dX4_barn_9 : decode cX4_barn 9 = .ok (.iconst 4, 1) := by decide +kernel
theorem dX4_barn_10 : decode cX4_barn 10 = .ok (.invokestatic 49, 3) := by decide +kernel
theorem dX4_barn_13 : decode cX4_barn 13 = .ok (.ifCond .ne 5, 3) := by decide +kernel
theorem dX4_barn_16 : decode cX4_barn 16 = .ok (.iconst (-1), 1) := by decide +kernel
theorem dX4_barn_17 : decode cX4_barn 17 = .ok (.ireturn, 1) := by decide +kernel
theorem dX4_barn_18 : decode cX4_barn 18 = .ok (.aload_n 0, 1) := by decide +kernel
theorem dX4_barn_19 : decode cX4_barn 19 = .ok (.getfield 39, 3) := by decide +kernel
theorem dX4_barn_22 : decode cX4_barn 22 = .ok (.iload_n 1, 1) := by decide +kernel
theorem dX4_barn_23 : decode cX4_barn 23 = .ok (.aaload, 1) := by decide +kernel
theorem dX4_barn_24 : decode cX4_barn 24 = .ok (.iload_n 2, 1) := by decide +kernel
theorem dX4_barn_25 : decode cX4_barn 25 = .ok (.iaload, 1) := by decide +kernel
theorem dX4_barn_26 : decode cX4_barn 26 = .ok (.ireturn, 1) := by decide +kernel
theorem dX4_pack_0 : decode cX4_pack 0 = .ok (.aload_n 0, 1) := by decide +kernel
theorem dX4_pack_1 : decode cX4_pack 1 = .ok (.iload_n 1, 1) := by decide +kernel
theorem dX4_pack_2 : decode cX4_pack 2 = .ok (.invokevirtual 134, 3) := by decide +kernel
theorem dX4_pack_5 : decode cX4_pack 5 = .ok (.ifCond .ne 5, 3) := by decide +kernel
theorem dX4_pack_8 : decode cX4_pack 8 = .ok (.iconst (-1), 1) := by decide +kernel
theorem dX4_pack_9 : decode cX4_pack 9 = .ok (.ireturn, 1) := by decide +kernel
theorem dX4_pack_10 : decode cX4_pack 10 = .ok (.aload_n 0, 1) := by decide +kernel
theorem dX4_pack_11 : decode cX4_pack 11 = .ok (.getfield 31, 3) := by decide +kernel
theorem dX4_pack_14 : decode cX4_pack 14 = .ok (.iload_n 1, 1) := by decide +kernel
theorem dX4_pack_15 : decode cX4_pack 15 = .ok (.invokevirtual 137, 3) := by decide +kernel
theorem dX4_pack_18 : decode cX4_pack 18 = .ok (.checkcast 89, 3) := by decide +kernel
theorem dX4_pack_21 : decode cX4_pack 21 = .ok (.astore_n 3, 1) := by decide +kernel
theorem dX4_pack_22 : decode cX4_pack 22 = .ok (.iload_n 2, 1) := by decide +kernel
theorem dX4_pack_23 : decode cX4_pack 23 = .ok (.tableswitch 88 0 7 #[45, 50, 55, 60, 65, 70, 78, 83], 45) := by decide +kernel
theorem dX4_pack_68 : decode cX4_pack 68 = .ok (.aload_n 3, 1) := by decide +kernel
theorem dX4_pack_69 : decode cX4_pack 69 = .ok (.getfield 141, 3) := by decide +kernel
theorem dX4_pack_72 : decode cX4_pack 72 = .ok (.ireturn, 1) := by decide +kernel
theorem dX4_pack_73 : decode cX4_pack 73 = .ok (.aload_n 3, 1) := by decide +kernel
theorem dX4_pack_74 : decode cX4_pack 74 = .ok (.getfield 122, 3) := by decide +kernel
theorem dX4_pack_77 : decode cX4_pack 77 = .ok (.ireturn, 1) := by decide +kernel
theorem dX4_pack_78 : decode cX4_pack 78 = .ok (.aload_n 3, 1) := by decide +kernel
theorem dX4_pack_79 : decode cX4_pack 79 = .ok (.getfield 142, 3) := by decide +kernel
theorem dX4_pack_82 : decode cX4_pack 82 = .ok (.ireturn, 1) := by decide +kernel
theorem dX4_pack_83 : decode cX4_pack 83 = .ok (.aload_n 3, 1) := by decide +kernel
theorem dX4_pack_84 : decode cX4_pack 84 = .ok (.getfield 145, 3) := by decide +kernel
theorem dX4_pack_87 : decode cX4_pack 87 = .ok (.ireturn, 1) := by decide +kernel
theorem dX4_pack_88 : decode cX4_pack 88 = .ok (.aload_n 3, 1) := by decide +kernel
theorem dX4_pack_89 : decode cX4_pack 89 = .ok (.getfield 148, 3) := by decide +kernel
theorem dX4_pack_92 : decode cX4_pack 92 = .ok (.ireturn, 1) := by decide +kernel
theorem dX4_pack_93 : decode cX4_pack 93 = .ok (.aload_n 3, 1) := by decide +kernel
theorem dX4_pack_94 : decode cX4_pack 94 = .ok (.getfield 151, 3) := by decide +kernel
theorem dX4_pack_97 : decode cX4_pack 97 = .ok (.invokestatic 100, 3) := by decide +kernel
theorem dX4_pack_100 : decode cX4_pack 100 = .ok (.ireturn, 1) := by decide +kernel
theorem dX4_pack_101 : decode cX4_pack 101 = .ok (.aload_n 3, 1) := by decide +kernel
theorem dX4_pack_102 : decode cX4_pack 102 = .ok (.getfield 154, 3) := by decide +kernel
theorem dX4_pack_105 : decode cX4_pack 105 = .ok (.ireturn, 1) := by decide +kernel
theorem dX4_pack_106 : decode cX4_pack 106 = .ok (.aload_n 3, 1) := by decide +kernel
theorem dX4_pack_107 : decode cX4_pack 107 = .ok (.getfield 157, 3) := by decide +kernel
theorem dX4_pack_110 : decode cX4_pack 110 = .ok (.ireturn, 1) := by decide +kernel
theorem dX4_pack_111 : decode cX4_pack 111 = .ok (.iconst (-1), 1) := by decide +kernel
theorem dX4_pack_112 : decode cX4_pack 112 = .ok (.ireturn, 1) := by decide +kernel
theorem dX4_free_0 : decode cX4_free 0 = .ok (.iload_n 1, 1) := by decide +kernel
theorem dX4_free_1 : decode cX4_free 1 = .ok (.invokestatic 81, 3) := by decide +kernel
theorem dX4_free_4 : decode cX4_free 4 = .ok (.ifCond .ne 5, 3) := by decide +kernel
theorem dX4_free_7 : decode cX4_free 7 = .ok (.iconst (-1), 1) := by decide +kernel
theorem dX4_free_8 : decode cX4_free 8 = .ok (.ireturn, 1) := by decide +kernel
theorem dX4_free_9 : decode cX4_free 9 = .ok (.iconst 0, 1) := by decide +kernel
theorem dX4_free_10 : decode cX4_free 10 = .ok (.istore_n 2, 1) := by decide +kernel
theorem dX4_free_11 : decode cX4_free 11 = .ok (.iconst 0, 1) := by decide +kernel
theorem dX4_free_12 : decode cX4_free 12 = .ok (.istore_n 3, 1) := by decide +kernel
theorem dX4_free_13 : decode cX4_free 13 = .ok (.iload_n 3, 1) := by decide +kernel
theorem dX4_free_14 : decode cX4_free 14 = .ok (.aload_n 0, 1) := by decide +kernel
theorem dX4_free_15 : decode cX4_free 15 = .ok (.getfield 31, 3) := by decide +kernel
theorem dX4_free_18 : decode cX4_free 18 = .ok (.invokevirtual 53, 3) := by decide +kernel
theorem dX4_free_21 : decode cX4_free 21 = .ok (.if_icmp .ge 30, 3) := by decide +kernel
theorem dX4_free_24 : decode cX4_free 24 = .ok (.aload_n 0, 1) := by decide +kernel
theorem dX4_free_25 : decode cX4_free 25 = .ok (.getfield 31, 3) := by decide +kernel
theorem dX4_free_28 : decode cX4_free 28 = .ok (.iload_n 3, 1) := by decide +kernel
theorem dX4_free_29 : decode cX4_free 29 = .ok (.invokevirtual 137, 3) := by decide +kernel
theorem dX4_free_32 : decode cX4_free 32 = .ok (.checkcast 89, 3) := by decide +kernel
theorem dX4_free_35 : decode cX4_free 35 = .ok (.iload_n 1, 1) := by decide +kernel
theorem dX4_free_36 : decode cX4_free 36 = .ok (.invokevirtual 160, 3) := by decide +kernel
theorem dX4_free_39 : decode cX4_free 39 = .ok (.ifCond .eq 6, 3) := by decide +kernel
theorem dX4_free_42 : decode cX4_free 42 = .ok (.iinc 2 1, 3) := by decide +kernel
theorem dX4_free_45 : decode cX4_free 45 = .ok (.iinc 3 1, 3) := by decide +kernel
theorem dX4_free_48 : decode cX4_free 48 = .ok (.goto (-35), 3) := by decide +kernel
theorem dX4_free_51 : decode cX4_free 51 = .ok (.iload_n 2, 1) := by decide +kernel
theorem dX4_free_52 : decode cX4_free 52 = .ok (.ireturn, 1) := by decide +kernel
theorem dX4_order_0 : decode cX4_order 0 = .ok (.iload_n 1, 1) := by decide +kernel
theorem dX4_order_1 : decode cX4_order 1 = .ok (.invokestatic 81, 3) := by decide +kernel
theorem dX4_order_4 : decode cX4_order 4 = .ok (.ifCond .eq 24, 3) := by decide +kernel
theorem dX4_order_7 : decode cX4_order 7 = .ok (.iload_n 2, 1) := by decide +kernel
theorem dX4_order_8 : decode cX4_order 8 = .ok (.iconst 1, 1) := by decide +kernel
theorem dX4_order_9 : decode cX4_order 9 = .ok (.bipush 9, 2) := by decide +kernel
theorem dX4_order_11 : decode cX4_order 11 = .ok (.invokestatic 49, 3) := by decide +kernel
theorem dX4_order_14 : decode cX4_order 14 = .ok (.ifCond .eq 14, 3) := by decide +kernel
theorem dX4_order_17 : decode cX4_order 17 = .ok (.iload_n 3, 1) := by decide +kernel
theorem dX4_order_18 : decode cX4_order 18 = .ok (.iconst 1, 1) := by decide +kernel
theorem dX4_order_19 : decode cX4_order 19 = .ok (.sipush 1000, 3) := by decide +kernel
theorem dX4_order_22 : decode cX4_order 22 = .ok (.invokestatic 49, 3) := by decide +kernel
theorem dX4_order_25 : decode cX4_order 25 = .ok (.ifCond .ne 5, 3) := by decide +kernel
theorem dX4_order_28 : decode cX4_order 28 = .ok (.iconst (-1), 1) := by decide +kernel
theorem dX4_order_29 : decode cX4_order 29 = .ok (.ireturn, 1) := by decide +kernel
theorem dX4_order_30 : decode cX4_order 30 = .ok (.aload_n 0, 1) := by decide +kernel
theorem dX4_order_31 : decode cX4_order 31 = .ok (.getfield 34, 3) := by decide +kernel
theorem dX4_order_34 : decode cX4_order 34 = .ok (.invokevirtual 53, 3) := by decide +kernel
theorem dX4_order_37 : decode cX4_order 37 = .ok (.bipush 6, 2) := by decide +kernel
theorem dX4_order_39 : decode cX4_order 39 = .ok (.if_icmp .lt 6, 3) := by decide +kernel
theorem dX4_order_42 : decode cX4_order 42 = .ok (.bipush (-3), 2) := by decide +kernel
theorem dX4_order_44 : decode cX4_order 44 = .ok (.ireturn, 1) := by decide +kernel
theorem dX4_order_45 : decode cX4_order 45 = .ok (.aload_n 0, 1) := by decide +kernel
theorem dX4_order_46 : decode cX4_order 46 = .ok (.getfield 34, 3) := by decide +kernel
theorem dX4_order_49 : decode cX4_order 49 = .ok (.new 163, 3) := by decide +kernel
theorem dX4_order_52 : decode cX4_order 52 = .ok (.dup, 1) := by decide +kernel
theorem dX4_order_53 : decode cX4_order 53 = .ok (.iload_n 1, 1) := by decide +kernel
theorem dX4_order_54 : decode cX4_order 54 = .ok (.iload_n 2, 1) := by decide +kernel
theorem dX4_order_55 : decode cX4_order 55 = .ok (.iload_n 3, 1) := by decide +kernel
theorem dX4_order_56 : decode cX4_order 56 = .ok (.invokespecial 165, 3) := by decide +kernel
theorem dX4_order_59 : decode cX4_order 59 = .ok (.invokevirtual 64, 3) := by decide +kernel
theorem dX4_order_62 : decode cX4_order 62 = .ok (.pop, 1) := by decide +kernel
theorem dX4_order_63 : decode cX4_order 63 = .ok (.aload_n 0, 1) := by decide +kernel
theorem dX4_order_64 : decode cX4_order 64 = .ok (.getfield 34, 3) := by decide +kernel
theorem dX4_order_67 : decode cX4_order 67 = .ok (.invokevirtual 53, 3) := by decide +kernel
theorem dX4_order_70 : decode cX4_order 70 = .ok (.iconst 1, 1) := by decide +kernel
theorem dX4_order_71 : decode cX4_order 71 = .ok (.isub, 1) := by decide +kernel
theorem dX4_order_72 : decode cX4_order 72 = .ok (.ireturn, 1) := by decide +kernel
theorem dX4_best_0 : decode cX4_best 0 = .ok (.iload_n 1, 1) := by decide +kernel
theorem dX4_best_1 : decode cX4_best 1 = .ok (.lookupswitch 41 #[(0, 27), (1, 32)], 27) := by decide +kernel
theorem dX4_best_28 : decode cX4_best 28 = .ok (.aload_n 0, 1) := by decide +kernel
theorem dX4_best_29 : decode cX4_best 29 = .ok (.invokevirtual 168, 3) := by decide +kernel
theorem dX4_best_32 : decode cX4_best 32 = .ok (.ireturn, 1) := by decide +kernel
theorem dX4_best_33 : decode cX4_best 33 = .ok (.aload_n 0, 1) := by decide +kernel
theorem dX4_best_34 : decode cX4_best 34 = .ok (.aload_n 0, 1) := by decide +kernel
theorem dX4_best_35 : decode cX4_best 35 = .ok (.invokevirtual 168, 3) := by decide +kernel
theorem dX4_best_38 : decode cX4_best 38 = .ok (.invokevirtual 171, 3) := by decide +kernel
theorem dX4_best_41 : decode cX4_best 41 = .ok (.ireturn, 1) := by decide +kernel
theorem dX4_best_42 : decode cX4_best 42 = .ok (.iconst (-1), 1) := by decide +kernel
theorem dX4_best_43 : decode cX4_best 43 = .ok (.ireturn, 1) := by decide +kernel
theorem dX4_serve_0 : decode cX4_serve 0 = .ok (.aload_n 0, 1) := by decide +kernel
theorem dX4_serve_1 : decode cX4_serve 1 = .ok (.invokevirtual 168, 3) := by decide +kernel
theorem dX4_serve_4 : decode cX4_serve 4 = .ok (.istore_n 1, 1) := by decide +kernel
theorem dX4_serve_5 : decode cX4_serve 5 = .ok (.iconst 0, 1) := by decide +kernel
theorem dX4_serve_6 : decode cX4_serve 6 = .ok (.istore_n 2, 1) := by decide +kernel
theorem dX4_serve_7 : decode cX4_serve 7 = .ok (.iconst 0, 1) := by decide +kernel
theorem dX4_serve_8 : decode cX4_serve 8 = .ok (.istore_n 3, 1) := by decide +kernel
theorem dX4_serve_9 : decode cX4_serve 9 = .ok (.iload_n 3, 1) := by decide +kernel
theorem dX4_serve_10 : decode cX4_serve 10 = .ok (.aload_n 0, 1) := by decide +kernel
theorem dX4_serve_11 : decode cX4_serve 11 = .ok (.getfield 34, 3) := by decide +kernel
theorem dX4_serve_14 : decode cX4_serve 14 = .ok (.invokevirtual 53, 3) := by decide +kernel
theorem dX4_serve_17 : decode cX4_serve 17 = .ok (.if_icmp .ge 25, 3) := by decide +kernel
theorem dX4_serve_20 : decode cX4_serve 20 = .ok (.iload_n 1, 1) := by decide +kernel
theorem dX4_serve_21 : decode cX4_serve 21 = .ok (.iload_n 3, 1) := by decide +kernel
theorem dX4_serve_22 : decode cX4_serve 22 = .ok (.invokestatic 174, 3) := by decide +kernel
theorem dX4_serve_25 : decode cX4_serve 25 = .ok (.ifCond .eq 11, 3) := by decide +kernel
theorem dX4_serve_28 : decode cX4_serve 28 = .ok (.iload_n 2, 1) := by decide +kernel
theorem dX4_serve_29 : decode cX4_serve 29 = .ok (.aload_n 0, 1) := by decide +kernel
theorem dX4_serve_30 : decode cX4_serve 30 = .ok (.iload_n 3, 1) := by decide +kernel
theorem dX4_serve_31 : decode cX4_serve 31 = .ok (.invokevirtual 178, 3) := by decide +kernel
theorem dX4_serve_34 : decode cX4_serve 34 = .ok (.iadd, 1) := by decide +kernel
theorem dX4_serve_35 : decode cX4_serve 35 = .ok (.istore_n 2, 1) := by decide +kernel
theorem dX4_serve_36 : decode cX4_serve 36 = .ok (.iinc 3 1, 3) := by decide +kernel
theorem dX4_serve_39 : decode cX4_serve 39 = .ok (.goto (-30), 3) := by decide +kernel
theorem dX4_serve_42 : decode cX4_serve 42 = .ok (.iload_n 2, 1) := by decide +kernel
theorem dX4_serve_43 : decode cX4_serve 43 = .ok (.ireturn, 1) := by decide +kernel
theorem dX4_about_0 : decode cX4_about 0 = .ok (.iload_n 1, 1) := by decide +kernel
theorem dX4_about_1 : decode cX4_about 1 = .ok (.iconst 0, 1) := by decide +kernel
theorem dX4_about_2 : decode cX4_about 2 = .ok (.aload_n 0, 1) := by decide +kernel
theorem dX4_about_3 : decode cX4_about 3 = .ok (.getfield 34, 3) := by decide +kernel
theorem dX4_about_6 : decode cX4_about 6 = .ok (.invokevirtual 53, 3) := by decide +kernel
theorem dX4_about_9 : decode cX4_about 9 = .ok (.iconst 1, 1) := by decide +kernel
theorem dX4_about_10 : decode cX4_about 10 = .ok (.isub, 1) := by decide +kernel
theorem dX4_about_11 : decode cX4_about 11 = .ok (.invokestatic 49, 3) := by decide +kernel
theorem dX4_about_14 : decode cX4_about 14 = .ok (.ifCond .ne 5, 3) := by decide +kernel
theorem dX4_about_17 : decode cX4_about 17 = .ok (.iconst (-1), 1) := by decide +kernel
theorem dX4_about_18 : decode cX4_about 18 = .ok (.ireturn, 1) := by decide +kernel
theorem dX4_about_19 : decode cX4_about 19 = .ok (.aload_n 0, 1) := by decide +kernel
theorem dX4_about_20 : decode cX4_about 20 = .ok (.getfield 34, 3) := by decide +kernel
theorem dX4_about_23 : decode cX4_about 23 = .ok (.iload_n 1, 1) := by decide +kernel
theorem dX4_about_24 : decode cX4_about 24 = .ok (.invokevirtual 137, 3) := by decide +kernel
theorem dX4_about_27 : decode cX4_about 27 = .ok (.checkcast 163, 3) := by decide +kernel
theorem dX4_about_30 : decode cX4_about 30 = .ok (.astore_n 3, 1) := by decide +kernel
theorem dX4_about_31 : decode cX4_about 31 = .ok (.iload_n 2, 1) := by decide +kernel
theorem dX4_about_32 : decode cX4_about 32 = .ok (.tableswitch 55 0 3 #[32, 37, 42, 47], 32) := by decide +kernel
theorem dX4_about_64 : decode cX4_about 64 = .ok (.aload_n 3, 1) := by decide +kernel
theorem dX4_about_65 : decode cX4_about 65 = .ok (.getfield 181, 3) := by decide +kernel
theorem dX4_about_68 : decode cX4_about 68 = .ok (.ireturn, 1) := by decide +kernel
theorem dX4_about_69 : decode cX4_about 69 = .ok (.aload_n 3, 1) := by decide +kernel
theorem dX4_about_70 : decode cX4_about 70 = .ok (.getfield 182, 3) := by decide +kernel
theorem dX4_about_73 : decode cX4_about 73 = .ok (.ireturn, 1) := by decide +kernel
theorem dX4_about_74 : decode cX4_about 74 = .ok (.aload_n 3, 1) := by decide +kernel
theorem dX4_about_75 : decode cX4_about 75 = .ok (.getfield 185, 3) := by decide +kernel
theorem dX4_about_78 : decode cX4_about 78 = .ok (.ireturn, 1) := by decide +kernel
theorem dX4_about_79 : decode cX4_about 79 = .ok (.aload_n 3, 1) := by decide +kernel
theorem dX4_about_80 : decode cX4_about 80 = .ok (.getfield 188, 3) := by decide +kernel
theorem dX4_about_83 : decode cX4_about 83 = .ok (.invokestatic 100, 3) := by decide +kernel
theorem dX4_about_86 : decode cX4_about 86 = .ok (.ireturn, 1) := by decide +kernel
theorem dX4_about_87 : decode cX4_about 87 = .ok (.iconst (-1), 1) := by decide +kernel
theorem dX4_about_88 : decode cX4_about 88 = .ok (.ireturn, 1) := by decide +kernel
theorem dX4_doubt_0 : decode cX4_doubt 0 = .ok (.iload_n 1, 1) := by decide +kernel
theorem dX4_doubt_1 : decode cX4_doubt 1 = .ok (.invokestatic 45, 3) := by decide +kernel
theorem dX4_doubt_4 : decode cX4_doubt 4 = .ok (.ifCond .ne 5, 3) := by decide +kernel
theorem dX4_doubt_7 : decode cX4_doubt 7 = .ok (.iconst (-1), 1) := by decide +kernel
theorem dX4_doubt_8 : decode cX4_doubt 8 = .ok (.ireturn, 1) := by decide +kernel
theorem dX4_doubt_9 : decode cX4_doubt 9 = .ok (.iconst 0, 1) := by decide +kernel
theorem dX4_doubt_10 : decode cX4_doubt 10 = .ok (.istore_n 3, 1) := by decide +kernel
theorem dX4_doubt_11 : decode cX4_doubt 11 = .ok (.iconst 0, 1) := by decide +kernel
theorem dX4_doubt_12 : decode cX4_doubt 12 = .ok (.istore 4, 2) := by decide +kernel
theorem dX4_doubt_14 : decode cX4_doubt 14 = .ok (.iload 4, 2) := by decide +kernel
theorem dX4_doubt_16 : decode cX4_doubt 16 = .ok (.aload_n 0, 1) := by decide +kernel
theorem dX4_doubt_17 : decode cX4_doubt 17 = .ok (.getfield 31, 3) := by decide +kernel
theorem dX4_doubt_20 : decode cX4_doubt 20 = .ok (.invokevirtual 53, 3) := by decide +kernel
theorem dX4_doubt_23 : decode cX4_doubt 23 = .ok (.if_icmp .ge 44, 3) := by decide +kernel
theorem dX4_doubt_26 : decode cX4_doubt 26 = .ok (.aload_n 0, 1) := by decide +kernel
theorem dX4_doubt_27 : decode cX4_doubt 27 = .ok (.getfield 31, 3) := by decide +kernel
theorem dX4_doubt_30 : decode cX4_doubt 30 = .ok (.iload 4, 2) := by decide +kernel
theorem dX4_doubt_32 : decode cX4_doubt 32 = .ok (.invokevirtual 137, 3) := by decide +kernel
theorem dX4_doubt_35 : decode cX4_doubt 35 = .ok (.checkcast 89, 3) := by decide +kernel
theorem dX4_doubt_38 : decode cX4_doubt 38 = .ok (.astore 5, 2) := by decide +kernel
theorem dX4_doubt_40 : decode cX4_doubt 40 = .ok (.aload 5, 2) := by decide +kernel
theorem dX4_doubt_42 : decode cX4_doubt 42 = .ok (.getfield 122, 3) := by decide +kernel
theorem dX4_doubt_45 : decode cX4_doubt 45 = .ok (.iload_n 1, 1) := by decide +kernel
theorem dX4_doubt_46 : decode cX4_doubt 46 = .ok (.invokestatic 174, 3) := by decide +kernel
theorem dX4_doubt_49 : decode cX4_doubt 49 = .ok (.ifCond .eq 12, 3) := by decide +kernel
theorem dX4_doubt_52 : decode cX4_doubt 52 = .ok (.iinc 3 1, 3) := by decide +kernel
theorem dX4_doubt_55 : decode cX4_doubt 55 = .ok (.aload 5, 2) := by decide +kernel
theorem dX4_doubt_57 : decode cX4_doubt 57 = .ok (.iload_n 2, 1) := by decide +kernel
theorem dX4_doubt_58 : decode cX4_doubt 58 = .ok (.invokevirtual 191, 3) := by decide +kernel
theorem dX4_doubt_61 : decode cX4_doubt 61 = .ok (.iinc 4 1, 3) := by decide +kernel
theorem dX4_doubt_64 : decode cX4_doubt 64 = .ok (.goto (-50), 3) := by decide +kernel
theorem dX4_doubt_67 : decode cX4_doubt 67 = .ok (.iload_n 3, 1) := by decide +kernel
theorem dX4_doubt_68 : decode cX4_doubt 68 = .ok (.ireturn, 1) := by decide +kernel
theorem dX4_hours_0 : decode cX4_hours 0 = .ok (.iload_n 1, 1) := by decide +kernel
theorem dX4_hours_1 : decode cX4_hours 1 = .ok (.ifCond .lt 8, 3) := by decide +kernel
theorem dX4_hours_4 : decode cX4_hours 4 = .ok (.iload_n 2, 1) := by decide +kernel
theorem dX4_hours_5 : decode cX4_hours 5 = .ok (.iload_n 1, 1) := by decide +kernel
theorem dX4_hours_6 : decode cX4_hours 6 = .ok (.if_icmp .ge 5, 3) := by decide +kernel
theorem dX4_hours_9 : decode cX4_hours 9 = .ok (.iconst (-1), 1) := by decide +kernel
theorem dX4_hours_10 : decode cX4_hours 10 = .ok (.ireturn, 1) := by decide +kernel
theorem dX4_hours_11 : decode cX4_hours 11 = .ok (.iconst 0, 1) := by decide +kernel
theorem dX4_hours_12 : decode cX4_hours 12 = .ok (.istore 4, 2) := by decide +kernel
theorem dX4_hours_14 : decode cX4_hours 14 = .ok (.iconst 0, 1) := by decide +kernel
theorem dX4_hours_15 : decode cX4_hours 15 = .ok (.istore 5, 2) := by decide +kernel
theorem dX4_hours_17 : decode cX4_hours 17 = .ok (.iload 5, 2) := by decide +kernel
theorem dX4_hours_19 : decode cX4_hours 19 = .ok (.aload_n 0, 1) := by decide +kernel
theorem dX4_hours_20 : decode cX4_hours 20 = .ok (.getfield 31, 3) := by decide +kernel
theorem dX4_hours_23 : decode cX4_hours 23 = .ok (.invokevirtual 53, 3) := by decide +kernel
theorem dX4_hours_26 : decode cX4_hours 26 = .ok (.if_icmp .ge 50, 3) := by decide +kernel
theorem dX4_hours_29 : decode cX4_hours 29 = .ok (.aload_n 0, 1) := by decide +kernel
theorem dX4_hours_30 : decode cX4_hours 30 = .ok (.getfield 31, 3) := by decide +kernel
theorem dX4_hours_33 : decode cX4_hours 33 = .ok (.iload 5, 2) := by decide +kernel
theorem dX4_hours_35 : decode cX4_hours 35 = .ok (.invokevirtual 137, 3) := by decide +kernel
theorem dX4_hours_38 : decode cX4_hours 38 = .ok (.checkcast 89, 3) := by decide +kernel
theorem dX4_hours_41 : decode cX4_hours 41 = .ok (.astore 6, 2) := by decide +kernel
theorem dX4_hours_43 : decode cX4_hours 43 = .ok (.aload 6, 2) := by decide +kernel
theorem dX4_hours_45 : decode cX4_hours 45 = .ok (.getfield 142, 3) := by decide +kernel
theorem dX4_hours_48 : decode cX4_hours 48 = .ok (.iload_n 2, 1) := by decide +kernel
theorem dX4_hours_49 : decode cX4_hours 49 = .ok (.if_icmp .gt 21, 3) := by decide +kernel
theorem dX4_hours_52 : decode cX4_hours 52 = .ok (.aload 6, 2) := by decide +kernel
theorem dX4_hours_54 : decode cX4_hours 54 = .ok (.getfield 145, 3) := by decide +kernel
theorem dX4_hours_57 : decode cX4_hours 57 = .ok (.iload_n 1, 1) := by decide +kernel
theorem dX4_hours_58 : decode cX4_hours 58 = .ok (.if_icmp .lt 12, 3) := by decide +kernel
theorem dX4_hours_61 : decode cX4_hours 61 = .ok (.iinc 4 1, 3) := by decide +kernel
theorem dX4_hours_64 : decode cX4_hours 64 = .ok (.aload 6, 2) := by decide +kernel
theorem dX4_hours_66 : decode cX4_hours 66 = .ok (.iload_n 3, 1) := by decide +kernel
theorem dX4_hours_67 : decode cX4_hours 67 = .ok (.invokevirtual 191, 3) := by decide +kernel
theorem dX4_hours_70 : decode cX4_hours 70 = .ok (.iinc 5 1, 3) := by decide +kernel
theorem dX4_hours_73 : decode cX4_hours 73 = .ok (.goto (-56), 3) := by decide +kernel
theorem dX4_hours_76 : decode cX4_hours 76 = .ok (.iload 4, 2) := by decide +kernel
theorem dX4_hours_78 : decode cX4_hours 78 = .ok (.ireturn, 1) := by decide +kernel
theorem dX4_clear_0 : decode cX4_clear 0 = .ok (.aload_n 0, 1) := by decide +kernel
theorem dX4_clear_1 : decode cX4_clear 1 = .ok (.iload_n 1, 1) := by decide +kernel
theorem dX4_clear_2 : decode cX4_clear 2 = .ok (.invokevirtual 134, 3) := by decide +kernel
theorem dX4_clear_5 : decode cX4_clear 5 = .ok (.ifCond .ne 5, 3) := by decide +kernel
theorem dX4_clear_8 : decode cX4_clear 8 = .ok (.iconst (-1), 1) := by decide +kernel
theorem dX4_clear_9 : decode cX4_clear 9 = .ok (.ireturn, 1) := by decide +kernel
theorem dX4_clear_10 : decode cX4_clear 10 = .ok (.aload_n 0, 1) := by decide +kernel
theorem dX4_clear_11 : decode cX4_clear 11 = .ok (.getfield 31, 3) := by decide +kernel
theorem dX4_clear_14 : decode cX4_clear 14 = .ok (.iload_n 1, 1) := by decide +kernel
theorem dX4_clear_15 : decode cX4_clear 15 = .ok (.invokevirtual 137, 3) := by decide +kernel
theorem dX4_clear_18 : decode cX4_clear 18 = .ok (.checkcast 89, 3) := by decide +kernel
theorem dX4_clear_21 : decode cX4_clear 21 = .ok (.astore_n 2, 1) := by decide +kernel
theorem dX4_clear_22 : decode cX4_clear 22 = .ok (.aload_n 2, 1) := by decide +kernel
theorem dX4_clear_23 : decode cX4_clear 23 = .ok (.getfield 151, 3) := by decide +kernel
theorem dX4_clear_26 : decode cX4_clear 26 = .ok (.ifCond .ne 6, 3) := by decide +kernel
theorem dX4_clear_29 : decode cX4_clear 29 = .ok (.bipush (-2), 2) := by decide +kernel
theorem dX4_clear_31 : decode cX4_clear 31 = .ok (.ireturn, 1) := by decide +kernel
theorem dX4_clear_32 : decode cX4_clear 32 = .ok (.aload_n 2, 1) := by decide +kernel
theorem dX4_clear_33 : decode cX4_clear 33 = .ok (.iconst 0, 1) := by decide +kernel
theorem dX4_clear_34 : decode cX4_clear 34 = .ok (.putfield 151, 3) := by decide +kernel
theorem dX4_clear_37 : decode cX4_clear 37 = .ok (.iconst 1, 1) := by decide +kernel
theorem dX4_clear_38 : decode cX4_clear 38 = .ok (.ireturn, 1) := by decide +kernel
theorem dX4_told_0 : decode cX4_told 0 = .ok (.iload_n 1, 1) := by decide +kernel
theorem dX4_told_1 : decode cX4_told 1 = .ok (.tableswitch 75 0 5 #[39, 47, 55, 60, 65, 70], 39) := by decide +kernel
theorem dX4_told_40 : decode cX4_told 40 = .ok (.aload_n 0, 1) := by decide +kernel
theorem dX4_told_41 : decode cX4_told 41 = .ok (.getfield 31, 3) := by decide +kernel
theorem dX4_told_44 : decode cX4_told 44 = .ok (.invokevirtual 53, 3) := by decide +kernel
theorem dX4_told_47 : decode cX4_told 47 = .ok (.ireturn, 1) := by decide +kernel
theorem dX4_told_48 : decode cX4_told 48 = .ok (.aload_n 0, 1) := by decide +kernel
theorem dX4_told_49 : decode cX4_told 49 = .ok (.getfield 34, 3) := by decide +kernel
theorem dX4_told_52 : decode cX4_told 52 = .ok (.invokevirtual 53, 3) := by decide +kernel
theorem dX4_told_55 : decode cX4_told 55 = .ok (.ireturn, 1) := by decide +kernel
theorem dX4_told_56 : decode cX4_told 56 = .ok (.aload_n 0, 1) := by decide +kernel
theorem dX4_told_57 : decode cX4_told 57 = .ok (.invokevirtual 195, 3) := by decide +kernel
theorem dX4_told_60 : decode cX4_told 60 = .ok (.ireturn, 1) := by decide +kernel
theorem dX4_told_61 : decode cX4_told 61 = .ok (.aload_n 0, 1) := by decide +kernel
theorem dX4_told_62 : decode cX4_told 62 = .ok (.invokevirtual 198, 3) := by decide +kernel
theorem dX4_told_65 : decode cX4_told 65 = .ok (.ireturn, 1) := by decide +kernel
theorem dX4_told_66 : decode cX4_told 66 = .ok (.aload_n 0, 1) := by decide +kernel
theorem dX4_told_67 : decode cX4_told 67 = .ok (.getfield 71, 3) := by decide +kernel
theorem dX4_told_70 : decode cX4_told 70 = .ok (.ireturn, 1) := by decide +kernel
theorem dX4_told_71 : decode cX4_told 71 = .ok (.aload_n 0, 1) := by decide +kernel
theorem dX4_told_72 : decode cX4_told 72 = .ok (.getfield 75, 3) := by decide +kernel
theorem dX4_told_75 : decode cX4_told 75 = .ok (.ireturn, 1) := by decide +kernel
theorem dX4_told_76 : decode cX4_told 76 = .ok (.sipush (-1000), 3) := by decide +kernel
theorem dX4_told_79 : decode cX4_told 79 = .ok (.ireturn, 1) := by decide +kernel
theorem dX4_trace_0 : decode cX4_trace 0 = .ok (.aload_n 0, 1) := by decide +kernel
theorem dX4_trace_1 : decode cX4_trace 1 = .ok (.getfield 201, 3) := by decide +kernel
theorem dX4_trace_4 : decode cX4_trace 4 = .ok (.lreturn, 1) := by decide +kernel
theorem dX4_passOneTick_0 : decode cX4_passOneTick 0 = .ok (.aload_n 0, 1) := by decide +kernel
theorem dX4_passOneTick_1 : decode cX4_passOneTick 1 = .ok (.invokevirtual 205, 3) := by decide +kernel
theorem dX4_passOneTick_4 : decode cX4_passOneTick 4 = .ok (.aload_n 0, 1) := by decide +kernel
theorem dX4_passOneTick_5 : decode cX4_passOneTick 5 = .ok (.invokevirtual 208, 3) := by decide +kernel
theorem dX4_passOneTick_8 : decode cX4_passOneTick 8 = .ok (.aload_n 0, 1) := by decide +kernel
theorem dX4_passOneTick_9 : decode cX4_passOneTick 9 = .ok (.invokevirtual 211, 3) := by decide +kernel
theorem dX4_passOneTick_12 : decode cX4_passOneTick 12 = .ok (.iconst 0, 1) := by decide +kernel
theorem dX4_passOneTick_13 : decode cX4_passOneTick 13 = .ok (.istore_n 1, 1) := by decide +kernel
theorem dX4_passOneTick_14 : decode cX4_passOneTick 14 = .ok (.iload_n 1, 1) := by decide +kernel
theorem dX4_passOneTick_15 : decode cX4_passOneTick 15 = .ok (.iconst 4, 1) := by decide +kernel
theorem dX4_passOneTick_16 : decode cX4_passOneTick 16 = .ok (.if_icmp .ge 19, 3) := by decide +kernel
theorem dX4_passOneTick_19 : decode cX4_passOneTick 19 = .ok (.aload_n 0, 1) := by decide +kernel
theorem dX4_passOneTick_20 : decode cX4_passOneTick 20 = .ok (.aload_n 0, 1) := by decide +kernel
theorem dX4_passOneTick_21 : decode cX4_passOneTick 21 = .ok (.getfield 27, 3) := by decide +kernel
theorem dX4_passOneTick_24 : decode cX4_passOneTick 24 = .ok (.iload_n 1, 1) := by decide +kernel
theorem dX4_passOneTick_25 : decode cX4_passOneTick 25 = .ok (.aaload, 1) := by decide +kernel
theorem dX4_passOneTick_26 : decode cX4_passOneTick 26 = .ok (.invokevirtual 214, 3) := by decide +kernel
theorem dX4_passOneTick_29 : decode cX4_passOneTick 29 = .ok (.iinc 1 1, 3) := by decide +kernel
theorem dX4_passOneTick_32 : decode cX4_passOneTick 32 = .ok (.goto (-18), 3) := by decide +kernel
theorem dX4_passOneTick_35 : decode cX4_passOneTick 35 = .ok (.aload_n 0, 1) := by decide +kernel
theorem dX4_passOneTick_36 : decode cX4_passOneTick 36 = .ok (.invokevirtual 218, 3) := by decide +kernel
theorem dX4_passOneTick_39 : decode cX4_passOneTick 39 = .ok (.aload_n 0, 1) := by decide +kernel
theorem dX4_passOneTick_40 : decode cX4_passOneTick 40 = .ok (.invokevirtual 221, 3) := by decide +kernel
theorem dX4_passOneTick_43 : decode cX4_passOneTick 43 = .ok (.aload_n 0, 1) := by decide +kernel
theorem dX4_passOneTick_44 : decode cX4_passOneTick 44 = .ok (.dup, 1) := by decide +kernel
theorem dX4_passOneTick_45 : decode cX4_passOneTick 45 = .ok (.getfield 71, 3) := by decide +kernel
theorem dX4_passOneTick_48 : decode cX4_passOneTick 48 = .ok (.iconst 1, 1) := by decide +kernel
theorem dX4_passOneTick_49 : decode cX4_passOneTick 49 = .ok (.iadd, 1) := by decide +kernel
theorem dX4_passOneTick_50 : decode cX4_passOneTick 50 = .ok (.putfield 71, 3) := by decide +kernel
theorem dX4_passOneTick_53 : decode cX4_passOneTick 53 = .ok (.return_, 1) := by decide +kernel
theorem dX4_moveLine_0 : decode cX4_moveLine 0 = .ok (.aload_n 0, 1) := by decide +kernel
theorem dX4_moveLine_1 : decode cX4_moveLine 1 = .ok (.getfield 21, 3) := by decide +kernel
theorem dX4_moveLine_4 : decode cX4_moveLine 4 = .ok (.bipush 15, 2) := by decide +kernel
theorem dX4_moveLine_6 : decode cX4_moveLine 6 = .ok (.aaload, 1) := by decide +kernel
theorem dX4_moveLine_7 : decode cX4_moveLine 7 = .ok (.astore_n 1, 1) := by decide +kernel
theorem dX4_moveLine_8 : decode cX4_moveLine 8 = .ok (.aload_n 1, 1) := by decide +kernel
theorem dX4_moveLine_9 : decode cX4_moveLine 9 = .ok (.ifnull 18, 3) := by decide +kernel
theorem dX4_moveLine_12 : decode cX4_moveLine 12 = .ok (.aload_n 0, 1) := by decide +kernel
theorem dX4_moveLine_13 : decode cX4_moveLine 13 = .ok (.getfield 39, 3) := by decide +kernel
theorem dX4_moveLine_16 : decode cX4_moveLine 16 = .ok (.aload_n 1, 1) := by decide +kernel
theorem dX4_moveLine_17 : decode cX4_moveLine 17 = .ok (.getfield 107, 3) := by decide +kernel
theorem dX4_moveLine_20 : decode cX4_moveLine 20 = .ok (.aaload, 1) := by decide +kernel
theorem dX4_moveLine_21 : decode cX4_moveLine 21 = .ok (.iconst 3, 1) := by decide +kernel
theorem dX4_moveLine_22 : decode cX4_moveLine 22 = .ok (.dup2, 1) := by decide +kernel
theorem dX4_moveLine_23 : decode cX4_moveLine 23 = .ok (.iaload, 1) := by decide +kernel
theorem dX4_moveLine_24 : decode cX4_moveLine 24 = .ok (.iconst 1, 1) := by decide +kernel
theorem dX4_moveLine_25 : decode cX4_moveLine 25 = .ok (.iadd, 1) := by decide +kernel
theorem dX4_moveLine_26 : decode cX4_moveLine 26 = .ok (.iastore, 1) := by decide +kernel
theorem dX4_moveLine_27 : decode cX4_moveLine 27 = .ok (.bipush 15, 2) := by decide +kernel
theorem dX4_moveLine_29 : decode cX4_moveLine 29 = .ok (.istore_n 2, 1) := by decide +kernel
theorem dX4_moveLine_30 : decode cX4_moveLine 30 = .ok (.iload_n 2, 1) := by decide +kernel
theorem dX4_moveLine_31 : decode cX4_moveLine 31 = .ok (.ifCond .le 23, 3) := by decide +kernel
theorem dX4_moveLine_34 : decode cX4_moveLine 34 = .ok (.aload_n 0, 1) := by decide +kernel
theorem dX4_moveLine_35 : decode cX4_moveLine 35 = .ok (.getfield 21, 3) := by decide +kernel
theorem dX4_moveLine_38 : decode cX4_moveLine 38 = .ok (.iload_n 2, 1) := by decide +kernel
theorem dX4_moveLine_39 : decode cX4_moveLine 39 = .ok (.aload_n 0, 1) := by decide +kernel
theorem dX4_moveLine_40 : decode cX4_moveLine 40 = .ok (.getfield 21, 3) := by decide +kernel
theorem dX4_moveLine_43 : decode cX4_moveLine 43 = .ok (.iload_n 2, 1) := by decide +kernel
theorem dX4_moveLine_44 : decode cX4_moveLine 44 = .ok (.iconst 1, 1) := by decide +kernel
theorem dX4_moveLine_45 : decode cX4_moveLine 45 = .ok (.isub, 1) := by decide +kernel
theorem dX4_moveLine_46 : decode cX4_moveLine 46 = .ok (.aaload, 1) := by decide +kernel
theorem dX4_moveLine_47 : decode cX4_moveLine 47 = .ok (.aastore, 1) := by decide +kernel
theorem dX4_moveLine_48 : decode cX4_moveLine 48 = .ok (.iinc 2 (-1), 3) := by decide +kernel
theorem dX4_moveLine_51 : decode cX4_moveLine 51 = .ok (.goto (-21), 3) := by decide +kernel
theorem dX4_moveLine_54 : decode cX4_moveLine 54 = .ok (.aload_n 0, 1) := by decide +kernel
theorem dX4_moveLine_55 : decode cX4_moveLine 55 = .ok (.getfield 21, 3) := by decide +kernel
theorem dX4_moveLine_58 : decode cX4_moveLine 58 = .ok (.iconst 0, 1) := by decide +kernel
theorem dX4_moveLine_59 : decode cX4_moveLine 59 = .ok (.aconst_null, 1) := by decide +kernel
theorem dX4_moveLine_60 : decode cX4_moveLine 60 = .ok (.aastore, 1) := by decide +kernel
theorem dX4_moveLine_61 : decode cX4_moveLine 61 = .ok (.return_, 1) := by decide +kernel
theorem dX4_weigh_0 : decode cX4_weigh 0 = .ok (.aload_n 0, 1) := by decide +kernel
theorem dX4_weigh_1 : decode cX4_weigh 1 = .ok (.getfield 21, 3) := by decide +kernel
theorem dX4_weigh_4 : decode cX4_weigh 4 = .ok (.iconst 2, 1) := by decide +kernel
theorem dX4_weigh_5 : decode cX4_weigh 5 = .ok (.aaload, 1) := by decide +kernel
theorem dX4_weigh_6 : decode cX4_weigh 6 = .ok (.astore_n 1, 1) := by decide +kernel
theorem dX4_weigh_7 : decode cX4_weigh 7 = .ok (.aload_n 1, 1) := by decide +kernel
theorem dX4_weigh_8 : decode cX4_weigh 8 = .ok (.ifnull 24, 3) := by decide +kernel
theorem dX4_weigh_11 : decode cX4_weigh 11 = .ok (.aload_n 1, 1) := by decide +kernel
theorem dX4_weigh_12 : decode cX4_weigh 12 = .ok (.aload_n 1, 1) := by decide +kernel
theorem dX4_weigh_13 : decode cX4_weigh 13 = .ok (.getfield 110, 3) := by decide +kernel
theorem dX4_weigh_16 : decode cX4_weigh 16 = .ok (.aload_n 0, 1) := by decide +kernel
theorem dX4_weigh_17 : decode cX4_weigh 17 = .ok (.getfield 75, 3) := by decide +kernel
theorem dX4_weigh_20 : decode cX4_weigh 20 = .ok (.iadd, 1) := by decide +kernel
theorem dX4_weigh_21 : decode cX4_weigh 21 = .ok (.putfield 113, 3) := by decide +kernel
theorem dX4_weigh_24 : decode cX4_weigh 24 = .ok (.aload_n 1, 1) := by decide +kernel
theorem dX4_weigh_25 : decode cX4_weigh 25 = .ok (.aload_n 0, 1) := by decide +kernel
theorem dX4_weigh_26 : decode cX4_weigh 26 = .ok (.getfield 71, 3) := by decide +kernel
theorem dX4_weigh_29 : decode cX4_weigh 29 = .ok (.putfield 224, 3) := by decide +kernel
theorem dX4_weigh_32 : decode cX4_weigh 32 = .ok (.return_, 1) := by decide +kernel
theorem dX4_look_0 : decode cX4_look 0 = .ok (.aload_n 0, 1) := by decide +kernel
theorem dX4_look_1 : decode cX4_look 1 = .ok (.getfield 21, 3) := by decide +kernel
theorem dX4_look_4 : decode cX4_look 4 = .ok (.iconst 5, 1) := by decide +kernel
theorem dX4_look_5 : decode cX4_look 5 = .ok (.aaload, 1) := by decide +kernel
theorem dX4_look_6 : decode cX4_look 6 = .ok (.astore_n 1, 1) := by decide +kernel
theorem dX4_look_7 : decode cX4_look 7 = .ok (.aload_n 1, 1) := by decide +kernel
theorem dX4_look_8 : decode cX4_look 8 = .ok (.ifnonnull 4, 3) := by decide +kernel
theorem dX4_look_11 : decode cX4_look 11 = .ok (.return_, 1) := by decide +kernel
theorem dX4_look_12 : decode cX4_look 12 = .ok (.aload_n 0, 1) := by decide +kernel
theorem dX4_look_13 : decode cX4_look 13 = .ok (.aload_n 1, 1) := by decide +kernel
theorem dX4_look_14 : decode cX4_look 14 = .ok (.invokevirtual 227, 3) := by decide +kernel
theorem dX4_look_17 : decode cX4_look 17 = .ok (.istore_n 2, 1) := by decide +kernel
theorem dX4_look_18 : decode cX4_look 18 = .ok (.iload_n 2, 1) := by decide +kernel
theorem dX4_look_19 : decode cX4_look 19 = .ok (.ifCond .ne 4, 3) := by decide +kernel
theorem dX4_look_22 : decode cX4_look 22 = .ok (.return_, 1) := by decide +kernel
theorem dX4_look_23 : decode cX4_look 23 = .ok (.aload_n 0, 1) := by decide +kernel
theorem dX4_look_24 : decode cX4_look 24 = .ok (.getfield 21, 3) := by decide +kernel
theorem dX4_look_27 : decode cX4_look 27 = .ok (.iconst 5, 1) := by decide +kernel
theorem dX4_look_28 : decode cX4_look 28 = .ok (.aconst_null, 1) := by decide +kernel
theorem dX4_look_29 : decode cX4_look 29 = .ok (.aastore, 1) := by decide +kernel
theorem dX4_look_30 : decode cX4_look 30 = .ok (.iload_n 2, 1) := by decide +kernel
theorem dX4_look_31 : decode cX4_look 31 = .ok (.iconst 3, 1) := by decide +kernel
theorem dX4_look_32 : decode cX4_look 32 = .ok (.if_icmp .ne 21, 3) := by decide +kernel
theorem dX4_look_35 : decode cX4_look 35 = .ok (.aload_n 0, 1) := by decide +kernel
theorem dX4_look_36 : decode cX4_look 36 = .ok (.getfield 39, 3) := by decide +kernel
theorem dX4_look_39 : decode cX4_look 39 = .ok (.aload_n 1, 1) := by decide +kernel
theorem dX4_look_40 : decode cX4_look 40 = .ok (.getfield 107, 3) := by decide +kernel
theorem dX4_look_43 : decode cX4_look 43 = .ok (.aaload, 1) := by decide +kernel
theorem dX4_look_44 : decode cX4_look 44 = .ok (.iconst 2, 1) := by decide +kernel
theorem dX4_look_45 : decode cX4_look 45 = .ok (.dup2, 1) := by decide +kernel
theorem dX4_look_46 : decode cX4_look 46 = .ok (.iaload, 1) := by decide +kernel
theorem dX4_look_47 : decode cX4_look 47 = .ok (.iconst 1, 1) := by decide +kernel
theorem dX4_look_48 : decode cX4_look 48 = .ok (.iadd, 1) := by decide +kernel
theorem dX4_look_49 : decode cX4_look 49 = .ok (.iastore, 1) := by decide +kernel
theorem dX4_look_50 : decode cX4_look 50 = .ok (.goto 43, 3) := by decide +kernel
theorem dX4_look_53 : decode cX4_look 53 = .ok (.iload_n 2, 1) := by decide +kernel
theorem dX4_look_54 : decode cX4_look 54 = .ok (.iconst 1, 1) := by decide +kernel
theorem dX4_look_55 : decode cX4_look 55 = .ok (.if_icmp .ne 23, 3) := by decide +kernel
theorem dX4_look_58 : decode cX4_look 58 = .ok (.aload_n 0, 1) := by decide +kernel
theorem dX4_look_59 : decode cX4_look 59 = .ok (.getfield 16, 3) := by decide +kernel
theorem dX4_look_62 : decode cX4_look 62 = .ok (.invokevirtual 53, 3) := by decide +kernel
theorem dX4_look_65 : decode cX4_look 65 = .ok (.bipush 30, 2) := by decide +kernel
theorem dX4_look_67 : decode cX4_look 67 = .ok (.if_icmp .ge 11, 3) := by decide +kernel
theorem dX4_look_70 : decode cX4_look 70 = .ok (.aload_n 0, 1) := by decide +kernel
theorem dX4_look_71 : decode cX4_look 71 = .ok (.aload_n 1, 1) := by decide +kernel
theorem dX4_look_72 : decode cX4_look 72 = .ok (.invokevirtual 231, 3) := by decide +kernel
theorem dX4_look_75 : decode cX4_look 75 = .ok (.goto 18, 3) := by decide +kernel
theorem dX4_look_78 : decode cX4_look 78 = .ok (.aload_n 0, 1) := by decide +kernel
theorem dX4_look_79 : decode cX4_look 79 = .ok (.getfield 39, 3) := by decide +kernel
theorem dX4_look_82 : decode cX4_look 82 = .ok (.aload_n 1, 1) := by decide +kernel
theorem dX4_look_83 : decode cX4_look 83 = .ok (.getfield 107, 3) := by decide +kernel
theorem dX4_look_86 : decode cX4_look 86 = .ok (.aaload, 1) := by decide +kernel
theorem dX4_look_87 : decode cX4_look 87 = .ok (.iconst 1, 1) := by decide +kernel
theorem dX4_look_88 : decode cX4_look 88 = .ok (.dup2, 1) := by decide +kernel
theorem dX4_look_89 : decode cX4_look 89 = .ok (.iaload, 1) := by decide +kernel
theorem dX4_look_90 : decode cX4_look 90 = .ok (.iconst 1, 1) := by decide +kernel
theorem dX4_look_91 : decode cX4_look 91 = .ok (.iadd, 1) := by decide +kernel
theorem dX4_look_92 : decode cX4_look 92 = .ok (.iastore, 1) := by decide +kernel
theorem dX4_look_93 : decode cX4_look 93 = .ok (.return_, 1) := by decide +kernel
theorem dX4_askCracked_0 : decode cX4_askCracked 0 = .ok (.aload_n 0, 1) := by decide +kernel
theorem dX4_askCracked_1 : decode cX4_askCracked 1 = .ok (.dup, 1) := by decide +kernel
theorem dX4_askCracked_2 : decode cX4_askCracked 2 = .ok (.getfield 201, 3) := by decide +kernel
theorem dX4_askCracked_5 : decode cX4_askCracked 5 = .ok (.ldc2_w 235, 3) := by decide +kernel
theorem dX4_askCracked_8 : decode cX4_askCracked 8 = .ok (.ladd, 1) := by decide +kernel
theorem dX4_askCracked_9 : decode cX4_askCracked 9 = .ok (.putfield 201, 3) := by decide +kernel
theorem dX4_askCracked_12 : decode cX4_askCracked 12 = .ok (.aload_n 1, 1) := by decide +kernel
theorem dX4_askCracked_13 : decode cX4_askCracked 13 = .ok (.getfield 237, 3) := by decide +kernel
theorem dX4_askCracked_16 : decode cX4_askCracked 16 = .ok (.invokestatic 240, 3) := by decide +kernel
theorem dX4_askCracked_19 : decode cX4_askCracked 19 = .ok (.iconst 2, 1) := by decide +kernel
theorem dX4_askCracked_20 : decode cX4_askCracked 20 = .ok (.if_icmp .lt 7, 3) := by decide +kernel
theorem dX4_askCracked_23 : decode cX4_askCracked 23 = .ok (.iconst 3, 1) := by decide +kernel
theorem dX4_askCracked_24 : decode cX4_askCracked 24 = .ok (.goto 8, 3) := by decide +kernel
theorem dX4_askCracked_27 : decode cX4_askCracked 27 = .ok (.aload_n 0, 1) := by decide +kernel
theorem dX4_askCracked_28 : decode cX4_askCracked 28 = .ok (.aload_n 1, 1) := by decide +kernel
theorem dX4_askCracked_29 : decode cX4_askCracked 29 = .ok (.invokevirtual 245, 3) := by decide +kernel
theorem dX4_askCracked_32 : decode cX4_askCracked 32 = .ok (.ireturn, 1) := by decide +kernel
theorem dX4_askBloody_0 : decode cX4_askBloody 0 = .ok (.aload_n 0, 1) := by decide +kernel
theorem dX4_askBloody_1 : decode cX4_askBloody 1 = .ok (.dup, 1) := by decide +kernel
theorem dX4_askBloody_2 : decode cX4_askBloody 2 = .ok (.getfield 201, 3) := by decide +kernel
theorem dX4_askBloody_5 : decode cX4_askBloody 5 = .ok (.ldc2_w 248, 3) := by decide +kernel
theorem dX4_askBloody_8 : decode cX4_askBloody 8 = .ok (.ladd, 1) := by decide +kernel
theorem dX4_askBloody_9 : decode cX4_askBloody 9 = .ok (.putfield 201, 3) := by decide +kernel
theorem dX4_askBloody_12 : decode cX4_askBloody 12 = .ok (.aload_n 1, 1) := by decide +kernel
theorem dX4_askBloody_13 : decode cX4_askBloody 13 = .ok (.getfield 250, 3) := by decide +kernel
theorem dX4_askBloody_16 : decode cX4_askBloody 16 = .ok (.iconst 5, 1) := by decide +kernel
theorem dX4_askBloody_17 : decode cX4_askBloody 17 = .ok (.if_icmp .lt 7, 3) := by decide +kernel
theorem dX4_askBloody_20 : decode cX4_askBloody 20 = .ok (.iconst 2, 1) := by decide +kernel
theorem dX4_askBloody_21 : decode cX4_askBloody 21 = .ok (.goto 8, 3) := by decide +kernel
theorem dX4_askBloody_24 : decode cX4_askBloody 24 = .ok (.aload_n 0, 1) := by decide +kernel
theorem dX4_askBloody_25 : decode cX4_askBloody 25 = .ok (.aload_n 1, 1) := by decide +kernel
theorem dX4_askBloody_26 : decode cX4_askBloody 26 = .ok (.invokevirtual 253, 3) := by decide +kernel
theorem dX4_askBloody_29 : decode cX4_askBloody 29 = .ok (.ireturn, 1) := by decide +kernel
theorem dX4_askDirty_0 : decode cX4_askDirty 0 = .ok (.aload_n 0, 1) := by decide +kernel
theorem dX4_askDirty_1 : decode cX4_askDirty 1 = .ok (.dup, 1) := by decide +kernel
theorem dX4_askDirty_2 : decode cX4_askDirty 2 = .ok (.getfield 201, 3) := by decide +kernel
theorem dX4_askDirty_5 : decode cX4_askDirty 5 = .ok (.ldc2_w 256, 3) := by decide +kernel
theorem dX4_askDirty_8 : decode cX4_askDirty 8 = .ok (.ladd, 1) := by decide +kernel
theorem dX4_askDirty_9 : decode cX4_askDirty 9 = .ok (.putfield 201, 3) := by decide +kernel
theorem dX4_askDirty_12 : decode cX4_askDirty 12 = .ok (.aload_n 1, 1) := by decide +kernel
theorem dX4_askDirty_13 : decode cX4_askDirty 13 = .ok (.getfield 258, 3) := by decide +kernel
theorem dX4_askDirty_16 : decode cX4_askDirty 16 = .ok (.iconst 1, 1) := by decide +kernel
theorem dX4_askDirty_17 : decode cX4_askDirty 17 = .ok (.if_icmp .le 7, 3) := by decide +kernel
theorem dX4_askDirty_20 : decode cX4_askDirty 20 = .ok (.iconst 1, 1) := by decide +kernel
theorem dX4_askDirty_21 : decode cX4_askDirty 21 = .ok (.goto 7, 3) := by decide +kernel
theorem dX4_askDirty_24 : decode cX4_askDirty 24 = .ok (.aload_n 0, 1) := by decide +kernel
theorem dX4_askDirty_25 : decode cX4_askDirty 25 = .ok (.invokevirtual 261, 3) := by decide +kernel
theorem dX4_askDirty_28 : decode cX4_askDirty 28 = .ok (.ireturn, 1) := by decide +kernel
theorem dX4_askSound_0 : decode cX4_askSound 0 = .ok (.aload_n 0, 1) := by decide +kernel
theorem dX4_askSound_1 : decode cX4_askSound 1 = .ok (.dup, 1) := by decide +kernel
theorem dX4_askSound_2 : decode cX4_askSound 2 = .ok (.getfield 201, 3) := by decide +kernel
theorem dX4_askSound_5 : decode cX4_askSound 5 = .ok (.lconst 1, 1) := by decide +kernel
theorem dX4_askSound_6 : decode cX4_askSound 6 = .ok (.ladd, 1) := by decide +kernel
theorem dX4_askSound_7 : decode cX4_askSound 7 = .ok (.putfield 201, 3) := by decide +kernel
theorem dX4_askSound_10 : decode cX4_askSound 10 = .ok (.iconst 0, 1) := by decide +kernel
theorem dX4_askSound_11 : decode cX4_askSound 11 = .ok (.ireturn, 1) := by decide +kernel
theorem dX4_startWash_0 : decode cX4_startWash 0 = .ok (.aload_n 1, 1) := by decide +kernel
theorem dX4_startWash_1 : decode cX4_startWash 1 = .ok (.iconst 0, 1) := by decide +kernel
theorem dX4_startWash_2 : decode cX4_startWash 2 = .ok (.putfield 258, 3) := by decide +kernel
theorem dX4_startWash_5 : decode cX4_startWash 5 = .ok (.aload_n 1, 1) := by decide +kernel
theorem dX4_startWash_6 : decode cX4_startWash 6 = .ok (.aload_n 0, 1) := by decide +kernel
theorem dX4_startWash_7 : decode cX4_startWash 7 = .ok (.getfield 71, 3) := by decide +kernel
theorem dX4_startWash_10 : decode cX4_startWash 10 = .ok (.putfield 264, 3) := by decide +kernel
theorem dX4_startWash_13 : decode cX4_startWash 13 = .ok (.aload_n 0, 1) := by decide +kernel
theorem dX4_startWash_14 : decode cX4_startWash 14 = .ok (.getfield 16, 3) := by decide +kernel
theorem dX4_startWash_17 : decode cX4_startWash 17 = .ok (.aload_n 1, 1) := by decide +kernel
theorem dX4_startWash_18 : decode cX4_startWash 18 = .ok (.invokevirtual 64, 3) := by decide +kernel
theorem dX4_startWash_21 : decode cX4_startWash 21 = .ok (.pop, 1) := by decide +kernel
theorem dX4_startWash_22 : decode cX4_startWash 22 = .ok (.aload_n 0, 1) := by decide +kernel
theorem dX4_startWash_23 : decode cX4_startWash 23 = .ok (.dup, 1) := by decide +kernel
theorem dX4_startWash_24 : decode cX4_startWash 24 = .ok (.getfield 131, 3) := by decide +kernel
theorem dX4_startWash_27 : decode cX4_startWash 27 = .ok (.iconst 1, 1) := by decide +kernel
theorem dX4_startWash_28 : decode cX4_startWash 28 = .ok (.iadd, 1) := by decide +kernel
theorem dX4_startWash_29 : decode cX4_startWash 29 = .ok (.putfield 131, 3) := by decide +kernel
theorem dX4_startWash_32 : decode cX4_startWash 32 = .ok (.return_, 1) := by decide +kernel
theorem dX4_letTake_0 : decode cX4_letTake 0 = .ok (.aload_n 1, 1) := by decide +kernel
theorem dX4_letTake_1 : decode cX4_letTake 1 = .ok (.getfield 119, 3) := by decide +kernel
theorem dX4_letTake_4 : decode cX4_letTake 4 = .ok (.ifCond .le 14, 3) := by decide +kernel
theorem dX4_letTake_7 : decode cX4_letTake 7 = .ok (.aload_n 1, 1) := by decide +kernel
theorem dX4_letTake_8 : decode cX4_letTake 8 = .ok (.dup, 1) := by decide +kernel
theorem dX4_letTake_9 : decode cX4_letTake 9 = .ok (.getfield 119, 3) := by decide +kernel
theorem dX4_letTake_12 : decode cX4_letTake 12 = .ok (.iconst 1, 1) := by decide +kernel
theorem dX4_letTake_13 : decode cX4_letTake 13 = .ok (.isub, 1) := by decide +kernel
theorem dX4_letTake_14 : decode cX4_letTake 14 = .ok (.putfield 119, 3) := by decide +kernel
theorem dX4_letTake_17 : decode cX4_letTake 17 = .ok (.return_, 1) := by decide +kernel
theorem dX4_letTake_18 : decode cX4_letTake 18 = .ok (.aload_n 0, 1) := by decide +kernel
theorem dX4_letTake_19 : decode cX4_letTake 19 = .ok (.getfield 21, 3) := by decide +kernel
theorem dX4_letTake_22 : decode cX4_letTake 22 = .ok (.aload_n 1, 1) := by decide +kernel
theorem dX4_letTake_23 : decode cX4_letTake 23 = .ok (.getfield 267, 3) := by decide +kernel
theorem dX4_letTake_26 : decode cX4_letTake 26 = .ok (.aaload, 1) := by decide +kernel
theorem dX4_letTake_27 : decode cX4_letTake 27 = .ok (.astore_n 2, 1) := by decide +kernel
theorem dX4_letTake_28 : decode cX4_letTake 28 = .ok (.aload_n 2, 1) := by decide +kernel
theorem dX4_letTake_29 : decode cX4_letTake 29 = .ok (.ifnull 12, 3) := by decide +kernel
theorem dX4_letTake_32 : decode cX4_letTake 32 = .ok (.aload_n 0, 1) := by decide +kernel
theorem dX4_letTake_33 : decode cX4_letTake 33 = .ok (.aload_n 1, 1) := by decide +kernel
theorem dX4_letTake_34 : decode cX4_letTake 34 = .ok (.aload_n 2, 1) := by decide +kernel
theorem dX4_letTake_35 : decode cX4_letTake 35 = .ok (.invokevirtual 270, 3) := by decide +kernel
theorem dX4_letTake_38 : decode cX4_letTake 38 = .ok (.ifCond .ne 4, 3) := by decide +kernel
theorem dX4_letTake_41 : decode cX4_letTake 41 = .ok (.return_, 1) := by decide +kernel
theorem dX4_letTake_42 : decode cX4_letTake 42 = .ok (.aload_n 0, 1) := by decide +kernel
theorem dX4_letTake_43 : decode cX4_letTake 43 = .ok (.getfield 21, 3) := by decide +kernel
theorem dX4_letTake_46 : decode cX4_letTake 46 = .ok (.aload_n 1, 1) := by decide +kernel
theorem dX4_letTake_47 : decode cX4_letTake 47 = .ok (.getfield 267, 3) := by decide +kernel
theorem dX4_letTake_50 : decode cX4_letTake 50 = .ok (.aconst_null, 1) := by decide +kernel
theorem dX4_letTake_51 : decode cX4_letTake 51 = .ok (.aastore, 1) := by decide +kernel
theorem dX4_letTake_52 : decode cX4_letTake 52 = .ok (.aload_n 1, 1) := by decide +kernel
theorem dX4_letTake_53 : decode cX4_letTake 53 = .ok (.getfield 84, 3) := by decide +kernel
theorem dX4_letTake_56 : decode cX4_letTake 56 = .ok (.aload_n 2, 1) := by decide +kernel
theorem dX4_letTake_57 : decode cX4_letTake 57 = .ok (.invokevirtual 274, 3) := by decide +kernel
theorem dX4_letTake_60 : decode cX4_letTake 60 = .ok (.aload_n 1, 1) := by decide +kernel
theorem dX4_letTake_61 : decode cX4_letTake 61 = .ok (.iconst 2, 1) := by decide +kernel
theorem dX4_letTake_62 : decode cX4_letTake 62 = .ok (.putfield 119, 3) := by decide +kernel
theorem dX4_letTake_65 : decode cX4_letTake 65 = .ok (.aload_n 0, 1) := by decide +kernel
theorem dX4_letTake_66 : decode cX4_letTake 66 = .ok (.getfield 39, 3) := by decide +kernel
theorem dX4_letTake_69 : decode cX4_letTake 69 = .ok (.aload_n 2, 1) := by decide +kernel
theorem dX4_letTake_70 : decode cX4_letTake 70 = .ok (.getfield 107, 3) := by decide +kernel
theorem dX4_letTake_73 : decode cX4_letTake 73 = .ok (.aaload, 1) := by decide +kernel
theorem dX4_letTake_74 : decode cX4_letTake 74 = .ok (.iconst 4, 1) := by decide +kernel
theorem dX4_letTake_75 : decode cX4_letTake 75 = .ok (.dup2, 1) := by decide +kernel
theorem dX4_letTake_76 : decode cX4_letTake 76 = .ok (.iaload, 1) := by decide +kernel
theorem dX4_letTake_77 : decode cX4_letTake 77 = .ok (.iconst 1, 1) := by decide +kernel
theorem dX4_letTake_78 : decode cX4_letTake 78 = .ok (.iadd, 1) := by decide +kernel
theorem dX4_letTake_79 : decode cX4_letTake 79 = .ok (.iastore, 1) := by decide +kernel
theorem dX4_letTake_80 : decode cX4_letTake 80 = .ok (.aload_n 1, 1) := by decide +kernel
theorem dX4_letTake_81 : decode cX4_letTake 81 = .ok (.getfield 84, 3) := by decide +kernel
theorem dX4_letTake_84 : decode cX4_letTake 84 = .ok (.getfield 88, 3) := by decide +kernel
theorem dX4_letTake_87 : decode cX4_letTake 87 = .ok (.bipush 6, 2) := by decide +kernel
theorem dX4_letTake_89 : decode cX4_letTake 89 = .ok (.if_icmp .lt 8, 3) := by decide +kernel
theorem dX4_letTake_92 : decode cX4_letTake 92 = .ok (.aload_n 0, 1) := by decide +kernel
theorem dX4_letTake_93 : decode cX4_letTake 93 = .ok (.aload_n 1, 1) := by decide +kernel
theorem dX4_letTake_94 : decode cX4_letTake 94 = .ok (.invokevirtual 277, 3) := by decide +kernel
theorem dX4_letTake_97 : decode cX4_letTake 97 = .ok (.return_, 1) := by decide +kernel
theorem dX4_takes_0 : decode cX4_takes 0 = .ok (.aload_n 1, 1) := by decide +kernel
theorem dX4_takes_1 : decode cX4_takes 1 = .ok (.getfield 84, 3) := by decide +kernel
theorem dX4_takes_4 : decode cX4_takes 4 = .ok (.getfield 88, 3) := by decide +kernel
theorem dX4_takes_7 : decode cX4_takes 7 = .ok (.iconst 5, 1) := by decide +kernel
theorem dX4_takes_8 : decode cX4_takes 8 = .ok (.if_icmp .lt 15, 3) := by decide +kernel
theorem dX4_takes_11 : decode cX4_takes 11 = .ok (.aload_n 0, 1) := by decide +kernel
theorem dX4_takes_12 : decode cX4_takes 12 = .ok (.getfield 31, 3) := by decide +kernel
theorem dX4_takes_15 : decode cX4_takes 15 = .ok (.invokevirtual 53, 3) := by decide +kernel
theorem dX4_takes_18 : decode cX4_takes 18 = .ok (.bipush 60, 2) := by decide +kernel
theorem dX4_takes_20 : decode cX4_takes 20 = .ok (.if_icmp .ge 7, 3) := by decide +kernel
theorem dX4_takes_23 : decode cX4_takes 23 = .ok (.iconst 1, 1) := by decide +kernel
theorem dX4_takes_24 : decode cX4_takes 24 = .ok (.goto 4, 3) := by decide +kernel
theorem dX4_takes_27 : decode cX4_takes 27 = .ok (.iconst 0, 1) := by decide +kernel
theorem dX4_takes_28 : decode cX4_takes 28 = .ok (.istore_n 3, 1) := by decide +kernel
theorem dX4_takes_29 : decode cX4_takes 29 = .ok (.aload_n 1, 1) := by decide +kernel
theorem dX4_takes_30 : decode cX4_takes 30 = .ok (.getfield 96, 3) := by decide +kernel
theorem dX4_takes_33 : decode cX4_takes 33 = .ok (.ifCond .eq 25, 3) := by decide +kernel
theorem dX4_takes_36 : decode cX4_takes 36 = .ok (.iload_n 3, 1) := by decide +kernel
theorem dX4_takes_37 : decode cX4_takes 37 = .ok (.ifCond .eq 21, 3) := by decide +kernel
theorem dX4_takes_40 : decode cX4_takes 40 = .ok (.aload_n 2, 1) := by decide +kernel
theorem dX4_takes_41 : decode cX4_takes 41 = .ok (.getfield 113, 3) := by decide +kernel
theorem dX4_takes_44 : decode cX4_takes 44 = .ok (.invokestatic 116, 3) := by decide +kernel
theorem dX4_takes_47 : decode cX4_takes 47 = .ok (.aload_n 1, 1) := by decide +kernel
theorem dX4_takes_48 : decode cX4_takes 48 = .ok (.getfield 93, 3) := by decide +kernel
theorem dX4_takes_51 : decode cX4_takes 51 = .ok (.if_icmp .ne 7, 3) := by decide +kernel
theorem dX4_takes_54 : decode cX4_takes 54 = .ok (.iconst 1, 1) := by decide +kernel
theorem dX4_takes_55 : decode cX4_takes 55 = .ok (.goto 4, 3) := by decide +kernel
theorem dX4_takes_58 : decode cX4_takes 58 = .ok (.iconst 0, 1) := by decide +kernel
theorem dX4_takes_59 : decode cX4_takes 59 = .ok (.ireturn, 1) := by decide +kernel
theorem dX4_closeTray_0 : decode cX4_closeTray 0 = .ok (.aload_n 1, 1) := by decide +kernel
theorem dX4_closeTray_1 : decode cX4_closeTray 1 = .ok (.getfield 84, 3) := by decide +kernel
theorem dX4_closeTray_4 : decode cX4_closeTray 4 = .ok (.aload_n 1, 1) := by decide +kernel
theorem dX4_closeTray_5 : decode cX4_closeTray 5 = .ok (.getfield 93, 3) := by decide +kernel
theorem dX4_closeTray_8 : decode cX4_closeTray 8 = .ok (.putfield 141, 3) := by decide +kernel
theorem dX4_closeTray_11 : decode cX4_closeTray 11 = .ok (.aload_n 0, 1) := by decide +kernel
theorem dX4_closeTray_12 : decode cX4_closeTray 12 = .ok (.getfield 31, 3) := by decide +kernel
theorem dX4_closeTray_15 : decode cX4_closeTray 15 = .ok (.aload_n 1, 1) := by decide +kernel
theorem dX4_closeTray_16 : decode cX4_closeTray 16 = .ok (.getfield 84, 3) := by decide +kernel
theorem dX4_closeTray_19 : decode cX4_closeTray 19 = .ok (.invokevirtual 64, 3) := by decide +kernel
theorem dX4_closeTray_22 : decode cX4_closeTray 22 = .ok (.pop, 1) := by decide +kernel
theorem dX4_closeTray_23 : decode cX4_closeTray 23 = .ok (.aload_n 1, 1) := by decide +kernel
theorem dX4_closeTray_24 : decode cX4_closeTray 24 = .ok (.new 89, 3) := by decide +kernel
theorem dX4_closeTray_27 : decode cX4_closeTray 27 = .ok (.dup, 1) := by decide +kernel
theorem dX4_closeTray_28 : decode cX4_closeTray 28 = .ok (.invokespecial 280, 3) := by decide +kernel
theorem dX4_closeTray_31 : decode cX4_closeTray 31 = .ok (.putfield 84, 3) := by decide +kernel
theorem dX4_closeTray_34 : decode cX4_closeTray 34 = .ok (.return_, 1) := by decide +kernel
theorem dX4_bringWashed_0 : decode cX4_bringWashed 0 = .ok (.iconst 0, 1) := by decide +kernel
theorem dX4_bringWashed_1 : decode cX4_bringWashed 1 = .ok (.istore_n 1, 1) := by decide +kernel
theorem dX4_bringWashed_2 : decode cX4_bringWashed 2 = .ok (.iload_n 1, 1) := by decide +kernel
theorem dX4_bringWashed_3 : decode cX4_bringWashed 3 = .ok (.bipush 30, 2) := by decide +kernel
theorem dX4_bringWashed_5 : decode cX4_bringWashed 5 = .ok (.if_icmp .ge 76, 3) := by decide +kernel
theorem dX4_bringWashed_8 : decode cX4_bringWashed 8 = .ok (.aload_n 0, 1) := by decide +kernel
theorem dX4_bringWashed_9 : decode cX4_bringWashed 9 = .ok (.getfield 16, 3) := by decide +kernel
theorem dX4_bringWashed_12 : decode cX4_bringWashed 12 = .ok (.invokevirtual 281, 3) := by decide +kernel
theorem dX4_bringWashed_15 : decode cX4_bringWashed 15 = .ok (.ifCond .ne 15, 3) := by decide +kernel
theorem dX4_bringWashed_18 : decode cX4_bringWashed 18 = .ok (.aload_n 0, 1) := by decide +kernel
theorem dX4_bringWashed_19 : decode cX4_bringWashed 19 = .ok (.getfield 10, 3) := by decide +kernel
theorem dX4_bringWashed_22 : decode cX4_bringWashed 22 = .ok (.invokevirtual 53, 3) := by decide +kernel
theorem dX4_bringWashed_25 : decode cX4_bringWashed 25 = .ok (.bipush 20, 2) := by decide +kernel
theorem dX4_bringWashed_27 : decode cX4_bringWashed 27 = .ok (.if_icmp .lt 4, 3) := by decide +kernel
theorem dX4_bringWashed_30 : decode cX4_bringWashed 30 = .ok (.return_, 1) := by decide +kernel
theorem dX4_bringWashed_31 : decode cX4_bringWashed 31 = .ok (.aload_n 0, 1) := by decide +kernel
theorem dX4_bringWashed_32 : decode cX4_bringWashed 32 = .ok (.getfield 71, 3) := by decide +kernel
theorem dX4_bringWashed_35 : decode cX4_bringWashed 35 = .ok (.aload_n 0, 1) := by decide +kernel
theorem dX4_bringWashed_36 : decode cX4_bringWashed 36 = .ok (.getfield 16, 3) := by decide +kernel
theorem dX4_bringWashed_39 : decode cX4_bringWashed 39 = .ok (.iconst 0, 1) := by decide +kernel
theorem dX4_bringWashed_40 : decode cX4_bringWashed 40 = .ok (.invokevirtual 137, 3) := by decide +kernel
theorem dX4_bringWashed_43 : decode cX4_bringWashed 43 = .ok (.checkcast 19, 3) := by decide +kernel
theorem dX4_bringWashed_46 : decode cX4_bringWashed 46 = .ok (.getfield 264, 3) := by decide +kernel
theorem dX4_bringWashed_49 : decode cX4_bringWashed 49 = .ok (.isub, 1) := by decide +kernel
theorem dX4_bringWashed_50 : decode cX4_bringWashed 50 = .ok (.bipush 8, 2) := by decide +kernel
theorem dX4_bringWashed_52 : decode cX4_bringWashed 52 = .ok (.if_icmp .ge 4, 3) := by decide +kernel
theorem dX4_bringWashed_55 : decode cX4_bringWashed 55 = .ok (.return_, 1) := by decide +kernel
theorem dX4_bringWashed_56 : decode cX4_bringWashed 56 = .ok (.aload_n 0, 1) := by decide +kernel
theorem dX4_bringWashed_57 : decode cX4_bringWashed 57 = .ok (.getfield 10, 3) := by decide +kernel
theorem dX4_bringWashed_60 : decode cX4_bringWashed 60 = .ok (.aload_n 0, 1) := by decide +kernel
theorem dX4_bringWashed_61 : decode cX4_bringWashed 61 = .ok (.getfield 16, 3) := by decide +kernel
theorem dX4_bringWashed_64 : decode cX4_bringWashed 64 = .ok (.iconst 0, 1) := by decide +kernel
theorem dX4_bringWashed_65 : decode cX4_bringWashed 65 = .ok (.invokevirtual 285, 3) := by decide +kernel
theorem dX4_bringWashed_68 : decode cX4_bringWashed 68 = .ok (.checkcast 19, 3) := by decide +kernel
theorem dX4_bringWashed_71 : decode cX4_bringWashed 71 = .ok (.invokevirtual 64, 3) := by decide +kernel
theorem dX4_bringWashed_74 : decode cX4_bringWashed 74 = .ok (.pop, 1) := by decide +kernel
theorem dX4_bringWashed_75 : decode cX4_bringWashed 75 = .ok (.iinc 1 1, 3) := by decide +kernel
theorem dX4_bringWashed_78 : decode cX4_bringWashed 78 = .ok (.goto (-76), 3) := by decide +kernel
theorem dX4_bringWashed_81 : decode cX4_bringWashed 81 = .ok (.return_, 1) := by decide +kernel
theorem dX4_feedLine_0 : decode cX4_feedLine 0 = .ok (.aload_n 0, 1) := by decide +kernel
theorem dX4_feedLine_1 : decode cX4_feedLine 1 = .ok (.getfield 21, 3) := by decide +kernel
theorem dX4_feedLine_4 : decode cX4_feedLine 4 = .ok (.iconst 0, 1) := by decide +kernel
theorem dX4_feedLine_5 : decode cX4_feedLine 5 = .ok (.aaload, 1) := by decide +kernel
theorem dX4_feedLine_6 : decode cX4_feedLine 6 = .ok (.ifnonnull 30, 3) := by decide +kernel
theorem dX4_feedLine_9 : decode cX4_feedLine 9 = .ok (.aload_n 0, 1) := by decide +kernel
theorem dX4_feedLine_10 : decode cX4_feedLine 10 = .ok (.getfield 10, 3) := by decide +kernel
theorem dX4_feedLine_13 : decode cX4_feedLine 13 = .ok (.invokevirtual 281, 3) := by decide +kernel
theorem dX4_feedLine_16 : decode cX4_feedLine 16 = .ok (.ifCond .ne 20, 3) := by decide +kernel
theorem dX4_feedLine_19 : decode cX4_feedLine 19 = .ok (.aload_n 0, 1) := by decide +kernel
theorem dX4_feedLine_20 : decode cX4_feedLine 20 = .ok (.getfield 21, 3) := by decide +kernel
theorem dX4_feedLine_23 : decode cX4_feedLine 23 = .ok (.iconst 0, 1) := by decide +kernel
theorem dX4_feedLine_24 : decode cX4_feedLine 24 = .ok (.aload_n 0, 1) := by decide +kernel
theorem dX4_feedLine_25 : decode cX4_feedLine 25 = .ok (.getfield 10, 3) := by decide +kernel
theorem dX4_feedLine_28 : decode cX4_feedLine 28 = .ok (.iconst 0, 1) := by decide +kernel
theorem dX4_feedLine_29 : decode cX4_feedLine 29 = .ok (.invokevirtual 285, 3) := by decide +kernel
theorem dX4_feedLine_32 : decode cX4_feedLine 32 = .ok (.checkcast 19, 3) := by decide +kernel
theorem dX4_feedLine_35 : decode cX4_feedLine 35 = .ok (.aastore, 1) := by decide +kernel
theorem dX4_feedLine_36 : decode cX4_feedLine 36 = .ok (.return_, 1) := by decide +kernel
theorem dX4_bestSet_0 : decode cX4_bestSet 0 = .ok (.aload_n 0, 1) := by decide +kernel
theorem dX4_bestSet_1 : decode cX4_bestSet 1 = .ok (.invokevirtual 288, 3) := by decide +kernel
theorem dX4_bestSet_4 : decode cX4_bestSet 4 = .ok (.astore_n 1, 1) := by decide +kernel
theorem dX4_bestSet_5 : decode cX4_bestSet 5 = .ok (.iconst 0, 1) := by decide +kernel
theorem dX4_bestSet_6 : decode cX4_bestSet 6 = .ok (.istore_n 2, 1) := by decide +kernel
theorem dX4_bestSet_7 : decode cX4_bestSet 7 = .ok (.iconst 0, 1) := by decide +kernel
theorem dX4_bestSet_8 : decode cX4_bestSet 8 = .ok (.istore_n 3, 1) := by decide +kernel
theorem dX4_bestSet_9 : decode cX4_bestSet 9 = .ok (.iconst 1, 1) := by decide +kernel
theorem dX4_bestSet_10 : decode cX4_bestSet 10 = .ok (.aload_n 0, 1) := by decide +kernel
theorem dX4_bestSet_11 : decode cX4_bestSet 11 = .ok (.getfield 34, 3) := by decide +kernel
theorem dX4_bestSet_14 : decode cX4_bestSet 14 = .ok (.invokevirtual 53, 3) := by decide +kernel
theorem dX4_bestSet_17 : decode cX4_bestSet 17 = .ok (.ishl, 1) := by decide +kernel
theorem dX4_bestSet_18 : decode cX4_bestSet 18 = .ok (.istore 4, 2) := by decide +kernel
theorem dX4_bestSet_20 : decode cX4_bestSet 20 = .ok (.iconst 1, 1) := by decide +kernel
theorem dX4_bestSet_21 : decode cX4_bestSet 21 = .ok (.istore 5, 2) := by decide +kernel
theorem dX4_bestSet_23 : decode cX4_bestSet 23 = .ok (.iload 5, 2) := by decide +kernel
theorem dX4_bestSet_25 : decode cX4_bestSet 25 = .ok (.iload 4, 2) := by decide +kernel
theorem dX4_bestSet_27 : decode cX4_bestSet 27 = .ok (.if_icmp .ge 39, 3) := by decide +kernel
theorem dX4_bestSet_30 : decode cX4_bestSet 30 = .ok (.aload_n 0, 1) := by decide +kernel
theorem dX4_bestSet_31 : decode cX4_bestSet 31 = .ok (.iload 5, 2) := by decide +kernel
theorem dX4_bestSet_33 : decode cX4_bestSet 33 = .ok (.invokevirtual 171, 3) := by decide +kernel
theorem dX4_bestSet_36 : decode cX4_bestSet 36 = .ok (.istore 6, 2) := by decide +kernel
theorem dX4_bestSet_38 : decode cX4_bestSet 38 = .ok (.iload 6, 2) := by decide +kernel
theorem dX4_bestSet_40 : decode cX4_bestSet 40 = .ok (.iload_n 3, 1) := by decide +kernel
theorem dX4_bestSet_41 : decode cX4_bestSet 41 = .ok (.if_icmp .le 19, 3) := by decide +kernel
theorem dX4_bestSet_44 : decode cX4_bestSet 44 = .ok (.aload_n 0, 1) := by decide +kernel
theorem dX4_bestSet_45 : decode cX4_bestSet 45 = .ok (.iload 5, 2) := by decide +kernel
theorem dX4_bestSet_47 : decode cX4_bestSet 47 = .ok (.aload_n 1, 1) := by decide +kernel
theorem dX4_bestSet_48 : decode cX4_bestSet 48 = .ok (.invokevirtual 292, 3) := by decide +kernel
theorem dX4_bestSet_51 : decode cX4_bestSet 51 = .ok (.ifCond .eq 9, 3) := by decide +kernel
theorem dX4_bestSet_54 : decode cX4_bestSet 54 = .ok (.iload 5, 2) := by decide +kernel
theorem dX4_bestSet_56 : decode cX4_bestSet 56 = .ok (.istore_n 2, 1) := by decide +kernel
theorem dX4_bestSet_57 : decode cX4_bestSet 57 = .ok (.iload 6, 2) := by decide +kernel
theorem dX4_bestSet_59 : decode cX4_bestSet 59 = .ok (.istore_n 3, 1) := by decide +kernel
theorem dX4_bestSet_60 : decode cX4_bestSet 60 = .ok (.iinc 5 1, 3) := by decide +kernel
theorem dX4_bestSet_63 : decode cX4_bestSet 63 = .ok (.goto (-40), 3) := by decide +kernel
theorem dX4_bestSet_66 : decode cX4_bestSet 66 = .ok (.iload_n 2, 1) := by decide +kernel
theorem dX4_bestSet_67 : decode cX4_bestSet 67 = .ok (.ireturn, 1) := by decide +kernel
theorem dX4_freeByGrade_0 : decode cX4_freeByGrade 0 = .ok (.bipush 6, 2) := by decide +kernel
theorem dX4_freeByGrade_2 : decode cX4_freeByGrade 2 = .ok (.newarray .int, 2) := by decide +kernel
theorem dX4_freeByGrade_4 : decode cX4_freeByGrade 4 = .ok (.astore_n 1, 1) := by decide +kernel
theorem dX4_freeByGrade_5 : decode cX4_freeByGrade 5 = .ok (.iconst 0, 1) := by decide +kernel
theorem dX4_freeByGrade_6 : decode cX4_freeByGrade 6 = .ok (.istore_n 2, 1) := by decide +kernel
theorem dX4_freeByGrade_7 : decode cX4_freeByGrade 7 = .ok (.iload_n 2, 1) := by decide +kernel
theorem dX4_freeByGrade_8 : decode cX4_freeByGrade 8 = .ok (.bipush 6, 2) := by decide +kernel
theorem dX4_freeByGrade_10 : decode cX4_freeByGrade 10 = .ok (.if_icmp .ge 17, 3) := by decide +kernel
theorem dX4_freeByGrade_13 : decode cX4_freeByGrade 13 = .ok (.aload_n 1, 1) := by decide +kernel
theorem dX4_freeByGrade_14 : decode cX4_freeByGrade 14 = .ok (.iload_n 2, 1) := by decide +kernel
theorem dX4_freeByGrade_15 : decode cX4_freeByGrade 15 = .ok (.aload_n 0, 1) := by decide +kernel
theorem dX4_freeByGrade_16 : decode cX4_freeByGrade 16 = .ok (.iload_n 2, 1) := by decide +kernel
theorem dX4_freeByGrade_17 : decode cX4_freeByGrade 17 = .ok (.invokevirtual 296, 3) := by decide +kernel
theorem dX4_freeByGrade_20 : decode cX4_freeByGrade 20 = .ok (.iastore, 1) := by decide +kernel
theorem dX4_freeByGrade_21 : decode cX4_freeByGrade 21 = .ok (.iinc 2 1, 3) := by decide +kernel
theorem dX4_freeByGrade_24 : decode cX4_freeByGrade 24 = .ok (.goto (-17), 3) := by decide +kernel
theorem dX4_freeByGrade_27 : decode cX4_freeByGrade 27 = .ok (.aload_n 1, 1) := by decide +kernel
theorem dX4_freeByGrade_28 : decode cX4_freeByGrade 28 = .ok (.areturn, 1) := by decide +kernel
theorem dX4_worthOf_0 : decode cX4_worthOf 0 = .ok (.iconst 0, 1) := by decide +kernel
theorem dX4_worthOf_1 : decode cX4_worthOf 1 = .ok (.istore_n 2, 1) := by decide +kernel
theorem dX4_worthOf_2 : decode cX4_worthOf 2 = .ok (.iconst 0, 1) := by decide +kernel
theorem dX4_worthOf_3 : decode cX4_worthOf 3 = .ok (.istore_n 3, 1) := by decide +kernel
theorem dX4_worthOf_4 : decode cX4_worthOf 4 = .ok (.iload_n 3, 1) := by decide +kernel
theorem dX4_worthOf_5 : decode cX4_worthOf 5 = .ok (.aload_n 0, 1) := by decide +kernel
theorem dX4_worthOf_6 : decode cX4_worthOf 6 = .ok (.getfield 34, 3) := by decide +kernel
theorem dX4_worthOf_9 : decode cX4_worthOf 9 = .ok (.invokevirtual 53, 3) := by decide +kernel
theorem dX4_worthOf_12 : decode cX4_worthOf 12 = .ok (.if_icmp .ge 34, 3) := by decide +kernel
theorem dX4_worthOf_15 : decode cX4_worthOf 15 = .ok (.iload_n 1, 1) := by decide +kernel
theorem dX4_worthOf_16 : decode cX4_worthOf 16 = .ok (.iload_n 3, 1) := by decide +kernel
theorem dX4_worthOf_17 : decode cX4_worthOf 17 = .ok (.invokestatic 174, 3) := by decide +kernel
theorem dX4_worthOf_20 : decode cX4_worthOf 20 = .ok (.ifCond .eq 20, 3) := by decide +kernel
theorem dX4_worthOf_23 : decode cX4_worthOf 23 = .ok (.iload_n 2, 1) := by decide +kernel
theorem dX4_worthOf_24 : decode cX4_worthOf 24 = .ok (.aload_n 0, 1) := by decide +kernel
theorem dX4_worthOf_25 : decode cX4_worthOf 25 = .ok (.getfield 34, 3) := by decide +kernel
theorem dX4_worthOf_28 : decode cX4_worthOf 28 = .ok (.iload_n 3, 1) := by decide +kernel
theorem dX4_worthOf_29 : decode cX4_worthOf 29 = .ok (.invokevirtual 137, 3) := by decide +kernel
theorem dX4_worthOf_32 : decode cX4_worthOf 32 = .ok (.checkcast 163, 3) := by decide +kernel
theorem dX4_worthOf_35 : decode cX4_worthOf 35 = .ok (.getfield 185, 3) := by decide +kernel
theorem dX4_worthOf_38 : decode cX4_worthOf 38 = .ok (.iadd, 1) := by decide +kernel
theorem dX4_worthOf_39 : decode cX4_worthOf 39 = .ok (.istore_n 2, 1) := by decide +kernel
theorem dX4_worthOf_40 : decode cX4_worthOf 40 = .ok (.iinc 3 1, 3) := by decide +kernel
theorem dX4_worthOf_43 : decode cX4_worthOf 43 = .ok (.goto (-39), 3) := by decide +kernel
theorem dX4_worthOf_46 : decode cX4_worthOf 46 = .ok (.iload_n 2, 1) := by decide +kernel
theorem dX4_worthOf_47 : decode cX4_worthOf 47 = .ok (.ireturn, 1) := by decide +kernel
theorem dX4_canServe_0 : decode cX4_canServe 0 = .ok (.iconst 0, 1) := by decide +kernel
theorem dX4_canServe_1 : decode cX4_canServe 1 = .ok (.istore_n 3, 1) := by decide +kernel
theorem dX4_canServe_2 : decode cX4_canServe 2 = .ok (.iload_n 3, 1) := by decide +kernel
theorem dX4_canServe_3 : decode cX4_canServe 3 = .ok (.aload_n 0, 1) := by decide +kernel
theorem dX4_canServe_4 : decode cX4_canServe 4 = .ok (.getfield 34, 3) := by decide +kernel
theorem dX4_canServe_7 : decode cX4_canServe 7 = .ok (.invokevirtual 53, 3) := by decide +kernel
theorem dX4_canServe_10 : decode cX4_canServe 10 = .ok (.if_icmp .ge 36, 3) := by decide +kernel
theorem dX4_canServe_13 : decode cX4_canServe 13 = .ok (.iload_n 1, 1) := by decide +kernel
theorem dX4_canServe_14 : decode cX4_canServe 14 = .ok (.iload_n 3, 1) := by decide +kernel
theorem dX4_canServe_15 : decode cX4_canServe 15 = .ok (.invokestatic 174, 3) := by decide +kernel
theorem dX4_canServe_18 : decode cX4_canServe 18 = .ok (.ifCond .eq 22, 3) := by decide +kernel
theorem dX4_canServe_21 : decode cX4_canServe 21 = .ok (.aload_n 0, 1) := by decide +kernel
theorem dX4_canServe_22 : decode cX4_canServe 22 = .ok (.getfield 34, 3) := by decide +kernel
theorem dX4_canServe_25 : decode cX4_canServe 25 = .ok (.iload_n 3, 1) := by decide +kernel
theorem dX4_canServe_26 : decode cX4_canServe 26 = .ok (.invokevirtual 137, 3) := by decide +kernel
theorem dX4_canServe_29 : decode cX4_canServe 29 = .ok (.checkcast 163, 3) := by decide +kernel
theorem dX4_canServe_32 : decode cX4_canServe 32 = .ok (.getfield 188, 3) := by decide +kernel
theorem dX4_canServe_35 : decode cX4_canServe 35 = .ok (.ifCond .eq 5, 3) := by decide +kernel
theorem dX4_canServe_38 : decode cX4_canServe 38 = .ok (.iconst 0, 1) := by decide +kernel
theorem dX4_canServe_39 : decode cX4_canServe 39 = .ok (.ireturn, 1) := by decide +kernel
theorem dX4_canServe_40 : decode cX4_canServe 40 = .ok (.iinc 3 1, 3) := by decide +kernel
theorem dX4_canServe_43 : decode cX4_canServe 43 = .ok (.goto (-41), 3) := by decide +kernel
theorem dX4_canServe_46 : decode cX4_canServe 46 = .ok (.iconst 0, 1) := by decide +kernel
theorem dX4_canServe_47 : decode cX4_canServe 47 = .ok (.istore_n 3, 1) := by decide +kernel
theorem dX4_canServe_48 : decode cX4_canServe 48 = .ok (.iload_n 3, 1) := by decide +kernel
theorem dX4_canServe_49 : decode cX4_canServe 49 = .ok (.aload_n 2, 1) := by decide +kernel
theorem dX4_canServe_50 : decode cX4_canServe 50 = .ok (.arraylength, 1) := by decide +kernel
theorem dX4_canServe_51 : decode cX4_canServe 51 = .ok (.if_icmp .ge 23, 3) := by decide +kernel
theorem dX4_canServe_54 : decode cX4_canServe 54 = .ok (.aload_n 0, 1) := by decide +kernel
theorem dX4_canServe_55 : decode cX4_canServe 55 = .ok (.iload_n 1, 1) := by decide +kernel
theorem dX4_canServe_56 : decode cX4_canServe 56 = .ok (.iload_n 3, 1) := by decide +kernel
theorem dX4_canServe_57 : decode cX4_canServe 57 = .ok (.invokevirtual 299, 3) := by decide +kernel
theorem dX4_canServe_60 : decode cX4_canServe 60 = .ok (.aload_n 2, 1) := by decide +kernel
theorem dX4_canServe_61 : decode cX4_canServe 61 = .ok (.iload_n 3, 1) := by decide +kernel
theorem dX4_canServe_62 : decode cX4_canServe 62 = .ok (.iaload, 1) := by decide +kernel
theorem dX4_canServe_63 : decode cX4_canServe 63 = .ok (.if_icmp .le 5, 3) := by decide +kernel
theorem dX4_canServe_66 : decode cX4_canServe 66 = .ok (.iconst 0, 1) := by decide +kernel
theorem dX4_canServe_67 : decode cX4_canServe 67 = .ok (.ireturn, 1) := by decide +kernel
theorem dX4_canServe_68 : decode cX4_canServe 68 = .ok (.iinc 3 1, 3) := by decide +kernel
theorem dX4_canServe_71 : decode cX4_canServe 71 = .ok (.goto (-23), 3) := by decide +kernel
theorem dX4_canServe_74 : decode cX4_canServe 74 = .ok (.iconst 1, 1) := by decide +kernel
theorem dX4_canServe_75 : decode cX4_canServe 75 = .ok (.ireturn, 1) := by decide +kernel
theorem dX4_wantedOf_0 : decode cX4_wantedOf 0 = .ok (.iconst 0, 1) := by decide +kernel
theorem dX4_wantedOf_1 : decode cX4_wantedOf 1 = .ok (.istore_n 3, 1) := by decide +kernel
theorem dX4_wantedOf_2 : decode cX4_wantedOf 2 = .ok (.iconst 0, 1) := by decide +kernel
theorem dX4_wantedOf_3 : decode cX4_wantedOf 3 = .ok (.istore 4, 2) := by decide +kernel
theorem dX4_wantedOf_5 : decode cX4_wantedOf 5 = .ok (.iload 4, 2) := by decide +kernel
theorem dX4_wantedOf_7 : decode cX4_wantedOf 7 = .ok (.aload_n 0, 1) := by decide +kernel
theorem dX4_wantedOf_8 : decode cX4_wantedOf 8 = .ok (.getfield 34, 3) := by decide +kernel
theorem dX4_wantedOf_11 : decode cX4_wantedOf 11 = .ok (.invokevirtual 53, 3) := by decide +kernel
theorem dX4_wantedOf_14 : decode cX4_wantedOf 14 = .ok (.if_icmp .ge 49, 3) := by decide +kernel
theorem dX4_wantedOf_17 : decode cX4_wantedOf 17 = .ok (.aload_n 0, 1) := by decide +kernel
theorem dX4_wantedOf_18 : decode cX4_wantedOf 18 = .ok (.getfield 34, 3) := by decide +kernel
theorem dX4_wantedOf_21 : decode cX4_wantedOf 21 = .ok (.iload 4, 2) := by decide +kernel
theorem dX4_wantedOf_23 : decode cX4_wantedOf 23 = .ok (.invokevirtual 137, 3) := by decide +kernel
theorem dX4_wantedOf_26 : decode cX4_wantedOf 26 = .ok (.checkcast 163, 3) := by decide +kernel
theorem dX4_wantedOf_29 : decode cX4_wantedOf 29 = .ok (.astore 5, 2) := by decide +kernel
theorem dX4_wantedOf_31 : decode cX4_wantedOf 31 = .ok (.iload_n 1, 1) := by decide +kernel
theorem dX4_wantedOf_32 : decode cX4_wantedOf 32 = .ok (.iload 4, 2) := by decide +kernel
theorem dX4_wantedOf_34 : decode cX4_wantedOf 34 = .ok (.invokestatic 174, 3) := by decide +kernel
theorem dX4_wantedOf_37 : decode cX4_wantedOf 37 = .ok (.ifCond .eq 20, 3) := by decide +kernel
theorem dX4_wantedOf_40 : decode cX4_wantedOf 40 = .ok (.aload 5, 2) := by decide +kernel
theorem dX4_wantedOf_42 : decode cX4_wantedOf 42 = .ok (.getfield 181, 3) := by decide +kernel
theorem dX4_wantedOf_45 : decode cX4_wantedOf 45 = .ok (.iload_n 2, 1) := by decide +kernel
theorem dX4_wantedOf_46 : decode cX4_wantedOf 46 = .ok (.if_icmp .ne 11, 3) := by decide +kernel
theorem dX4_wantedOf_49 : decode cX4_wantedOf 49 = .ok (.iload_n 3, 1) := by decide +kernel
theorem dX4_wantedOf_50 : decode cX4_wantedOf 50 = .ok (.aload 5, 2) := by decide +kernel
theorem dX4_wantedOf_52 : decode cX4_wantedOf 52 = .ok (.getfield 182, 3) := by decide +kernel
theorem dX4_wantedOf_55 : decode cX4_wantedOf 55 = .ok (.iadd, 1) := by decide +kernel
theorem dX4_wantedOf_56 : decode cX4_wantedOf 56 = .ok (.istore_n 3, 1) := by decide +kernel
theorem dX4_wantedOf_57 : decode cX4_wantedOf 57 = .ok (.iinc 4 1, 3) := by decide +kernel
theorem dX4_wantedOf_60 : decode cX4_wantedOf 60 = .ok (.goto (-55), 3) := by decide +kernel
theorem dX4_wantedOf_63 : decode cX4_wantedOf 63 = .ok (.iload_n 3, 1) := by decide +kernel
theorem dX4_wantedOf_64 : decode cX4_wantedOf 64 = .ok (.ireturn, 1) := by decide +kernel
theorem dX4_sellTo_0 : decode cX4_sellTo 0 = .ok (.aload_n 0, 1) := by decide +kernel
theorem dX4_sellTo_1 : decode cX4_sellTo 1 = .ok (.getfield 34, 3) := by decide +kernel
theorem dX4_sellTo_4 : decode cX4_sellTo 4 = .ok (.iload_n 1, 1) := by decide +kernel
theorem dX4_sellTo_5 : decode cX4_sellTo 5 = .ok (.invokevirtual 137, 3) := by decide +kernel
theorem dX4_sellTo_8 : decode cX4_sellTo 8 = .ok (.checkcast 163, 3) := by decide +kernel
theorem dX4_sellTo_11 : decode cX4_sellTo 11 = .ok (.astore_n 2, 1) := by decide +kernel
theorem dX4_sellTo_12 : decode cX4_sellTo 12 = .ok (.iconst 0, 1) := by decide +kernel
theorem dX4_sellTo_13 : decode cX4_sellTo 13 = .ok (.istore_n 3, 1) := by decide +kernel
theorem dX4_sellTo_14 : decode cX4_sellTo 14 = .ok (.iconst 0, 1) := by decide +kernel
theorem dX4_sellTo_15 : decode cX4_sellTo 15 = .ok (.istore 4, 2) := by decide +kernel
theorem dX4_sellTo_17 : decode cX4_sellTo 17 = .ok (.iload 4, 2) := by decide +kernel
theorem dX4_sellTo_19 : decode cX4_sellTo 19 = .ok (.aload_n 0, 1) := by decide +kernel
theorem dX4_sellTo_20 : decode cX4_sellTo 20 = .ok (.getfield 31, 3) := by decide +kernel
theorem dX4_sellTo_23 : decode cX4_sellTo 23 = .ok (.invokevirtual 53, 3) := by decide +kernel
theorem dX4_sellTo_26 : decode cX4_sellTo 26 = .ok (.if_icmp .ge 52, 3) := by decide +kernel
theorem dX4_sellTo_29 : decode cX4_sellTo 29 = .ok (.iload_n 3, 1) := by decide +kernel
theorem dX4_sellTo_30 : decode cX4_sellTo 30 = .ok (.aload_n 2, 1) := by decide +kernel
theorem dX4_sellTo_31 : decode cX4_sellTo 31 = .ok (.getfield 182, 3) := by decide +kernel
theorem dX4_sellTo_34 : decode cX4_sellTo 34 = .ok (.if_icmp .ge 44, 3) := by decide +kernel
theorem dX4_sellTo_37 : decode cX4_sellTo 37 = .ok (.aload_n 0, 1) := by decide +kernel
theorem dX4_sellTo_38 : decode cX4_sellTo 38 = .ok (.getfield 31, 3) := by decide +kernel
theorem dX4_sellTo_41 : decode cX4_sellTo 41 = .ok (.iload 4, 2) := by decide +kernel
theorem dX4_sellTo_43 : decode cX4_sellTo 43 = .ok (.invokevirtual 137, 3) := by decide +kernel
theorem dX4_sellTo_46 : decode cX4_sellTo 46 = .ok (.checkcast 89, 3) := by decide +kernel
theorem dX4_sellTo_49 : decode cX4_sellTo 49 = .ok (.astore 5, 2) := by decide +kernel
theorem dX4_sellTo_51 : decode cX4_sellTo 51 = .ok (.aload 5, 2) := by decide +kernel
theorem dX4_sellTo_53 : decode cX4_sellTo 53 = .ok (.aload_n 2, 1) := by decide +kernel
theorem dX4_sellTo_54 : decode cX4_sellTo 54 = .ok (.getfield 181, 3) := by decide +kernel
theorem dX4_sellTo_57 : decode cX4_sellTo 57 = .ok (.invokevirtual 160, 3) := by decide +kernel
theorem dX4_sellTo_60 : decode cX4_sellTo 60 = .ok (.ifCond .eq 12, 3) := by decide +kernel
theorem dX4_sellTo_63 : decode cX4_sellTo 63 = .ok (.aload 5, 2) := by decide +kernel
theorem dX4_sellTo_65 : decode cX4_sellTo 65 = .ok (.iload_n 1, 1) := by decide +kernel
theorem dX4_sellTo_66 : decode cX4_sellTo 66 = .ok (.putfield 148, 3) := by decide +kernel
theorem dX4_sellTo_69 : decode cX4_sellTo 69 = .ok (.iinc 3 1, 3) := by decide +kernel
theorem dX4_sellTo_72 : decode cX4_sellTo 72 = .ok (.iinc 4 1, 3) := by decide +kernel
theorem dX4_sellTo_75 : decode cX4_sellTo 75 = .ok (.goto (-58), 3) := by decide +kernel
theorem dX4_sellTo_78 : decode cX4_sellTo 78 = .ok (.aload_n 2, 1) := by decide +kernel
theorem dX4_sellTo_79 : decode cX4_sellTo 79 = .ok (.iconst 1, 1) := by decide +kernel
theorem dX4_sellTo_80 : decode cX4_sellTo 80 = .ok (.putfield 188, 3) := by decide +kernel
theorem dX4_sellTo_83 : decode cX4_sellTo 83 = .ok (.iload_n 3, 1) := by decide +kernel
theorem dX4_sellTo_84 : decode cX4_sellTo 84 = .ok (.ireturn, 1) := by decide +kernel
theorem dX4_ofAllBarns_0 : decode cX4_ofAllBarns 0 = .ok (.iconst 0, 1) := by decide +kernel
theorem dX4_ofAllBarns_1 : decode cX4_ofAllBarns 1 = .ok (.istore_n 2, 1) := by decide +kernel
theorem dX4_ofAllBarns_2 : decode cX4_ofAllBarns 2 = .ok (.iconst 0, 1) := by decide +kernel
theorem dX4_ofAllBarns_3 : decode cX4_ofAllBarns 3 = .ok (.istore_n 3, 1) := by decide +kernel
theorem dX4_ofAllBarns_4 : decode cX4_ofAllBarns 4 = .ok (.iload_n 3, 1) := by decide +kernel
theorem dX4_ofAllBarns_5 : decode cX4_ofAllBarns 5 = .ok (.iconst 4, 1) := by decide +kernel
theorem dX4_ofAllBarns_6 : decode cX4_ofAllBarns 6 = .ok (.if_icmp .ge 20, 3) := by decide +kernel
theorem dX4_ofAllBarns_9 : decode cX4_ofAllBarns 9 = .ok (.iload_n 2, 1) := by decide +kernel
theorem dX4_ofAllBarns_10 : decode cX4_ofAllBarns 10 = .ok (.aload_n 0, 1) := by decide +kernel
theorem dX4_ofAllBarns_11 : decode cX4_ofAllBarns 11 = .ok (.getfield 39, 3) := by decide +kernel
theorem dX4_ofAllBarns_14 : decode cX4_ofAllBarns 14 = .ok (.iload_n 3, 1) := by decide +kernel
theorem dX4_ofAllBarns_15 : decode cX4_ofAllBarns 15 = .ok (.aaload, 1) := by decide +kernel
theorem dX4_ofAllBarns_16 : decode cX4_ofAllBarns 16 = .ok (.iload_n 1, 1) := by decide +kernel
theorem dX4_ofAllBarns_17 : decode cX4_ofAllBarns 17 = .ok (.iaload, 1) := by decide +kernel
theorem dX4_ofAllBarns_18 : decode cX4_ofAllBarns 18 = .ok (.iadd, 1) := by decide +kernel
theorem dX4_ofAllBarns_19 : decode cX4_ofAllBarns 19 = .ok (.istore_n 2, 1) := by decide +kernel
theorem dX4_ofAllBarns_20 : decode cX4_ofAllBarns 20 = .ok (.iinc 3 1, 3) := by decide +kernel
theorem dX4_ofAllBarns_23 : decode cX4_ofAllBarns 23 = .ok (.goto (-19), 3) := by decide +kernel
theorem dX4_ofAllBarns_26 : decode cX4_ofAllBarns 26 = .ok (.iload_n 2, 1) := by decide +kernel
theorem dX4_ofAllBarns_27 : decode cX4_ofAllBarns 27 = .ok (.ireturn, 1) := by decide +kernel
theorem dX4_eggsOnLine_0 : decode cX4_eggsOnLine 0 = .ok (.iconst 0, 1) := by decide +kernel
theorem dX4_eggsOnLine_1 : decode cX4_eggsOnLine 1 = .ok (.istore_n 1, 1) := by decide +kernel
theorem dX4_eggsOnLine_2 : decode cX4_eggsOnLine 2 = .ok (.iconst 0, 1) := by decide +kernel
theorem dX4_eggsOnLine_3 : decode cX4_eggsOnLine 3 = .ok (.istore_n 2, 1) := by decide +kernel
theorem dX4_eggsOnLine_4 : decode cX4_eggsOnLine 4 = .ok (.iload_n 2, 1) := by decide +kernel
theorem dX4_eggsOnLine_5 : decode cX4_eggsOnLine 5 = .ok (.bipush 16, 2) := by decide +kernel
theorem dX4_eggsOnLine_7 : decode cX4_eggsOnLine 7 = .ok (.if_icmp .ge 21, 3) := by decide +kernel
theorem dX4_eggsOnLine_10 : decode cX4_eggsOnLine 10 = .ok (.aload_n 0, 1) := by decide +kernel
theorem dX4_eggsOnLine_11 : decode cX4_eggsOnLine 11 = .ok (.getfield 21, 3) := by decide +kernel
theorem dX4_eggsOnLine_14 : decode cX4_eggsOnLine 14 = .ok (.iload_n 2, 1) := by decide +kernel
theorem dX4_eggsOnLine_15 : decode cX4_eggsOnLine 15 = .ok (.aaload, 1) := by decide +kernel
theorem dX4_eggsOnLine_16 : decode cX4_eggsOnLine 16 = .ok (.ifnull 6, 3) := by decide +kernel
theorem dX4_eggsOnLine_19 : decode cX4_eggsOnLine 19 = .ok (.iinc 1 1, 3) := by decide +kernel
theorem dX4_eggsOnLine_22 : decode cX4_eggsOnLine 22 = .ok (.iinc 2 1, 3) := by decide +kernel
theorem dX4_eggsOnLine_25 : decode cX4_eggsOnLine 25 = .ok (.goto (-21), 3) := by decide +kernel
theorem dX4_eggsOnLine_28 : decode cX4_eggsOnLine 28 = .ok (.iload_n 1, 1) := by decide +kernel
theorem dX4_eggsOnLine_29 : decode cX4_eggsOnLine 29 = .ok (.ireturn, 1) := by decide +kernel
theorem dX4_eggsInTrays_0 : decode cX4_eggsInTrays 0 = .ok (.iconst 0, 1) := by decide +kernel
theorem dX4_eggsInTrays_1 : decode cX4_eggsInTrays 1 = .ok (.istore_n 1, 1) := by decide +kernel
theorem dX4_eggsInTrays_2 : decode cX4_eggsInTrays 2 = .ok (.iconst 0, 1) := by decide +kernel
theorem dX4_eggsInTrays_3 : decode cX4_eggsInTrays 3 = .ok (.istore_n 2, 1) := by decide +kernel
theorem dX4_eggsInTrays_4 : decode cX4_eggsInTrays 4 = .ok (.iload_n 2, 1) := by decide +kernel
theorem dX4_eggsInTrays_5 : decode cX4_eggsInTrays 5 = .ok (.iconst 4, 1) := by decide +kernel
theorem dX4_eggsInTrays_6 : decode cX4_eggsInTrays 6 = .ok (.if_icmp .ge 24, 3) := by decide +kernel
theorem dX4_eggsInTrays_9 : decode cX4_eggsInTrays 9 = .ok (.iload_n 1, 1) := by decide +kernel
theorem dX4_eggsInTrays_10 : decode cX4_eggsInTrays 10 = .ok (.aload_n 0, 1) := by decide +kernel
theorem dX4_eggsInTrays_11 : decode cX4_eggsInTrays 11 = .ok (.getfield 27, 3) := by decide +kernel
theorem dX4_eggsInTrays_14 : decode cX4_eggsInTrays 14 = .ok (.iload_n 2, 1) := by decide +kernel
theorem dX4_eggsInTrays_15 : decode cX4_eggsInTrays 15 = .ok (.aaload, 1) := by decide +kernel
theorem dX4_eggsInTrays_16 : decode cX4_eggsInTrays 16 = .ok (.getfield 84, 3) := by decide +kernel
theorem dX4_eggsInTrays_19 : decode cX4_eggsInTrays 19 = .ok (.getfield 88, 3) := by decide +kernel
theorem dX4_eggsInTrays_22 : decode cX4_eggsInTrays 22 = .ok (.iadd, 1) := by decide +kernel
theorem dX4_eggsInTrays_23 : decode cX4_eggsInTrays 23 = .ok (.istore_n 1, 1) := by decide +kernel
theorem dX4_eggsInTrays_24 : decode cX4_eggsInTrays 24 = .ok (.iinc 2 1, 3) := by decide +kernel
theorem dX4_eggsInTrays_27 : decode cX4_eggsInTrays 27 = .ok (.goto (-23), 3) := by decide +kernel
theorem dX4_eggsInTrays_30 : decode cX4_eggsInTrays 30 = .ok (.iload_n 1, 1) := by decide +kernel
theorem dX4_eggsInTrays_31 : decode cX4_eggsInTrays 31 = .ok (.ireturn, 1) := by decide +kernel
theorem dX4_packsSold_0 : decode cX4_packsSold 0 = .ok (.iconst 0, 1) := by decide +kernel
theorem dX4_packsSold_1 : decode cX4_packsSold 1 = .ok (.istore_n 1, 1) := by decide +kernel
theorem dX4_packsSold_2 : decode cX4_packsSold 2 = .ok (.iconst 0, 1) := by decide +kernel
theorem dX4_packsSold_3 : decode cX4_packsSold 3 = .ok (.istore_n 2, 1) := by decide +kernel
theorem dX4_packsSold_4 : decode cX4_packsSold 4 = .ok (.iload_n 2, 1) := by decide +kernel
theorem dX4_packsSold_5 : decode cX4_packsSold 5 = .ok (.aload_n 0, 1) := by decide +kernel
theorem dX4_packsSold_6 : decode cX4_packsSold 6 = .ok (.getfield 31, 3) := by decide +kernel
theorem dX4_packsSold_9 : decode cX4_packsSold 9 = .ok (.invokevirtual 53, 3) := by decide +kernel
theorem dX4_packsSold_12 : decode cX4_packsSold 12 = .ok (.if_icmp .ge 31, 3) := by decide +kernel
theorem dX4_packsSold_15 : decode cX4_packsSold 15 = .ok (.aload_n 0, 1) := by decide +kernel
theorem dX4_packsSold_16 : decode cX4_packsSold 16 = .ok (.getfield 31, 3) := by decide +kernel
theorem dX4_packsSold_19 : decode cX4_packsSold 19 = .ok (.iload_n 2, 1) := by decide +kernel
theorem dX4_packsSold_20 : decode cX4_packsSold 20 = .ok (.invokevirtual 137, 3) := by decide +kernel
theorem dX4_packsSold_23 : decode cX4_packsSold 23 = .ok (.checkcast 89, 3) := by decide +kernel
theorem dX4_packsSold_26 : decode cX4_packsSold 26 = .ok (.getfield 148, 3) := by decide +kernel
theorem dX4_packsSold_29 : decode cX4_packsSold 29 = .ok (.bipush (-9), 2) := by decide +kernel
theorem dX4_packsSold_31 : decode cX4_packsSold 31 = .ok (.if_icmp .eq 6, 3) := by decide +kernel
theorem dX4_packsSold_34 : decode cX4_packsSold 34 = .ok (.iinc 1 1, 3) := by decide +kernel
theorem dX4_packsSold_37 : decode cX4_packsSold 37 = .ok (.iinc 2 1, 3) := by decide +kernel
theorem dX4_packsSold_40 : decode cX4_packsSold 40 = .ok (.goto (-36), 3) := by decide +kernel
theorem dX4_packsSold_43 : decode cX4_packsSold 43 = .ok (.iload_n 1, 1) := by decide +kernel
theorem dX4_packsSold_44 : decode cX4_packsSold 44 = .ok (.ireturn, 1) := by decide +kernel
theorem dX4_packsHeld_0 : decode cX4_packsHeld 0 = .ok (.iconst 0, 1) := by decide +kernel
theorem dX4_packsHeld_1 : decode cX4_packsHeld 1 = .ok (.istore_n 1, 1) := by decide +kernel
theorem dX4_packsHeld_2 : decode cX4_packsHeld 2 = .ok (.iconst 0, 1) := by decide +kernel
theorem dX4_packsHeld_3 : decode cX4_packsHeld 3 = .ok (.istore_n 2, 1) := by decide +kernel
theorem dX4_packsHeld_4 : decode cX4_packsHeld 4 = .ok (.iload_n 2, 1) := by decide +kernel
theorem dX4_packsHeld_5 : decode cX4_packsHeld 5 = .ok (.aload_n 0, 1) := by decide +kernel
theorem dX4_packsHeld_6 : decode cX4_packsHeld 6 = .ok (.getfield 31, 3) := by decide +kernel
theorem dX4_packsHeld_9 : decode cX4_packsHeld 9 = .ok (.invokevirtual 53, 3) := by decide +kernel
theorem dX4_packsHeld_12 : decode cX4_packsHeld 12 = .ok (.if_icmp .ge 29, 3) := by decide +kernel
theorem dX4_packsHeld_15 : decode cX4_packsHeld 15 = .ok (.aload_n 0, 1) := by decide +kernel
theorem dX4_packsHeld_16 : decode cX4_packsHeld 16 = .ok (.getfield 31, 3) := by decide +kernel
theorem dX4_packsHeld_19 : decode cX4_packsHeld 19 = .ok (.iload_n 2, 1) := by decide +kernel
theorem dX4_packsHeld_20 : decode cX4_packsHeld 20 = .ok (.invokevirtual 137, 3) := by decide +kernel
theorem dX4_packsHeld_23 : decode cX4_packsHeld 23 = .ok (.checkcast 89, 3) := by decide +kernel
theorem dX4_packsHeld_26 : decode cX4_packsHeld 26 = .ok (.getfield 151, 3) := by decide +kernel
theorem dX4_packsHeld_29 : decode cX4_packsHeld 29 = .ok (.ifCond .eq 6, 3) := by decide +kernel
theorem dX4_packsHeld_32 : decode cX4_packsHeld 32 = .ok (.iinc 1 1, 3) := by decide +kernel
theorem dX4_packsHeld_35 : decode cX4_packsHeld 35 = .ok (.iinc 2 1, 3) := by decide +kernel
theorem dX4_packsHeld_38 : decode cX4_packsHeld 38 = .ok (.goto (-34), 3) := by decide +kernel
theorem dX4_packsHeld_41 : decode cX4_packsHeld 41 = .ok (.iload_n 1, 1) := by decide +kernel
theorem dX4_packsHeld_42 : decode cX4_packsHeld 42 = .ok (.ireturn, 1) := by decide +kernel
theorem dX4_isWithin_0 : decode cX4_isWithin 0 = .ok (.iload_n 0, 1) := by decide +kernel
theorem dX4_isWithin_1 : decode cX4_isWithin 1 = .ok (.iload_n 1, 1) := by decide +kernel
theorem dX4_isWithin_2 : decode cX4_isWithin 2 = .ok (.if_icmp .lt 12, 3) := by decide +kernel
theorem dX4_isWithin_5 : decode cX4_isWithin 5 = .ok (.iload_n 0, 1) := by decide +kernel
theorem dX4_isWithin_6 : decode cX4_isWithin 6 = .ok (.iload_n 2, 1) := by decide +kernel
theorem dX4_isWithin_7 : decode cX4_isWithin 7 = .ok (.if_icmp .gt 7, 3) := by decide +kernel
theorem dX4_isWithin_10 : decode cX4_isWithin 10 = .ok (.iconst 1, 1) := by decide +kernel
theorem dX4_isWithin_11 : decode cX4_isWithin 11 = .ok (.goto 4, 3) := by decide +kernel
theorem dX4_isWithin_14 : decode cX4_isWithin 14 = .ok (.iconst 0, 1) := by decide +kernel
theorem dX4_isWithin_15 : decode cX4_isWithin 15 = .ok (.ireturn, 1) := by decide +kernel
theorem dX4_isBarn_0 : decode cX4_isBarn 0 = .ok (.iload_n 0, 1) := by decide +kernel
theorem dX4_isBarn_1 : decode cX4_isBarn 1 = .ok (.iconst 0, 1) := by decide +kernel
theorem dX4_isBarn_2 : decode cX4_isBarn 2 = .ok (.iconst 3, 1) := by decide +kernel
theorem dX4_isBarn_3 : decode cX4_isBarn 3 = .ok (.invokestatic 49, 3) := by decide +kernel
theorem dX4_isBarn_6 : decode cX4_isBarn 6 = .ok (.ireturn, 1) := by decide +kernel
theorem dX4_isGrade_0 : decode cX4_isGrade 0 = .ok (.iload_n 0, 1) := by decide +kernel
theorem dX4_isGrade_1 : decode cX4_isGrade 1 = .ok (.iconst 0, 1) := by decide +kernel
theorem dX4_isGrade_2 : decode cX4_isGrade 2 = .ok (.iconst 5, 1) := by decide +kernel
theorem dX4_isGrade_3 : decode cX4_isGrade 3 = .ok (.invokestatic 49, 3) := by decide +kernel
theorem dX4_isGrade_6 : decode cX4_isGrade 6 = .ok (.ireturn, 1) := by decide +kernel
theorem dX4_isPacker_0 : decode cX4_isPacker 0 = .ok (.iload_n 0, 1) := by decide +kernel
theorem dX4_isPacker_1 : decode cX4_isPacker 1 = .ok (.iconst 0, 1) := by decide +kernel
theorem dX4_isPacker_2 : decode cX4_isPacker 2 = .ok (.iconst 3, 1) := by decide +kernel
theorem dX4_isPacker_3 : decode cX4_isPacker 3 = .ok (.invokestatic 49, 3) := by decide +kernel
theorem dX4_isPacker_6 : decode cX4_isPacker 6 = .ok (.ireturn, 1) := by decide +kernel
theorem dX4_isPack_0 : decode cX4_isPack 0 = .ok (.iload_n 1, 1) := by decide +kernel
theorem dX4_isPack_1 : decode cX4_isPack 1 = .ok (.iconst 0, 1) := by decide +kernel
theorem dX4_isPack_2 : decode cX4_isPack 2 = .ok (.aload_n 0, 1) := by decide +kernel
theorem dX4_isPack_3 : decode cX4_isPack 3 = .ok (.getfield 31, 3) := by decide +kernel
theorem dX4_isPack_6 : decode cX4_isPack 6 = .ok (.invokevirtual 53, 3) := by decide +kernel
theorem dX4_isPack_9 : decode cX4_isPack 9 = .ok (.iconst 1, 1) := by decide +kernel
theorem dX4_isPack_10 : decode cX4_isPack 10 = .ok (.isub, 1) := by decide +kernel
theorem dX4_isPack_11 : decode cX4_isPack 11 = .ok (.invokestatic 49, 3) := by decide +kernel
theorem dX4_isPack_14 : decode cX4_isPack 14 = .ok (.ireturn, 1) := by decide +kernel
theorem dX4_hasBit_0 : decode cX4_hasBit 0 = .ok (.iload_n 0, 1) := by decide +kernel
theorem dX4_hasBit_1 : decode cX4_hasBit 1 = .ok (.iload_n 1, 1) := by decide +kernel
theorem dX4_hasBit_2 : decode cX4_hasBit 2 = .ok (.ishr, 1) := by decide +kernel
theorem dX4_hasBit_3 : decode cX4_hasBit 3 = .ok (.iconst 1, 1) := by decide +kernel
theorem dX4_hasBit_4 : decode cX4_hasBit 4 = .ok (.iand, 1) := by decide +kernel
theorem dX4_hasBit_5 : decode cX4_hasBit 5 = .ok (.iconst 1, 1) := by decide +kernel
theorem dX4_hasBit_6 : decode cX4_hasBit 6 = .ok (.if_icmp .ne 7, 3) := by decide +kernel
theorem dX4_hasBit_9 : decode cX4_hasBit 9 = .ok (.iconst 1, 1) := by decide +kernel
theorem dX4_hasBit_10 : decode cX4_hasBit 10 = .ok (.goto 4, 3) := by decide +kernel
theorem dX4_hasBit_13 : decode cX4_hasBit 13 = .ok (.iconst 0, 1) := by decide +kernel
theorem dX4_hasBit_14 : decode cX4_hasBit 14 = .ok (.ireturn, 1) := by decide +kernel
theorem dX4_asNumber_0 : decode cX4_asNumber 0 = .ok (.iload_n 0, 1) := by decide +kernel
theorem dX4_asNumber_1 : decode cX4_asNumber 1 = .ok (.ifCond .eq 7, 3) := by decide +kernel
theorem dX4_asNumber_4 : decode cX4_asNumber 4 = .ok (.iconst 1, 1) := by decide +kernel
theorem dX4_asNumber_5 : decode cX4_asNumber 5 = .ok (.goto 4, 3) := by decide +kernel
theorem dX4_asNumber_8 : decode cX4_asNumber 8 = .ok (.iconst 0, 1) := by decide +kernel
theorem dX4_asNumber_9 : decode cX4_asNumber 9 = .ok (.ireturn, 1) := by decide +kernel
theorem dX4_gradeOf_0 : decode cX4_gradeOf 0 = .ok (.iconst 0, 1) := by decide +kernel
theorem dX4_gradeOf_1 : decode cX4_gradeOf 1 = .ok (.istore_n 1, 1) := by decide +kernel
theorem dX4_gradeOf_2 : decode cX4_gradeOf 2 = .ok (.iload_n 1, 1) := by decide +kernel
theorem dX4_gradeOf_3 : decode cX4_gradeOf 3 = .ok (.getstatic 303, 3) := by decide +kernel
theorem dX4_gradeOf_6 : decode cX4_gradeOf 6 = .ok (.arraylength, 1) := by decide +kernel
theorem dX4_gradeOf_7 : decode cX4_gradeOf 7 = .ok (.if_icmp .ge 18, 3) := by decide +kernel
theorem dX4_gradeOf_10 : decode cX4_gradeOf 10 = .ok (.iload_n 0, 1) := by decide +kernel
theorem dX4_gradeOf_11 : decode cX4_gradeOf 11 = .ok (.getstatic 303, 3) := by decide +kernel
theorem dX4_gradeOf_14 : decode cX4_gradeOf 14 = .ok (.iload_n 1, 1) := by decide +kernel
theorem dX4_gradeOf_15 : decode cX4_gradeOf 15 = .ok (.iaload, 1) := by decide +kernel
theorem dX4_gradeOf_16 : decode cX4_gradeOf 16 = .ok (.if_icmp .lt 9, 3) := by decide +kernel
theorem dX4_gradeOf_19 : decode cX4_gradeOf 19 = .ok (.iinc 1 1, 3) := by decide +kernel
theorem dX4_gradeOf_22 : decode cX4_gradeOf 22 = .ok (.goto (-20), 3) := by decide +kernel
theorem dX4_gradeOf_25 : decode cX4_gradeOf 25 = .ok (.iload_n 1, 1) := by decide +kernel
theorem dX4_gradeOf_26 : decode cX4_gradeOf 26 = .ok (.ireturn, 1) := by decide +kernel
theorem dJ6_bitCount_0f7a4_0 : decode cJ6_bitCount_0f7a4 0 = .ok (.iload_n 0, 1) := by decide +kernel
theorem dJ6_bitCount_0f7a4_1 : decode cJ6_bitCount_0f7a4 1 = .ok (.iload_n 0, 1) := by decide +kernel
theorem dJ6_bitCount_0f7a4_2 : decode cJ6_bitCount_0f7a4 2 = .ok (.iconst 1, 1) := by decide +kernel
theorem dJ6_bitCount_0f7a4_3 : decode cJ6_bitCount_0f7a4 3 = .ok (.iushr, 1) := by decide +kernel
theorem dJ6_bitCount_0f7a4_4 : decode cJ6_bitCount_0f7a4 4 = .ok (.ldc_w 265, 3) := by decide +kernel
theorem dJ6_bitCount_0f7a4_7 : decode cJ6_bitCount_0f7a4 7 = .ok (.iand, 1) := by decide +kernel
theorem dJ6_bitCount_0f7a4_8 : decode cJ6_bitCount_0f7a4 8 = .ok (.isub, 1) := by decide +kernel
theorem dJ6_bitCount_0f7a4_9 : decode cJ6_bitCount_0f7a4 9 = .ok (.istore_n 0, 1) := by decide +kernel
theorem dJ6_bitCount_0f7a4_10 : decode cJ6_bitCount_0f7a4 10 = .ok (.iload_n 0, 1) := by decide +kernel
theorem dJ6_bitCount_0f7a4_11 : decode cJ6_bitCount_0f7a4 11 = .ok (.ldc_w 266, 3) := by decide +kernel
theorem dJ6_bitCount_0f7a4_14 : decode cJ6_bitCount_0f7a4 14 = .ok (.iand, 1) := by decide +kernel
theorem dJ6_bitCount_0f7a4_15 : decode cJ6_bitCount_0f7a4 15 = .ok (.iload_n 0, 1) := by decide +kernel
theorem dJ6_bitCount_0f7a4_16 : decode cJ6_bitCount_0f7a4 16 = .ok (.iconst 2, 1) := by decide +kernel
theorem dJ6_bitCount_0f7a4_17 : decode cJ6_bitCount_0f7a4 17 = .ok (.iushr, 1) := by decide +kernel
theorem dJ6_bitCount_0f7a4_18 : decode cJ6_bitCount_0f7a4 18 = .ok (.ldc_w 266, 3) := by decide +kernel
theorem dJ6_bitCount_0f7a4_21 : decode cJ6_bitCount_0f7a4 21 = .ok (.iand, 1) := by decide +kernel
theorem dJ6_bitCount_0f7a4_22 : decode cJ6_bitCount_0f7a4 22 = .ok (.iadd, 1) := by decide +kernel
theorem dJ6_bitCount_0f7a4_23 : decode cJ6_bitCount_0f7a4 23 = .ok (.istore_n 0, 1) := by decide +kernel
theorem dJ6_bitCount_0f7a4_24 : decode cJ6_bitCount_0f7a4 24 = .ok (.iload_n 0, 1) := by decide +kernel
theorem dJ6_bitCount_0f7a4_25 : decode cJ6_bitCount_0f7a4 25 = .ok (.iload_n 0, 1) := by decide +kernel
theorem dJ6_bitCount_0f7a4_26 : decode cJ6_bitCount_0f7a4 26 = .ok (.iconst 4, 1) := by decide +kernel
theorem dJ6_bitCount_0f7a4_27 : decode cJ6_bitCount_0f7a4 27 = .ok (.iushr, 1) := by decide +kernel
theorem dJ6_bitCount_0f7a4_28 : decode cJ6_bitCount_0f7a4 28 = .ok (.iadd, 1) := by decide +kernel
theorem dJ6_bitCount_0f7a4_29 : decode cJ6_bitCount_0f7a4 29 = .ok (.ldc_w 267, 3) := by decide +kernel
theorem dJ6_bitCount_0f7a4_32 : decode cJ6_bitCount_0f7a4 32 = .ok (.iand, 1) := by decide +kernel
theorem dJ6_bitCount_0f7a4_33 : decode cJ6_bitCount_0f7a4 33 = .ok (.istore_n 0, 1) := by decide +kernel
theorem dJ6_bitCount_0f7a4_34 : decode cJ6_bitCount_0f7a4 34 = .ok (.iload_n 0, 1) := by decide +kernel
theorem dJ6_bitCount_0f7a4_35 : decode cJ6_bitCount_0f7a4 35 = .ok (.iload_n 0, 1) := by decide +kernel
theorem dJ6_bitCount_0f7a4_36 : decode cJ6_bitCount_0f7a4 36 = .ok (.bipush 8, 2) := by decide +kernel
theorem dJ6_bitCount_0f7a4_38 : decode cJ6_bitCount_0f7a4 38 = .ok (.iushr, 1) := by decide +kernel
theorem dJ6_bitCount_0f7a4_39 : decode cJ6_bitCount_0f7a4 39 = .ok (.iadd, 1) := by decide +kernel
theorem dJ6_bitCount_0f7a4_40 : decode cJ6_bitCount_0f7a4 40 = .ok (.istore_n 0, 1) := by decide +kernel
theorem dJ6_bitCount_0f7a4_41 : decode cJ6_bitCount_0f7a4 41 = .ok (.iload_n 0, 1) := by decide +kernel
theorem dJ6_bitCount_0f7a4_42 : decode cJ6_bitCount_0f7a4 42 = .ok (.iload_n 0, 1) := by decide +kernel
theorem dJ6_bitCount_0f7a4_43 : decode cJ6_bitCount_0f7a4 43 = .ok (.bipush 16, 2) := by decide +kernel
theorem dJ6_bitCount_0f7a4_45 : decode cJ6_bitCount_0f7a4 45 = .ok (.iushr, 1) := by decide +kernel
theorem dJ6_bitCount_0f7a4_46 : decode cJ6_bitCount_0f7a4 46 = .ok (.iadd, 1) := by decide +kernel
theorem dJ6_bitCount_0f7a4_47 : decode cJ6_bitCount_0f7a4 47 = .ok (.istore_n 0, 1) := by decide +kernel
theorem dJ6_bitCount_0f7a4_48 : decode cJ6_bitCount_0f7a4 48 = .ok (.iload_n 0, 1) := by decide +kernel
theorem dJ6_bitCount_0f7a4_49 : decode cJ6_bitCount_0f7a4 49 = .ok (.bipush 63, 2) := by decide +kernel
theorem dJ6_bitCount_0f7a4_51 : decode cJ6_bitCount_0f7a4 51 = .ok (.iand, 1) := by decide +kernel
theorem dJ6_bitCount_0f7a4_52 : decode cJ6_bitCount_0f7a4 52 = .ok (.ireturn, 1) := by decide +kernel
theorem dJ9_max_7cf53_0 : decode cJ9_max_7cf53 0 = .ok (.iload_n 0, 1) := by decide +kernel
theorem dJ9_max_7cf53_1 : decode cJ9_max_7cf53 1 = .ok (.iload_n 1, 1) := by decide +kernel
theorem dJ9_max_7cf53_2 : decode cJ9_max_7cf53 2 = .ok (.if_icmp .lt 7, 3) := by decide +kernel
theorem dJ9_max_7cf53_5 : decode cJ9_max_7cf53 5 = .ok (.iload_n 0, 1) := by decide +kernel
theorem dJ9_max_7cf53_6 : decode cJ9_max_7cf53 6 = .ok (.goto 4, 3) := by decide +kernel
theorem dJ9_max_7cf53_9 : decode cJ9_max_7cf53 9 = .ok (.iload_n 1, 1) := by decide +kernel
theorem dJ9_max_7cf53_10 : decode cJ9_max_7cf53 10 = .ok (.ireturn, 1) := by decide +kernel
theorem dJ9_min_7cf53_0 : decode cJ9_min_7cf53 0 = .ok (.iload_n 0, 1) := by decide +kernel
theorem dJ9_min_7cf53_1 : decode cJ9_min_7cf53 1 = .ok (.iload_n 1, 1) := by decide +kernel
theorem dJ9_min_7cf53_2 : decode cJ9_min_7cf53 2 = .ok (.if_icmp .gt 7, 3) := by decide +kernel
theorem dJ9_min_7cf53_5 : decode cJ9_min_7cf53 5 = .ok (.iload_n 0, 1) := by decide +kernel
theorem dJ9_min_7cf53_6 : decode cJ9_min_7cf53 6 = .ok (.goto 4, 3) := by decide +kernel
theorem dJ9_min_7cf53_9 : decode cJ9_min_7cf53 9 = .ok (.iload_n 1, 1) := by decide +kernel
theorem dJ9_min_7cf53_10 : decode cJ9_min_7cf53 10 = .ok (.ireturn, 1) := by decide +kernel
theorem dJxa1e45_init_da8c8_0 : decode cJxa1e45_init_da8c8 0 = .ok (.aload_n 0, 1) := by decide +kernel
theorem dJxa1e45_init_da8c8_1 : decode cJxa1e45_init_da8c8 1 = .ok (.invokespecial 1, 3) := by decide +kernel
theorem dJxa1e45_init_da8c8_4 : decode cJxa1e45_init_da8c8 4 = .ok (.return_, 1) := by decide +kernel
theorem dJxc12de_init_da8c8_0 : decode cJxc12de_init_da8c8 0 = .ok (.aload_n 0, 1) := by decide +kernel
theorem dJxc12de_init_da8c8_1 : decode cJxc12de_init_da8c8 1 = .ok (.invokespecial 1, 3) := by decide +kernel
theorem dJxc12de_init_da8c8_4 : decode cJxc12de_init_da8c8 4 = .ok (.aload_n 0, 1) := by decide +kernel
theorem dJxc12de_init_da8c8_5 : decode cJxc12de_init_da8c8 5 = .ok (.iconst 0, 1) := by decide +kernel
theorem dJxc12de_init_da8c8_6 : decode cJxc12de_init_da8c8 6 = .ok (.putfield 7, 3) := by decide +kernel
theorem dJxc12de_init_da8c8_9 : decode cJxc12de_init_da8c8 9 = .ok (.return_, 1) := by decide +kernel
theorem dJx4a65c_init_da8c8_0 : decode cJx4a65c_init_da8c8 0 = .ok (.aload_n 0, 1) := by decide +kernel
theorem dJx4a65c_init_da8c8_1 : decode cJx4a65c_init_da8c8 1 = .ok (.invokespecial 1, 3) := by decide +kernel
theorem dJx4a65c_init_da8c8_4 : decode cJx4a65c_init_da8c8 4 = .ok (.aload_n 0, 1) := by decide +kernel
theorem dJx4a65c_init_da8c8_5 : decode cJx4a65c_init_da8c8 5 = .ok (.getstatic 39, 3) := by decide +kernel
theorem dJx4a65c_init_da8c8_8 : decode cJx4a65c_init_da8c8 8 = .ok (.putfield 9, 3) := by decide +kernel
theorem dJx4a65c_init_da8c8_11 : decode cJx4a65c_init_da8c8 11 = .ok (.return_, 1) := by decide +kernel
theorem dJx4a65c_grow_92f84_0 : decode cJx4a65c_grow_92f84 0 = .ok (.aload_n 0, 1) := by decide +kernel
theorem dJx4a65c_grow_92f84_1 : decode cJx4a65c_grow_92f84 1 = .ok (.getfield 9, 3) := by decide +kernel
theorem dJx4a65c_grow_92f84_4 : decode cJx4a65c_grow_92f84 4 = .ok (.arraylength, 1) := by decide +kernel
theorem dJx4a65c_grow_92f84_5 : decode cJx4a65c_grow_92f84 5 = .ok (.istore_n 2, 1) := by decide +kernel
theorem dJx4a65c_grow_92f84_6 : decode cJx4a65c_grow_92f84 6 = .ok (.iload_n 2, 1) := by decide +kernel
theorem dJx4a65c_grow_92f84_7 : decode cJx4a65c_grow_92f84 7 = .ok (.ifCond .gt 13, 3) := by decide +kernel
theorem dJx4a65c_grow_92f84_10 : decode cJx4a65c_grow_92f84 10 = .ok (.aload_n 0, 1) := by decide +kernel
theorem dJx4a65c_grow_92f84_11 : decode cJx4a65c_grow_92f84 11 = .ok (.getfield 9, 3) := by decide +kernel
theorem dJx4a65c_grow_92f84_14 : decode cJx4a65c_grow_92f84 14 = .ok (.getstatic 39, 3) := by decide +kernel
theorem dJx4a65c_grow_92f84_17 : decode cJx4a65c_grow_92f84 17 = .ok (.if_acmp .eq 28, 3) := by decide +kernel
theorem dJx4a65c_grow_92f84_20 : decode cJx4a65c_grow_92f84 20 = .ok (.iload_n 2, 1) := by decide +kernel
theorem dJx4a65c_grow_92f84_21 : decode cJx4a65c_grow_92f84 21 = .ok (.iload_n 1, 1) := by decide +kernel
theorem dJx4a65c_grow_92f84_22 : decode cJx4a65c_grow_92f84 22 = .ok (.iload_n 2, 1) := by decide +kernel
theorem dJx4a65c_grow_92f84_23 : decode cJx4a65c_grow_92f84 23 = .ok (.isub, 1) := by decide +kernel
theorem dJx4a65c_grow_92f84_24 : decode cJx4a65c_grow_92f84 24 = .ok (.iload_n 2, 1) := by decide +kernel
theorem dJx4a65c_grow_92f84_25 : decode cJx4a65c_grow_92f84 25 = .ok (.iconst 1, 1) := by decide +kernel
theorem dJx4a65c_grow_92f84_26 : decode cJx4a65c_grow_92f84 26 = .ok (.ishr, 1) := by decide +kernel
theorem dJx4a65c_grow_92f84_27 : decode cJx4a65c_grow_92f84 27 = .ok (.invokestatic 73, 3) := by decide +kernel
theorem dJx4a65c_grow_92f84_30 : decode cJx4a65c_grow_92f84 30 = .ok (.istore_n 3, 1) := by decide +kernel
theorem dJx4a65c_grow_92f84_31 : decode cJx4a65c_grow_92f84 31 = .ok (.aload_n 0, 1) := by decide +kernel
theorem dJx4a65c_grow_92f84_32 : decode cJx4a65c_grow_92f84 32 = .ok (.aload_n 0, 1) := by decide +kernel
theorem dJx4a65c_grow_92f84_33 : decode cJx4a65c_grow_92f84 33 = .ok (.getfield 9, 3) := by decide +kernel
theorem dJx4a65c_grow_92f84_36 : decode cJx4a65c_grow_92f84 36 = .ok (.iload_n 3, 1) := by decide +kernel
theorem dJx4a65c_grow_92f84_37 : decode cJx4a65c_grow_92f84 37 = .ok (.invokestatic 66, 3) := by decide +kernel
theorem dJx4a65c_grow_92f84_40 : decode cJx4a65c_grow_92f84 40 = .ok (.dup_x1, 1) := by decide +kernel
theorem dJx4a65c_grow_92f84_41 : decode cJx4a65c_grow_92f84 41 = .ok (.putfield 9, 3) := by decide +kernel
theorem dJx4a65c_grow_92f84_44 : decode cJx4a65c_grow_92f84 44 = .ok (.areturn, 1) := by decide +kernel
theorem dJx4a65c_grow_92f84_45 : decode cJx4a65c_grow_92f84 45 = .ok (.aload_n 0, 1) := by decide +kernel
theorem dJx4a65c_grow_92f84_46 : decode cJx4a65c_grow_92f84 46 = .ok (.bipush 10, 2) := by decide +kernel
theorem dJx4a65c_grow_92f84_48 : decode cJx4a65c_grow_92f84 48 = .ok (.iload_n 1, 1) := by decide +kernel
theorem dJx4a65c_grow_92f84_49 : decode cJx4a65c_grow_92f84 49 = .ok (.invokestatic 79, 3) := by decide +kernel
theorem dJx4a65c_grow_92f84_52 : decode cJx4a65c_grow_92f84 52 = .ok (.anewarray 7, 3) := by decide +kernel
theorem dJx4a65c_grow_92f84_55 : decode cJx4a65c_grow_92f84 55 = .ok (.dup_x1, 1) := by decide +kernel
theorem dJx4a65c_grow_92f84_56 : decode cJx4a65c_grow_92f84 56 = .ok (.putfield 9, 3) := by decide +kernel
theorem dJx4a65c_grow_92f84_59 : decode cJx4a65c_grow_92f84 59 = .ok (.areturn, 1) := by decide +kernel
theorem dJx4a65c_grow_d5877_0 : decode cJx4a65c_grow_d5877 0 = .ok (.aload_n 0, 1) := by decide +kernel
theorem dJx4a65c_grow_d5877_1 : decode cJx4a65c_grow_d5877 1 = .ok (.aload_n 0, 1) := by decide +kernel
theorem dJx4a65c_grow_d5877_2 : decode cJx4a65c_grow_d5877 2 = .ok (.getfield 48, 3) := by decide +kernel
theorem dJx4a65c_grow_d5877_5 : decode cJx4a65c_grow_d5877 5 = .ok (.iconst 1, 1) := by decide +kernel
theorem dJx4a65c_grow_d5877_6 : decode cJx4a65c_grow_d5877 6 = .ok (.iadd, 1) := by decide +kernel
theorem dJx4a65c_grow_d5877_7 : decode cJx4a65c_grow_d5877 7 = .ok (.invokevirtual 69, 3) := by decide +kernel
theorem dJx4a65c_grow_d5877_10 : decode cJx4a65c_grow_d5877 10 = .ok (.areturn, 1) := by decide +kernel
theorem dJx4a65c_size_8abf5_0 : decode cJx4a65c_size_8abf5 0 = .ok (.aload_n 0, 1) := by decide +kernel
theorem dJx4a65c_size_8abf5_1 : decode cJx4a65c_size_8abf5 1 = .ok (.getfield 48, 3) := by decide +kernel
theorem dJx4a65c_size_8abf5_4 : decode cJx4a65c_size_8abf5 4 = .ok (.ireturn, 1) := by decide +kernel
theorem dJx4a65c_isEmpty_aae02_0 : decode cJx4a65c_isEmpty_aae02 0 = .ok (.aload_n 0, 1) := by decide +kernel
theorem dJx4a65c_isEmpty_aae02_1 : decode cJx4a65c_isEmpty_aae02 1 = .ok (.getfield 48, 3) := by decide +kernel
theorem dJx4a65c_isEmpty_aae02_4 : decode cJx4a65c_isEmpty_aae02 4 = .ok (.ifCond .ne 7, 3) := by decide +kernel
theorem dJx4a65c_isEmpty_aae02_7 : decode cJx4a65c_isEmpty_aae02 7 = .ok (.iconst 1, 1) := by decide +kernel
theorem dJx4a65c_isEmpty_aae02_8 : decode cJx4a65c_isEmpty_aae02 8 = .ok (.goto 4, 3) := by decide +kernel
theorem dJx4a65c_isEmpty_aae02_11 : decode cJx4a65c_isEmpty_aae02 11 = .ok (.iconst 0, 1) := by decide +kernel
theorem dJx4a65c_isEmpty_aae02_12 : decode cJx4a65c_isEmpty_aae02 12 = .ok (.ireturn, 1) := by decide +kernel
theorem dJx4a65c_elementData_915e3_0 : decode cJx4a65c_elementData_915e3 0 = .ok (.aload_n 0, 1) := by decide +kernel
theorem dJx4a65c_elementData_915e3_1 : decode cJx4a65c_elementData_915e3 1 = .ok (.getfield 9, 3) := by decide +kernel
theorem dJx4a65c_elementData_915e3_4 : decode cJx4a65c_elementData_915e3 4 = .ok (.iload_n 1, 1) := by decide +kernel
theorem dJx4a65c_elementData_915e3_5 : decode cJx4a65c_elementData_915e3 5 = .ok (.aaload, 1) := by decide +kernel
theorem dJx4a65c_elementData_915e3_6 : decode cJx4a65c_elementData_915e3 6 = .ok (.areturn, 1) := by decide +kernel
theorem dJx4a65c_get_915e3_0 : decode cJx4a65c_get_915e3 0 = .ok (.iload_n 1, 1) := by decide +kernel
theorem dJx4a65c_get_915e3_1 : decode cJx4a65c_get_915e3 1 = .ok (.aload_n 0, 1) := by decide +kernel
theorem dJx4a65c_get_915e3_2 : decode cJx4a65c_get_915e3 2 = .ok (.getfield 48, 3) := by decide +kernel
theorem dJx4a65c_get_915e3_5 : decode cJx4a65c_get_915e3 5 = .ok (.invokestatic 118, 3) := by decide +kernel
theorem dJx4a65c_get_915e3_8 : decode cJx4a65c_get_915e3 8 = .ok (.pop, 1) := by decide +kernel
theorem dJx4a65c_get_915e3_9 : decode cJx4a65c_get_915e3 9 = .ok (.aload_n 0, 1) := by decide +kernel
theorem dJx4a65c_get_915e3_10 : decode cJx4a65c_get_915e3 10 = .ok (.iload_n 1, 1) := by decide +kernel
theorem dJx4a65c_get_915e3_11 : decode cJx4a65c_get_915e3 11 = .ok (.invokevirtual 123, 3) := by decide +kernel
theorem dJx4a65c_get_915e3_14 : decode cJx4a65c_get_915e3 14 = .ok (.areturn, 1) := by decide +kernel
theorem dJx4a65c_add_72be8_0 : decode cJx4a65c_add_72be8 0 = .ok (.iload_n 3, 1) := by decide +kernel
theorem dJx4a65c_add_72be8_1 : decode cJx4a65c_add_72be8 1 = .ok (.aload_n 2, 1) := by decide +kernel
theorem dJx4a65c_add_72be8_2 : decode cJx4a65c_add_72be8 2 = .ok (.arraylength, 1) := by decide +kernel
theorem dJx4a65c_add_72be8_3 : decode cJx4a65c_add_72be8 3 = .ok (.if_icmp .ne 8, 3) := by decide +kernel
theorem dJx4a65c_add_72be8_6 : decode cJx4a65c_add_72be8 6 = .ok (.aload_n 0, 1) := by decide +kernel
theorem dJx4a65c_add_72be8_7 : decode cJx4a65c_add_72be8 7 = .ok (.invokevirtual 129, 3) := by decide +kernel
theorem dJx4a65c_add_72be8_10 : decode cJx4a65c_add_72be8 10 = .ok (.astore_n 2, 1) := by decide +kernel
theorem dJx4a65c_add_72be8_11 : decode cJx4a65c_add_72be8 11 = .ok (.aload_n 2, 1) := by decide +kernel
theorem dJx4a65c_add_72be8_12 : decode cJx4a65c_add_72be8 12 = .ok (.iload_n 3, 1) := by decide +kernel
theorem dJx4a65c_add_72be8_13 : decode cJx4a65c_add_72be8 13 = .ok (.aload_n 1, 1) := by decide +kernel
theorem dJx4a65c_add_72be8_14 : decode cJx4a65c_add_72be8 14 = .ok (.aastore, 1) := by decide +kernel
theorem dJx4a65c_add_72be8_15 : decode cJx4a65c_add_72be8 15 = .ok (.aload_n 0, 1) := by decide +kernel
theorem dJx4a65c_add_72be8_16 : decode cJx4a65c_add_72be8 16 = .ok (.iload_n 3, 1) := by decide +kernel
theorem dJx4a65c_add_72be8_17 : decode cJx4a65c_add_72be8 17 = .ok (.iconst 1, 1) := by decide +kernel
theorem dJx4a65c_add_72be8_18 : decode cJx4a65c_add_72be8 18 = .ok (.iadd, 1) := by decide +kernel
theorem dJx4a65c_add_72be8_19 : decode cJx4a65c_add_72be8 19 = .ok (.putfield 48, 3) := by decide +kernel
theorem dJx4a65c_add_72be8_22 : decode cJx4a65c_add_72be8 22 = .ok (.return_, 1) := by decide +kernel
theorem dJx4a65c_add_9ea2d_0 : decode cJx4a65c_add_9ea2d 0 = .ok (.aload_n 0, 1) := by decide +kernel
theorem dJx4a65c_add_9ea2d_1 : decode cJx4a65c_add_9ea2d 1 = .ok (.dup, 1) := by decide +kernel
theorem dJx4a65c_add_9ea2d_2 : decode cJx4a65c_add_9ea2d 2 = .ok (.getfield 63, 3) := by decide +kernel
theorem dJx4a65c_add_9ea2d_5 : decode cJx4a65c_add_9ea2d 5 = .ok (.iconst 1, 1) := by decide +kernel
theorem dJx4a65c_add_9ea2d_6 : decode cJx4a65c_add_9ea2d 6 = .ok (.iadd, 1) := by decide +kernel
theorem dJx4a65c_add_9ea2d_7 : decode cJx4a65c_add_9ea2d 7 = .ok (.putfield 63, 3) := by decide +kernel
theorem dJx4a65c_add_9ea2d_10 : decode cJx4a65c_add_9ea2d 10 = .ok (.aload_n 0, 1) := by decide +kernel
theorem dJx4a65c_add_9ea2d_11 : decode cJx4a65c_add_9ea2d 11 = .ok (.aload_n 1, 1) := by decide +kernel
theorem dJx4a65c_add_9ea2d_12 : decode cJx4a65c_add_9ea2d 12 = .ok (.aload_n 0, 1) := by decide +kernel
theorem dJx4a65c_add_9ea2d_13 : decode cJx4a65c_add_9ea2d 13 = .ok (.getfield 9, 3) := by decide +kernel
theorem dJx4a65c_add_9ea2d_16 : decode cJx4a65c_add_9ea2d 16 = .ok (.aload_n 0, 1) := by decide +kernel
theorem dJx4a65c_add_9ea2d_17 : decode cJx4a65c_add_9ea2d 17 = .ok (.getfield 48, 3) := by decide +kernel
theorem dJx4a65c_add_9ea2d_20 : decode cJx4a65c_add_9ea2d 20 = .ok (.invokevirtual 131, 3) := by decide +kernel
theorem dJx4a65c_add_9ea2d_23 : decode cJx4a65c_add_9ea2d 23 = .ok (.iconst 1, 1) := by decide +kernel
theorem dJx4a65c_add_9ea2d_24 : decode cJx4a65c_add_9ea2d 24 = .ok (.ireturn, 1) := by decide +kernel
theorem dJx4a65c_remove_915e3_0 : decode cJx4a65c_remove_915e3 0 = .ok (.iload_n 1, 1) := by decide +kernel
theorem dJx4a65c_remove_915e3_1 : decode cJx4a65c_remove_915e3 1 = .ok (.aload_n 0, 1) := by decide +kernel
theorem dJx4a65c_remove_915e3_2 : decode cJx4a65c_remove_915e3 2 = .ok (.getfield 48, 3) := by decide +kernel
theorem dJx4a65c_remove_915e3_5 : decode cJx4a65c_remove_915e3 5 = .ok (.invokestatic 118, 3) := by decide +kernel
theorem dJx4a65c_remove_915e3_8 : decode cJx4a65c_remove_915e3 8 = .ok (.pop, 1) := by decide +kernel
theorem dJx4a65c_remove_915e3_9 : decode cJx4a65c_remove_915e3 9 = .ok (.aload_n 0, 1) := by decide +kernel
theorem dJx4a65c_remove_915e3_10 : decode cJx4a65c_remove_915e3 10 = .ok (.getfield 9, 3) := by decide +kernel
theorem dJx4a65c_remove_915e3_13 : decode cJx4a65c_remove_915e3 13 = .ok (.astore_n 2, 1) := by decide +kernel
theorem dJx4a65c_remove_915e3_14 : decode cJx4a65c_remove_915e3 14 = .ok (.aload_n 2, 1) := by decide +kernel
theorem dJx4a65c_remove_915e3_15 : decode cJx4a65c_remove_915e3 15 = .ok (.iload_n 1, 1) := by decide +kernel
theorem dJx4a65c_remove_915e3_16 : decode cJx4a65c_remove_915e3 16 = .ok (.aaload, 1) := by decide +kernel
theorem dJx4a65c_remove_915e3_17 : decode cJx4a65c_remove_915e3 17 = .ok (.astore_n 3, 1) := by decide +kernel
theorem dJx4a65c_remove_915e3_18 : decode cJx4a65c_remove_915e3 18 = .ok (.aload_n 0, 1) := by decide +kernel
theorem dJx4a65c_remove_915e3_19 : decode cJx4a65c_remove_915e3 19 = .ok (.aload_n 2, 1) := by decide +kernel
theorem dJx4a65c_remove_915e3_20 : decode cJx4a65c_remove_915e3 20 = .ok (.iload_n 1, 1) := by decide +kernel
theorem dJx4a65c_remove_915e3_21 : decode cJx4a65c_remove_915e3 21 = .ok (.invokevirtual 144, 3) := by decide +kernel
theorem dJx4a65c_remove_915e3_24 : decode cJx4a65c_remove_915e3 24 = .ok (.aload_n 3, 1) := by decide +kernel
theorem dJx4a65c_remove_915e3_25 : decode cJx4a65c_remove_915e3 25 = .ok (.areturn, 1) := by decide +kernel
theorem dJx4a65c_fastRemove_b59b0_0 : decode cJx4a65c_fastRemove_b59b0 0 = .ok (.aload_n 0, 1) := by decide +kernel
theorem dJx4a65c_fastRemove_b59b0_1 : decode cJx4a65c_fastRemove_b59b0 1 = .ok (.dup, 1) := by decide +kernel
theorem dJx4a65c_fastRemove_b59b0_2 : decode cJx4a65c_fastRemove_b59b0 2 = .ok (.getfield 63, 3) := by decide +kernel
theorem dJx4a65c_fastRemove_b59b0_5 : decode cJx4a65c_fastRemove_b59b0 5 = .ok (.iconst 1, 1) := by decide +kernel
theorem dJx4a65c_fastRemove_b59b0_6 : decode cJx4a65c_fastRemove_b59b0 6 = .ok (.iadd, 1) := by decide +kernel
theorem dJx4a65c_fastRemove_b59b0_7 : decode cJx4a65c_fastRemove_b59b0 7 = .ok (.putfield 63, 3) := by decide +kernel
theorem dJx4a65c_fastRemove_b59b0_10 : decode cJx4a65c_fastRemove_b59b0 10 = .ok (.aload_n 0, 1) := by decide +kernel
theorem dJx4a65c_fastRemove_b59b0_11 : decode cJx4a65c_fastRemove_b59b0 11 = .ok (.getfield 48, 3) := by decide +kernel
theorem dJx4a65c_fastRemove_b59b0_14 : decode cJx4a65c_fastRemove_b59b0 14 = .ok (.iconst 1, 1) := by decide +kernel
theorem dJx4a65c_fastRemove_b59b0_15 : decode cJx4a65c_fastRemove_b59b0 15 = .ok (.isub, 1) := by decide +kernel
theorem dJx4a65c_fastRemove_b59b0_16 : decode cJx4a65c_fastRemove_b59b0 16 = .ok (.dup, 1) := by decide +kernel
theorem dJx4a65c_fastRemove_b59b0_17 : decode cJx4a65c_fastRemove_b59b0 17 = .ok (.istore_n 3, 1) := by decide +kernel
theorem dJx4a65c_fastRemove_b59b0_18 : decode cJx4a65c_fastRemove_b59b0 18 = .ok (.iload_n 2, 1) := by decide +kernel
theorem dJx4a65c_fastRemove_b59b0_19 : decode cJx4a65c_fastRemove_b59b0 19 = .ok (.if_icmp .le 15, 3) := by decide +kernel
theorem dJx4a65c_fastRemove_b59b0_22 : decode cJx4a65c_fastRemove_b59b0 22 = .ok (.aload_n 1, 1) := by decide +kernel
theorem dJx4a65c_fastRemove_b59b0_23 : decode cJx4a65c_fastRemove_b59b0 23 = .ok (.iload_n 2, 1) := by decide +kernel
theorem dJx4a65c_fastRemove_b59b0_24 : decode cJx4a65c_fastRemove_b59b0 24 = .ok (.iconst 1, 1) := by decide +kernel
theorem dJx4a65c_fastRemove_b59b0_25 : decode cJx4a65c_fastRemove_b59b0 25 = .ok (.iadd, 1) := by decide +kernel
theorem dJx4a65c_fastRemove_b59b0_26 : decode cJx4a65c_fastRemove_b59b0 26 = .ok (.aload_n 1, 1) := by decide +kernel
theorem dJx4a65c_fastRemove_b59b0_27 : decode cJx4a65c_fastRemove_b59b0 27 = .ok (.iload_n 2, 1) := by decide +kernel
theorem dJx4a65c_fastRemove_b59b0_28 : decode cJx4a65c_fastRemove_b59b0 28 = .ok (.iload_n 3, 1) := by decide +kernel
theorem dJx4a65c_fastRemove_b59b0_29 : decode cJx4a65c_fastRemove_b59b0 29 = .ok (.iload_n 2, 1) := by decide +kernel
theorem dJx4a65c_fastRemove_b59b0_30 : decode cJx4a65c_fastRemove_b59b0 30 = .ok (.isub, 1) := by decide +kernel
theorem dJx4a65c_fastRemove_b59b0_31 : decode cJx4a65c_fastRemove_b59b0 31 = .ok (.invokestatic 112, 3) := by decide +kernel
theorem dJx4a65c_fastRemove_b59b0_34 : decode cJx4a65c_fastRemove_b59b0 34 = .ok (.aload_n 1, 1) := by decide +kernel
theorem dJx4a65c_fastRemove_b59b0_35 : decode cJx4a65c_fastRemove_b59b0 35 = .ok (.aload_n 0, 1) := by decide +kernel
theorem dJx4a65c_fastRemove_b59b0_36 : decode cJx4a65c_fastRemove_b59b0 36 = .ok (.iload_n 3, 1) := by decide +kernel
theorem dJx4a65c_fastRemove_b59b0_37 : decode cJx4a65c_fastRemove_b59b0 37 = .ok (.dup_x1, 1) := by decide +kernel
theorem dJx4a65c_fastRemove_b59b0_38 : decode cJx4a65c_fastRemove_b59b0 38 = .ok (.putfield 48, 3) := by decide +kernel
theorem dJx4a65c_fastRemove_b59b0_41 : decode cJx4a65c_fastRemove_b59b0 41 = .ok (.aconst_null, 1) := by decide +kernel
theorem dJx4a65c_fastRemove_b59b0_42 : decode cJx4a65c_fastRemove_b59b0 42 = .ok (.aastore, 1) := by decide +kernel
theorem dJx4a65c_fastRemove_b59b0_43 : decode cJx4a65c_fastRemove_b59b0 43 = .ok (.return_, 1) := by decide +kernel
theorem dJ7_copyOf_1904c_0 : decode cJ7_copyOf_1904c 0 = .ok (.aload_n 0, 1) := by decide +kernel
theorem dJ7_copyOf_1904c_1 : decode cJ7_copyOf_1904c 1 = .ok (.iload_n 1, 1) := by decide +kernel
theorem dJ7_copyOf_1904c_2 : decode cJ7_copyOf_1904c 2 = .ok (.aload_n 0, 1) := by decide +kernel
theorem dJ7_copyOf_1904c_3 : decode cJ7_copyOf_1904c 3 = .ok (.invokevirtual 86, 3) := by decide +kernel
theorem dJ7_copyOf_1904c_6 : decode cJ7_copyOf_1904c 6 = .ok (.invokestatic 300, 3) := by decide +kernel
theorem dJ7_copyOf_1904c_9 : decode cJ7_copyOf_1904c 9 = .ok (.areturn, 1) := by decide +kernel
theorem dJ7_copyOf_6403c_0 : decode cJ7_copyOf_6403c 0 = .ok (.aload_n 2, 1) := by decide +kernel
theorem dJ7_copyOf_6403c_1 : decode cJ7_copyOf_6403c 1 = .ok (.ldc 110, 2) := by decide +kernel
theorem dJ7_copyOf_6403c_3 : decode cJ7_copyOf_6403c 3 = .ok (.if_acmp .ne 10, 3) := by decide +kernel
theorem dJ7_copyOf_6403c_6 : decode cJ7_copyOf_6403c 6 = .ok (.iload_n 1, 1) := by decide +kernel
theorem dJ7_copyOf_6403c_7 : decode cJ7_copyOf_6403c 7 = .ok (.anewarray 2, 3) := by decide +kernel
theorem dJ7_copyOf_6403c_10 : decode cJ7_copyOf_6403c 10 = .ok (.goto 14, 3) := by decide +kernel
theorem dJ7_copyOf_6403c_13 : decode cJ7_copyOf_6403c 13 = .ok (.aload_n 2, 1) := by decide +kernel
theorem dJ7_copyOf_6403c_14 : decode cJ7_copyOf_6403c 14 = .ok (.invokevirtual 90, 3) := by decide +kernel
theorem dJ7_copyOf_6403c_17 : decode cJ7_copyOf_6403c 17 = .ok (.iload_n 1, 1) := by decide +kernel
theorem dJ7_copyOf_6403c_18 : decode cJ7_copyOf_6403c 18 = .ok (.invokestatic 95, 3) := by decide +kernel
theorem dJ7_copyOf_6403c_21 : decode cJ7_copyOf_6403c 21 = .ok (.checkcast 110, 3) := by decide +kernel
theorem dJ7_copyOf_6403c_24 : decode cJ7_copyOf_6403c 24 = .ok (.astore_n 3, 1) := by decide +kernel
theorem dJ7_copyOf_6403c_25 : decode cJ7_copyOf_6403c 25 = .ok (.aload_n 0, 1) := by decide +kernel
theorem dJ7_copyOf_6403c_26 : decode cJ7_copyOf_6403c 26 = .ok (.iconst 0, 1) := by decide +kernel
theorem dJ7_copyOf_6403c_27 : decode cJ7_copyOf_6403c 27 = .ok (.aload_n 3, 1) := by decide +kernel
theorem dJ7_copyOf_6403c_28 : decode cJ7_copyOf_6403c 28 = .ok (.iconst 0, 1) := by decide +kernel
theorem dJ7_copyOf_6403c_29 : decode cJ7_copyOf_6403c 29 = .ok (.aload_n 0, 1) := by decide +kernel
theorem dJ7_copyOf_6403c_30 : decode cJ7_copyOf_6403c 30 = .ok (.arraylength, 1) := by decide +kernel
theorem dJ7_copyOf_6403c_31 : decode cJ7_copyOf_6403c 31 = .ok (.iload_n 1, 1) := by decide +kernel
theorem dJ7_copyOf_6403c_32 : decode cJ7_copyOf_6403c 32 = .ok (.invokestatic 304, 3) := by decide +kernel
theorem dJ7_copyOf_6403c_35 : decode cJ7_copyOf_6403c 35 = .ok (.invokestatic 150, 3) := by decide +kernel
theorem dJ7_copyOf_6403c_38 : decode cJ7_copyOf_6403c 38 = .ok (.aload_n 3, 1) := by decide +kernel
theorem dJ7_copyOf_6403c_39 : decode cJ7_copyOf_6403c 39 = .ok (.areturn, 1) := by decide +kernel
theorem dJ15_checkIndex_7cf53_0 : decode cJ15_checkIndex_7cf53 0 = .ok (.iload_n 0, 1) := by decide +kernel
theorem dJ15_checkIndex_7cf53_1 : decode cJ15_checkIndex_7cf53 1 = .ok (.iload_n 1, 1) := by decide +kernel
theorem dJ15_checkIndex_7cf53_2 : decode cJ15_checkIndex_7cf53 2 = .ok (.aconst_null, 1) := by decide +kernel
theorem dJ15_checkIndex_7cf53_3 : decode cJ15_checkIndex_7cf53 3 = .ok (.invokestatic 105, 3) := by decide +kernel
theorem dJ15_checkIndex_7cf53_6 : decode cJ15_checkIndex_7cf53 6 = .ok (.ireturn, 1) := by decide +kernel
theorem dJ8_newLength_cabcc_0 : decode cJ8_newLength_cabcc 0 = .ok (.iload_n 0, 1) := by decide +kernel
theorem dJ8_newLength_cabcc_1 : decode cJ8_newLength_cabcc 1 = .ok (.iload_n 1, 1) := by decide +kernel
theorem dJ8_newLength_cabcc_2 : decode cJ8_newLength_cabcc 2 = .ok (.iload_n 2, 1) := by decide +kernel
theorem dJ8_newLength_cabcc_3 : decode cJ8_newLength_cabcc 3 = .ok (.invokestatic 194, 3) := by decide +kernel
theorem dJ8_newLength_cabcc_6 : decode cJ8_newLength_cabcc 6 = .ok (.iadd, 1) := by decide +kernel
theorem dJ8_newLength_cabcc_7 : decode cJ8_newLength_cabcc 7 = .ok (.istore_n 3, 1) := by decide +kernel
theorem dJ8_newLength_cabcc_8 : decode cJ8_newLength_cabcc 8 = .ok (.iconst 0, 1) := by decide +kernel
theorem dJ8_newLength_cabcc_9 : decode cJ8_newLength_cabcc 9 = .ok (.iload_n 3, 1) := by decide +kernel
theorem dJ8_newLength_cabcc_10 : decode cJ8_newLength_cabcc 10 = .ok (.if_icmp .ge 11, 3) := by decide +kernel
theorem dJ8_newLength_cabcc_13 : decode cJ8_newLength_cabcc 13 = .ok (.iload_n 3, 1) := by decide +kernel
theorem dJ8_newLength_cabcc_14 : decode cJ8_newLength_cabcc 14 = .ok (.ldc 200, 2) := by decide +kernel
theorem dJ8_newLength_cabcc_16 : decode cJ8_newLength_cabcc 16 = .ok (.if_icmp .gt 5, 3) := by decide +kernel
theorem dJ8_newLength_cabcc_19 : decode cJ8_newLength_cabcc 19 = .ok (.iload_n 3, 1) := by decide +kernel
theorem dJ8_newLength_cabcc_20 : decode cJ8_newLength_cabcc 20 = .ok (.ireturn, 1) := by decide +kernel
theorem dJ8_newLength_cabcc_21 : decode cJ8_newLength_cabcc 21 = .ok (.iload_n 0, 1) := by decide +kernel
theorem dJ8_newLength_cabcc_22 : decode cJ8_newLength_cabcc 22 = .ok (.iload_n 1, 1) := by decide +kernel
theorem dJ8_newLength_cabcc_23 : decode cJ8_newLength_cabcc 23 = .ok (.invokestatic 201, 3) := by decide +kernel
theorem dJ8_newLength_cabcc_26 : decode cJ8_newLength_cabcc 26 = .ok (.ireturn, 1) := by decide +kernel
theorem dJ8_hugeLength_7cf53_0 : decode cJ8_hugeLength_7cf53 0 = .ok (.iload_n 0, 1) := by decide +kernel
theorem dJ8_hugeLength_7cf53_1 : decode cJ8_hugeLength_7cf53 1 = .ok (.iload_n 1, 1) := by decide +kernel
theorem dJ8_hugeLength_7cf53_2 : decode cJ8_hugeLength_7cf53 2 = .ok (.iadd, 1) := by decide +kernel
theorem dJ8_hugeLength_7cf53_3 : decode cJ8_hugeLength_7cf53 3 = .ok (.istore_n 2, 1) := by decide +kernel
theorem dJ8_hugeLength_7cf53_4 : decode cJ8_hugeLength_7cf53 4 = .ok (.iload_n 2, 1) := by decide +kernel
theorem dJ8_hugeLength_7cf53_5 : decode cJ8_hugeLength_7cf53 5 = .ok (.ifCond .ge 44, 3) := by decide +kernel
theorem dJ8_hugeLength_7cf53_8 : decode cJ8_hugeLength_7cf53 8 = .ok (.new 204, 3) := by decide +kernel
theorem dJ8_hugeLength_7cf53_11 : decode cJ8_hugeLength_7cf53 11 = .ok (.dup, 1) := by decide +kernel
theorem dJ8_hugeLength_7cf53_12 : decode cJ8_hugeLength_7cf53 12 = .ok (.new 89, 3) := by decide +kernel
theorem dJ8_hugeLength_7cf53_15 : decode cJ8_hugeLength_7cf53 15 = .ok (.dup, 1) := by decide +kernel
theorem dJ8_hugeLength_7cf53_16 : decode cJ8_hugeLength_7cf53 16 = .ok (.invokespecial 91, 3) := by decide +kernel
theorem dJ8_hugeLength_7cf53_19 : decode cJ8_hugeLength_7cf53 19 = .ok (.ldc 206, 2) := by decide +kernel
theorem dJ8_hugeLength_7cf53_21 : decode cJ8_hugeLength_7cf53 21 = .ok (.invokevirtual 94, 3) := by decide +kernel
theorem dJ8_hugeLength_7cf53_24 : decode cJ8_hugeLength_7cf53 24 = .ok (.iload_n 0, 1) := by decide +kernel
theorem dJ8_hugeLength_7cf53_25 : decode cJ8_hugeLength_7cf53 25 = .ok (.invokevirtual 98, 3) := by decide +kernel
theorem dJ8_hugeLength_7cf53_28 : decode cJ8_hugeLength_7cf53 28 = .ok (.ldc 208, 2) := by decide +kernel
theorem dJ8_hugeLength_7cf53_30 : decode cJ8_hugeLength_7cf53 30 = .ok (.invokevirtual 94, 3) := by decide +kernel
theorem dJ8_hugeLength_7cf53_33 : decode cJ8_hugeLength_7cf53 33 = .ok (.iload_n 1, 1) := by decide +kernel
theorem dJ8_hugeLength_7cf53_34 : decode cJ8_hugeLength_7cf53 34 = .ok (.invokevirtual 98, 3) := by decide +kernel
theorem dJ8_hugeLength_7cf53_37 : decode cJ8_hugeLength_7cf53 37 = .ok (.ldc 210, 2) := by decide +kernel
theorem dJ8_hugeLength_7cf53_39 : decode cJ8_hugeLength_7cf53 39 = .ok (.invokevirtual 94, 3) := by decide +kernel
theorem dJ8_hugeLength_7cf53_42 : decode cJ8_hugeLength_7cf53 42 = .ok (.invokevirtual 101, 3) := by decide +kernel
theorem dJ8_hugeLength_7cf53_45 : decode cJ8_hugeLength_7cf53 45 = .ok (.invokespecial 212, 3) := by decide +kernel
theorem dJ8_hugeLength_7cf53_48 : decode cJ8_hugeLength_7cf53 48 = .ok (.athrow, 1) := by decide +kernel
theorem dJ8_hugeLength_7cf53_49 : decode cJ8_hugeLength_7cf53 49 = .ok (.iload_n 2, 1) := by decide +kernel
theorem dJ8_hugeLength_7cf53_50 : decode cJ8_hugeLength_7cf53 50 = .ok (.ldc 200, 2) := by decide +kernel
theorem dJ8_hugeLength_7cf53_52 : decode cJ8_hugeLength_7cf53 52 = .ok (.if_icmp .gt 6, 3) := by decide +kernel
theorem dJ8_hugeLength_7cf53_55 : decode cJ8_hugeLength_7cf53 55 = .ok (.ldc 200, 2) := by decide +kernel
theorem dJ8_hugeLength_7cf53_57 : decode cJ8_hugeLength_7cf53 57 = .ok (.ireturn, 1) := by decide +kernel
theorem dJ8_hugeLength_7cf53_58 : decode cJ8_hugeLength_7cf53 58 = .ok (.iload_n 2, 1) := by decide +kernel
theorem dJ8_hugeLength_7cf53_59 : decode cJ8_hugeLength_7cf53 59 = .ok (.ireturn, 1) := by decide +kernel
theorem dJ3_checkIndex_8e157_0 : decode cJ3_checkIndex_8e157 0 = .ok (.iload_n 0, 1) := by decide +kernel
theorem dJ3_checkIndex_8e157_1 : decode cJ3_checkIndex_8e157 1 = .ok (.ifCond .lt 8, 3) := by decide +kernel
theorem dJ3_checkIndex_8e157_4 : decode cJ3_checkIndex_8e157 4 = .ok (.iload_n 0, 1) := by decide +kernel
theorem dJ3_checkIndex_8e157_5 : decode cJ3_checkIndex_8e157 5 = .ok (.iload_n 1, 1) := by decide +kernel
theorem dJ3_checkIndex_8e157_6 : decode cJ3_checkIndex_8e157 6 = .ok (.if_icmp .lt 10, 3) := by decide +kernel
theorem dJ3_checkIndex_8e157_9 : decode cJ3_checkIndex_8e157 9 = .ok (.aload_n 2, 1) := by decide +kernel
theorem dJ3_checkIndex_8e157_10 : decode cJ3_checkIndex_8e157 10 = .ok (.iload_n 0, 1) := by decide +kernel
theorem dJ3_checkIndex_8e157_11 : decode cJ3_checkIndex_8e157 11 = .ok (.iload_n 1, 1) := by decide +kernel
theorem dJ3_checkIndex_8e157_12 : decode cJ3_checkIndex_8e157 12 = .ok (.invokestatic 95, 3) := by decide +kernel
theorem dJ3_checkIndex_8e157_15 : decode cJ3_checkIndex_8e157 15 = .ok (.athrow, 1) := by decide +kernel
theorem dJ3_checkIndex_8e157_16 : decode cJ3_checkIndex_8e157 16 = .ok (.iload_n 0, 1) := by decide +kernel
theorem dJ3_checkIndex_8e157_17 : decode cJ3_checkIndex_8e157 17 = .ok (.ireturn, 1) := by decide +kernel
end
section
/-! words of EggHouse, its classes and the library in the tables -/
theorem ini_X0 : Cond.initialized RX0 ∈ gtbl := gtbl_in (by decide +kernel) rfl
theorem ini_X1 : Cond.initialized RX1 ∈ gtbl := gtbl_in (by decide +kernel) rfl
theorem ini_X2 : Cond.initialized RX2 ∈ gtbl := gtbl_in (by decide +kernel) rfl
theorem ini_X3 : Cond.initialized RX3 ∈ gtbl := gtbl_in (by decide +kernel) rfl
theorem ini_X4 : Cond.initialized RX4 ∈ gtbl := gtbl_in (by decide +kernel) rfl
theorem ini_Jx4a65c : Cond.initialized RJx4a65c ∈ gtbl := gtbl_in (by decide +kernel) rfl
theorem ini_Jxc12de : Cond.initialized RJxc12de ∈ gtbl := gtbl_in (by decide +kernel) rfl
theorem ini_Jxa1e45 : Cond.initialized RJxa1e45 ∈ gtbl := gtbl_in (by decide +kernel) rfl
theorem ini_J3 : Cond.initialized RJ3 ∈ gtbl := gtbl_in (by decide +kernel) rfl
theorem ini_J6 : Cond.initialized RJ6 ∈ gtbl := gtbl_in (by decide +kernel) rfl
theorem ini_J7 : Cond.initialized RJ7 ∈ gtbl := gtbl_in (by decide +kernel) rfl
theorem ini_J8 : Cond.initialized RJ8 ∈ gtbl := gtbl_in (by decide +kernel) rfl
theorem ini_J15 : Cond.initialized RJ15 ∈ gtbl := gtbl_in (by decide +kernel) rfl
theorem ini_Math : Cond.initialized "java/lang/Math" ∈ gtbl := gtbl_in (by decide +kernel) rfl
theorem ini_System : Cond.initialized "java/lang/System" ∈ gtbl := gtbl_in (by decide +kernel) rfl
theorem flJx4a65c_9 : Cond.fieldLink RJx4a65c 9 "java/util/ArrayList" "elementData" "[Ljava/lang/Object;" ∈ gtbl := gtbl_in (by decide +kernel) rfl
theorem flJx4a65c_39 : Cond.fieldLink RJx4a65c 39 "java/util/ArrayList" "DEFAULTCAPACITY_EMPTY_ELEMENTDATA" "[Ljava/lang/Object;" ∈ gtbl := gtbl_in (by decide +kernel) rfl
theorem flJx4a65c_48 : Cond.fieldLink RJx4a65c 48 "java/util/ArrayList" "size" "I" ∈ gtbl := gtbl_in (by decide +kernel) rfl
theorem flJx4a65c_63 : Cond.fieldLink RJx4a65c 63 "java/util/ArrayList" "modCount" "I" ∈ gtbl := gtbl_in (by decide +kernel) rfl
theorem flJxc12de_7 : Cond.fieldLink RJxc12de 7 "java/util/AbstractList" "modCount" "I" ∈ gtbl := gtbl_in (by decide +kernel) rfl
theorem flX0_7 : Cond.fieldLink RX0 7 "EggHouse$Egg" "number" "I" ∈ gtbl := gtbl_in (by decide +kernel) rfl
theorem flX0_13 : Cond.fieldLink RX0 13 "EggHouse$Egg" "barn" "I" ∈ gtbl := gtbl_in (by decide +kernel) rfl
theorem flX0_16 : Cond.fieldLink RX0 16 "EggHouse$Egg" "weight" "I" ∈ gtbl := gtbl_in (by decide +kernel) rfl
theorem flX0_19 : Cond.fieldLink RX0 19 "EggHouse$Egg" "taps" "I" ∈ gtbl := gtbl_in (by decide +kernel) rfl
theorem flX0_22 : Cond.fieldLink RX0 22 "EggHouse$Egg" "blood" "I" ∈ gtbl := gtbl_in (by decide +kernel) rfl
theorem flX0_25 : Cond.fieldLink RX0 25 "EggHouse$Egg" "dirt" "I" ∈ gtbl := gtbl_in (by decide +kernel) rfl
theorem flX1_7 : Cond.fieldLink RX1 7 "EggHouse$Order" "grade" "I" ∈ gtbl := gtbl_in (by decide +kernel) rfl
theorem flX1_13 : Cond.fieldLink RX1 13 "EggHouse$Order" "wanted" "I" ∈ gtbl := gtbl_in (by decide +kernel) rfl
theorem flX1_16 : Cond.fieldLink RX1 16 "EggHouse$Order" "worth" "I" ∈ gtbl := gtbl_in (by decide +kernel) rfl
theorem flX2_9 : Cond.fieldLink RX2 9 "EggHouse$Pack" "soldTo" "I" ∈ gtbl := gtbl_in (by decide +kernel) rfl
theorem flX2_15 : Cond.fieldLink RX2 15 "EggHouse$Pack" "eggs" "I" ∈ gtbl := gtbl_in (by decide +kernel) rfl
theorem flX2_18 : Cond.fieldLink RX2 18 "EggHouse$Egg" "weighedAt" "I" ∈ gtbl := gtbl_in (by decide +kernel) rfl
theorem flX2_23 : Cond.fieldLink RX2 23 "EggHouse$Pack" "firstTick" "I" ∈ gtbl := gtbl_in (by decide +kernel) rfl
theorem flX2_32 : Cond.fieldLink RX2 32 "EggHouse$Pack" "lastTick" "I" ∈ gtbl := gtbl_in (by decide +kernel) rfl
theorem flX2_38 : Cond.fieldLink RX2 38 "EggHouse$Pack" "barns" "I" ∈ gtbl := gtbl_in (by decide +kernel) rfl
theorem flX2_41 : Cond.fieldLink RX2 41 "EggHouse$Egg" "barn" "I" ∈ gtbl := gtbl_in (by decide +kernel) rfl
theorem flX2_44 : Cond.fieldLink RX2 44 "EggHouse$Pack" "weights" "I" ∈ gtbl := gtbl_in (by decide +kernel) rfl
theorem flX2_47 : Cond.fieldLink RX2 47 "EggHouse$Egg" "weight" "I" ∈ gtbl := gtbl_in (by decide +kernel) rfl
theorem flX2_50 : Cond.fieldLink RX2 50 "EggHouse$Pack" "scaleTolds" "I" ∈ gtbl := gtbl_in (by decide +kernel) rfl
theorem flX2_53 : Cond.fieldLink RX2 53 "EggHouse$Egg" "scaleTold" "I" ∈ gtbl := gtbl_in (by decide +kernel) rfl
theorem flX2_56 : Cond.fieldLink RX2 56 "EggHouse$Pack" "grade" "I" ∈ gtbl := gtbl_in (by decide +kernel) rfl
theorem flX2_59 : Cond.fieldLink RX2 59 "EggHouse$Pack" "held" "Z" ∈ gtbl := gtbl_in (by decide +kernel) rfl
theorem flX3_7 : Cond.fieldLink RX3 7 "EggHouse$Packer" "isOn" "Z" ∈ gtbl := gtbl_in (by decide +kernel) rfl
theorem flX3_16 : Cond.fieldLink RX3 16 "EggHouse$Packer" "tray" "LEggHouse$Pack;" ∈ gtbl := gtbl_in (by decide +kernel) rfl
theorem flX3_20 : Cond.fieldLink RX3 20 "EggHouse$Packer" "place" "I" ∈ gtbl := gtbl_in (by decide +kernel) rfl
theorem flX3_24 : Cond.fieldLink RX3 24 "EggHouse$Packer" "grade" "I" ∈ gtbl := gtbl_in (by decide +kernel) rfl
theorem flX4_10 : Cond.fieldLink RX4 10 "EggHouse" "queue" "Ljava/util/ArrayList;" ∈ gtbl := gtbl_in (by decide +kernel) rfl
theorem flX4_16 : Cond.fieldLink RX4 16 "EggHouse" "wash" "Ljava/util/ArrayList;" ∈ gtbl := gtbl_in (by decide +kernel) rfl
theorem flX4_21 : Cond.fieldLink RX4 21 "EggHouse" "line" "[LEggHouse$Egg;" ∈ gtbl := gtbl_in (by decide +kernel) rfl
theorem flX4_27 : Cond.fieldLink RX4 27 "EggHouse" "packers" "[LEggHouse$Packer;" ∈ gtbl := gtbl_in (by decide +kernel) rfl
theorem flX4_31 : Cond.fieldLink RX4 31 "EggHouse" "packs" "Ljava/util/ArrayList;" ∈ gtbl := gtbl_in (by decide +kernel) rfl
theorem flX4_34 : Cond.fieldLink RX4 34 "EggHouse" "orders" "Ljava/util/ArrayList;" ∈ gtbl := gtbl_in (by decide +kernel) rfl
theorem flX4_39 : Cond.fieldLink RX4 39 "EggHouse" "byBarn" "[[I" ∈ gtbl := gtbl_in (by decide +kernel) rfl
theorem flX4_71 : Cond.fieldLink RX4 71 "EggHouse" "tickNumber" "I" ∈ gtbl := gtbl_in (by decide +kernel) rfl
theorem flX4_75 : Cond.fieldLink RX4 75 "EggHouse" "driftNow" "I" ∈ gtbl := gtbl_in (by decide +kernel) rfl
theorem flX4_84 : Cond.fieldLink RX4 84 "EggHouse$Packer" "tray" "LEggHouse$Pack;" ∈ gtbl := gtbl_in (by decide +kernel) rfl
theorem flX4_88 : Cond.fieldLink RX4 88 "EggHouse$Pack" "eggs" "I" ∈ gtbl := gtbl_in (by decide +kernel) rfl
theorem flX4_93 : Cond.fieldLink RX4 93 "EggHouse$Packer" "grade" "I" ∈ gtbl := gtbl_in (by decide +kernel) rfl
theorem flX4_96 : Cond.fieldLink RX4 96 "EggHouse$Packer" "isOn" "Z" ∈ gtbl := gtbl_in (by decide +kernel) rfl
theorem flX4_104 : Cond.fieldLink RX4 104 "EggHouse$Egg" "number" "I" ∈ gtbl := gtbl_in (by decide +kernel) rfl
theorem flX4_107 : Cond.fieldLink RX4 107 "EggHouse$Egg" "barn" "I" ∈ gtbl := gtbl_in (by decide +kernel) rfl
theorem flX4_110 : Cond.fieldLink RX4 110 "EggHouse$Egg" "weight" "I" ∈ gtbl := gtbl_in (by decide +kernel) rfl
theorem flX4_113 : Cond.fieldLink RX4 113 "EggHouse$Egg" "scaleTold" "I" ∈ gtbl := gtbl_in (by decide +kernel) rfl
theorem flX4_119 : Cond.fieldLink RX4 119 "EggHouse$Packer" "busy" "I" ∈ gtbl := gtbl_in (by decide +kernel) rfl
theorem flX4_122 : Cond.fieldLink RX4 122 "EggHouse$Pack" "barns" "I" ∈ gtbl := gtbl_in (by decide +kernel) rfl
theorem flX4_131 : Cond.fieldLink RX4 131 "EggHouse" "washedEver" "I" ∈ gtbl := gtbl_in (by decide +kernel) rfl
theorem flX4_141 : Cond.fieldLink RX4 141 "EggHouse$Pack" "grade" "I" ∈ gtbl := gtbl_in (by decide +kernel) rfl
theorem flX4_142 : Cond.fieldLink RX4 142 "EggHouse$Pack" "firstTick" "I" ∈ gtbl := gtbl_in (by decide +kernel) rfl
theorem flX4_145 : Cond.fieldLink RX4 145 "EggHouse$Pack" "lastTick" "I" ∈ gtbl := gtbl_in (by decide +kernel) rfl
theorem flX4_148 : Cond.fieldLink RX4 148 "EggHouse$Pack" "soldTo" "I" ∈ gtbl := gtbl_in (by decide +kernel) rfl
theorem flX4_151 : Cond.fieldLink RX4 151 "EggHouse$Pack" "held" "Z" ∈ gtbl := gtbl_in (by decide +kernel) rfl
theorem flX4_154 : Cond.fieldLink RX4 154 "EggHouse$Pack" "weights" "I" ∈ gtbl := gtbl_in (by decide +kernel) rfl
theorem flX4_157 : Cond.fieldLink RX4 157 "EggHouse$Pack" "scaleTolds" "I" ∈ gtbl := gtbl_in (by decide +kernel) rfl
theorem flX4_181 : Cond.fieldLink RX4 181 "EggHouse$Order" "grade" "I" ∈ gtbl := gtbl_in (by decide +kernel) rfl
theorem flX4_182 : Cond.fieldLink RX4 182 "EggHouse$Order" "wanted" "I" ∈ gtbl := gtbl_in (by decide +kernel) rfl
theorem flX4_185 : Cond.fieldLink RX4 185 "EggHouse$Order" "worth" "I" ∈ gtbl := gtbl_in (by decide +kernel) rfl
theorem flX4_188 : Cond.fieldLink RX4 188 "EggHouse$Order" "served" "Z" ∈ gtbl := gtbl_in (by decide +kernel) rfl
theorem flX4_201 : Cond.fieldLink RX4 201 "EggHouse" "traceSum" "J" ∈ gtbl := gtbl_in (by decide +kernel) rfl
theorem flX4_224 : Cond.fieldLink RX4 224 "EggHouse$Egg" "weighedAt" "I" ∈ gtbl := gtbl_in (by decide +kernel) rfl
theorem flX4_237 : Cond.fieldLink RX4 237 "EggHouse$Egg" "taps" "I" ∈ gtbl := gtbl_in (by decide +kernel) rfl
theorem flX4_250 : Cond.fieldLink RX4 250 "EggHouse$Egg" "blood" "I" ∈ gtbl := gtbl_in (by decide +kernel) rfl
theorem flX4_258 : Cond.fieldLink RX4 258 "EggHouse$Egg" "dirt" "I" ∈ gtbl := gtbl_in (by decide +kernel) rfl
theorem flX4_264 : Cond.fieldLink RX4 264 "EggHouse$Egg" "washedAt" "I" ∈ gtbl := gtbl_in (by decide +kernel) rfl
theorem flX4_267 : Cond.fieldLink RX4 267 "EggHouse$Packer" "place" "I" ∈ gtbl := gtbl_in (by decide +kernel) rfl
theorem flX4_303 : Cond.fieldLink RX4 303 "EggHouse" "GRADE_ENDS" "[I" ∈ gtbl := gtbl_in (by decide +kernel) rfl
theorem sf_modCount : Cond.sameField "java/util/ArrayList" "java/util/AbstractList" "modCount" "I" ∈ gtbl := gtbl_in (by decide +kernel) rfl
theorem mlJ15_105 : Cond.methodLink RJ15 105 yJ3_checkIndex_8e157 ∈ gtbl := gtbl_in (by decide +kernel) rfl
theorem mlJ7_300 : Cond.methodLink RJ7 300 yJ7_copyOf_6403c ∈ gtbl := gtbl_in (by decide +kernel) rfl
theorem mlJ7_304 : Cond.methodLink RJ7 304 Lib.Math.min.name ∈ gtbl := gtbl_in (by decide +kernel) rfl
theorem mlJ8_194 : Cond.methodLink RJ8 194 Lib.Math.max.name ∈ gtbl := gtbl_in (by decide +kernel) rfl
theorem mlJ8_201 : Cond.methodLink RJ8 201 yJ8_hugeLength_7cf53 ∈ gtbl := gtbl_in (by decide +kernel) rfl
theorem mlJx4a65c_1 : Cond.methodLink RJx4a65c 1 yJxc12de_init_da8c8 ∈ gtbl := gtbl_in (by decide +kernel) rfl
theorem mlJx4a65c_66 : Cond.methodLink RJx4a65c 66 yJ7_copyOf_1904c ∈ gtbl := gtbl_in (by decide +kernel) rfl
theorem mlJx4a65c_69 : Cond.methodLink RJx4a65c 69 yJx4a65c_grow_92f84 ∈ gtbl := gtbl_in (by decide +kernel) rfl
theorem mlJx4a65c_73 : Cond.methodLink RJx4a65c 73 yJ8_newLength_cabcc ∈ gtbl := gtbl_in (by decide +kernel) rfl
theorem mlJx4a65c_79 : Cond.methodLink RJx4a65c 79 Lib.Math.max.name ∈ gtbl := gtbl_in (by decide +kernel) rfl
theorem mlJx4a65c_118 : Cond.methodLink RJx4a65c 118 yJ15_checkIndex_7cf53 ∈ gtbl := gtbl_in (by decide +kernel) rfl
theorem mlJx4a65c_123 : Cond.methodLink RJx4a65c 123 yJx4a65c_elementData_915e3 ∈ gtbl := gtbl_in (by decide +kernel) rfl
theorem mlJx4a65c_129 : Cond.methodLink RJx4a65c 129 yJx4a65c_grow_d5877 ∈ gtbl := gtbl_in (by decide +kernel) rfl
theorem mlJx4a65c_131 : Cond.methodLink RJx4a65c 131 yJx4a65c_add_72be8 ∈ gtbl := gtbl_in (by decide +kernel) rfl
theorem mlJx4a65c_144 : Cond.methodLink RJx4a65c 144 yJx4a65c_fastRemove_b59b0 ∈ gtbl := gtbl_in (by decide +kernel) rfl
theorem mlJxa1e45_1 : Cond.methodLink RJxa1e45 1 Lib.objectInit ∈ gtbl := gtbl_in (by decide +kernel) rfl
theorem mlJxc12de_1 : Cond.methodLink RJxc12de 1 yJxa1e45_init_da8c8 ∈ gtbl := gtbl_in (by decide +kernel) rfl
theorem mlL_9 : Cond.methodLink RL 9 yX4_init ∈ gtbl := gtbl_in (by decide +kernel) rfl
theorem mlL_12 : Cond.methodLink RL 12 yX5_init ∈ gtbl := gtbl_in (by decide +kernel) rfl
theorem mlL_13 : Cond.methodLink RL 13 yX4_egg ∈ gtbl := gtbl_in (by decide +kernel) rfl
theorem mlL_17 : Cond.methodLink RL 17 yX5_egg ∈ gtbl := gtbl_in (by decide +kernel) rfl
theorem mlL_18 : Cond.methodLink RL 18 yX4_tick ∈ gtbl := gtbl_in (by decide +kernel) rfl
theorem mlL_22 : Cond.methodLink RL 22 yX5_tick ∈ gtbl := gtbl_in (by decide +kernel) rfl
theorem mlL_23 : Cond.methodLink RL 23 yX4_drift ∈ gtbl := gtbl_in (by decide +kernel) rfl
theorem mlL_26 : Cond.methodLink RL 26 yX5_drift ∈ gtbl := gtbl_in (by decide +kernel) rfl
theorem mlL_27 : Cond.methodLink RL 27 yX4_grade ∈ gtbl := gtbl_in (by decide +kernel) rfl
theorem mlL_31 : Cond.methodLink RL 31 yX5_grade ∈ gtbl := gtbl_in (by decide +kernel) rfl
theorem mlL_32 : Cond.methodLink RL 32 yX4_on ∈ gtbl := gtbl_in (by decide +kernel) rfl
theorem mlL_36 : Cond.methodLink RL 36 yX5_on ∈ gtbl := gtbl_in (by decide +kernel) rfl
theorem mlL_37 : Cond.methodLink RL 37 yX4_at ∈ gtbl := gtbl_in (by decide +kernel) rfl
theorem mlL_40 : Cond.methodLink RL 40 yX5_at ∈ gtbl := gtbl_in (by decide +kernel) rfl
theorem mlL_41 : Cond.methodLink RL 41 yX4_packer ∈ gtbl := gtbl_in (by decide +kernel) rfl
theorem mlL_44 : Cond.methodLink RL 44 yX5_packer ∈ gtbl := gtbl_in (by decide +kernel) rfl
theorem mlL_45 : Cond.methodLink RL 45 yX4_count ∈ gtbl := gtbl_in (by decide +kernel) rfl
theorem mlL_48 : Cond.methodLink RL 48 yX5_count ∈ gtbl := gtbl_in (by decide +kernel) rfl
theorem mlL_49 : Cond.methodLink RL 49 yX4_barn ∈ gtbl := gtbl_in (by decide +kernel) rfl
theorem mlL_52 : Cond.methodLink RL 52 yX5_barn ∈ gtbl := gtbl_in (by decide +kernel) rfl
theorem mlL_53 : Cond.methodLink RL 53 yX4_pack ∈ gtbl := gtbl_in (by decide +kernel) rfl
theorem mlL_56 : Cond.methodLink RL 56 yX5_pack ∈ gtbl := gtbl_in (by decide +kernel) rfl
theorem mlL_57 : Cond.methodLink RL 57 yX4_free ∈ gtbl := gtbl_in (by decide +kernel) rfl
theorem mlL_60 : Cond.methodLink RL 60 yX5_free ∈ gtbl := gtbl_in (by decide +kernel) rfl
theorem mlL_61 : Cond.methodLink RL 61 yX4_order ∈ gtbl := gtbl_in (by decide +kernel) rfl
theorem mlL_65 : Cond.methodLink RL 65 yX5_order ∈ gtbl := gtbl_in (by decide +kernel) rfl
theorem mlL_66 : Cond.methodLink RL 66 yX4_best ∈ gtbl := gtbl_in (by decide +kernel) rfl
theorem mlL_69 : Cond.methodLink RL 69 yX5_best ∈ gtbl := gtbl_in (by decide +kernel) rfl
theorem mlL_70 : Cond.methodLink RL 70 yX4_serve ∈ gtbl := gtbl_in (by decide +kernel) rfl
theorem mlL_74 : Cond.methodLink RL 74 yX5_serve ∈ gtbl := gtbl_in (by decide +kernel) rfl
theorem mlL_75 : Cond.methodLink RL 75 yX4_about ∈ gtbl := gtbl_in (by decide +kernel) rfl
theorem mlL_78 : Cond.methodLink RL 78 yX5_about ∈ gtbl := gtbl_in (by decide +kernel) rfl
theorem mlL_79 : Cond.methodLink RL 79 yX4_doubt ∈ gtbl := gtbl_in (by decide +kernel) rfl
theorem mlL_82 : Cond.methodLink RL 82 yX5_doubt ∈ gtbl := gtbl_in (by decide +kernel) rfl
theorem mlL_83 : Cond.methodLink RL 83 yX4_hours ∈ gtbl := gtbl_in (by decide +kernel) rfl
theorem mlL_87 : Cond.methodLink RL 87 yX5_hours ∈ gtbl := gtbl_in (by decide +kernel) rfl
theorem mlL_88 : Cond.methodLink RL 88 yX4_clear ∈ gtbl := gtbl_in (by decide +kernel) rfl
theorem mlL_91 : Cond.methodLink RL 91 yX5_clear ∈ gtbl := gtbl_in (by decide +kernel) rfl
theorem mlL_92 : Cond.methodLink RL 92 yX4_told ∈ gtbl := gtbl_in (by decide +kernel) rfl
theorem mlL_95 : Cond.methodLink RL 95 yX5_told ∈ gtbl := gtbl_in (by decide +kernel) rfl
theorem mlL_96 : Cond.methodLink RL 96 yX4_trace ∈ gtbl := gtbl_in (by decide +kernel) rfl
theorem mlL_100 : Cond.methodLink RL 100 yX5_trace ∈ gtbl := gtbl_in (by decide +kernel) rfl
theorem mlX0_1 : Cond.methodLink RX0 1 Lib.objectInit ∈ gtbl := gtbl_in (by decide +kernel) rfl
theorem mlX1_1 : Cond.methodLink RX1 1 Lib.objectInit ∈ gtbl := gtbl_in (by decide +kernel) rfl
theorem mlX2_3 : Cond.methodLink RX2 3 Lib.objectInit ∈ gtbl := gtbl_in (by decide +kernel) rfl
theorem mlX2_26 : Cond.methodLink RX2 26 Lib.Math.min.name ∈ gtbl := gtbl_in (by decide +kernel) rfl
theorem mlX2_35 : Cond.methodLink RX2 35 Lib.Math.max.name ∈ gtbl := gtbl_in (by decide +kernel) rfl
theorem mlX3_1 : Cond.methodLink RX3 1 Lib.objectInit ∈ gtbl := gtbl_in (by decide +kernel) rfl
theorem mlX4_1 : Cond.methodLink RX4 1 Lib.objectInit ∈ gtbl := gtbl_in (by decide +kernel) rfl
theorem mlX4_9 : Cond.methodLink RX4 9 yJx4a65c_init_da8c8 ∈ gtbl := gtbl_in (by decide +kernel) rfl
theorem mlX4_42 : Cond.methodLink RX4 42 yX3_init ∈ gtbl := gtbl_in (by decide +kernel) rfl
theorem mlX4_45 : Cond.methodLink RX4 45 yX4_isBarn ∈ gtbl := gtbl_in (by decide +kernel) rfl
theorem mlX4_49 : Cond.methodLink RX4 49 yX4_isWithin ∈ gtbl := gtbl_in (by decide +kernel) rfl
theorem mlX4_53 : Cond.methodLink RX4 53 yJx4a65c_size_8abf5 ∈ gtbl := gtbl_in (by decide +kernel) rfl
theorem mlX4_57 : Cond.methodLink RX4 57 yX4_ofAllBarns ∈ gtbl := gtbl_in (by decide +kernel) rfl
theorem mlX4_61 : Cond.methodLink RX4 61 yX0_init ∈ gtbl := gtbl_in (by decide +kernel) rfl
theorem mlX4_64 : Cond.methodLink RX4 64 yJx4a65c_add_9ea2d ∈ gtbl := gtbl_in (by decide +kernel) rfl
theorem mlX4_68 : Cond.methodLink RX4 68 yX4_passOneTick ∈ gtbl := gtbl_in (by decide +kernel) rfl
theorem mlX4_78 : Cond.methodLink RX4 78 yX4_isPacker ∈ gtbl := gtbl_in (by decide +kernel) rfl
theorem mlX4_81 : Cond.methodLink RX4 81 yX4_isGrade ∈ gtbl := gtbl_in (by decide +kernel) rfl
theorem mlX4_100 : Cond.methodLink RX4 100 yX4_asNumber ∈ gtbl := gtbl_in (by decide +kernel) rfl
theorem mlX4_116 : Cond.methodLink RX4 116 yX4_gradeOf ∈ gtbl := gtbl_in (by decide +kernel) rfl
theorem mlX4_125 : Cond.methodLink RX4 125 yX4_eggsOnLine ∈ gtbl := gtbl_in (by decide +kernel) rfl
theorem mlX4_128 : Cond.methodLink RX4 128 yX4_eggsInTrays ∈ gtbl := gtbl_in (by decide +kernel) rfl
theorem mlX4_134 : Cond.methodLink RX4 134 yX4_isPack ∈ gtbl := gtbl_in (by decide +kernel) rfl
theorem mlX4_137 : Cond.methodLink RX4 137 yJx4a65c_get_915e3 ∈ gtbl := gtbl_in (by decide +kernel) rfl
theorem mlX4_160 : Cond.methodLink RX4 160 yX2_isFreeOf ∈ gtbl := gtbl_in (by decide +kernel) rfl
theorem mlX4_165 : Cond.methodLink RX4 165 yX1_init ∈ gtbl := gtbl_in (by decide +kernel) rfl
theorem mlX4_168 : Cond.methodLink RX4 168 yX4_bestSet ∈ gtbl := gtbl_in (by decide +kernel) rfl
theorem mlX4_171 : Cond.methodLink RX4 171 yX4_worthOf ∈ gtbl := gtbl_in (by decide +kernel) rfl
theorem mlX4_174 : Cond.methodLink RX4 174 yX4_hasBit ∈ gtbl := gtbl_in (by decide +kernel) rfl
theorem mlX4_178 : Cond.methodLink RX4 178 yX4_sellTo ∈ gtbl := gtbl_in (by decide +kernel) rfl
theorem mlX4_191 : Cond.methodLink RX4 191 yX2_holdIf ∈ gtbl := gtbl_in (by decide +kernel) rfl
theorem mlX4_195 : Cond.methodLink RX4 195 yX4_packsSold ∈ gtbl := gtbl_in (by decide +kernel) rfl
theorem mlX4_198 : Cond.methodLink RX4 198 yX4_packsHeld ∈ gtbl := gtbl_in (by decide +kernel) rfl
theorem mlX4_205 : Cond.methodLink RX4 205 yX4_moveLine ∈ gtbl := gtbl_in (by decide +kernel) rfl
theorem mlX4_208 : Cond.methodLink RX4 208 yX4_weigh ∈ gtbl := gtbl_in (by decide +kernel) rfl
theorem mlX4_211 : Cond.methodLink RX4 211 yX4_look ∈ gtbl := gtbl_in (by decide +kernel) rfl
theorem mlX4_214 : Cond.methodLink RX4 214 yX4_letTake ∈ gtbl := gtbl_in (by decide +kernel) rfl
theorem mlX4_218 : Cond.methodLink RX4 218 yX4_bringWashed ∈ gtbl := gtbl_in (by decide +kernel) rfl
theorem mlX4_221 : Cond.methodLink RX4 221 yX4_feedLine ∈ gtbl := gtbl_in (by decide +kernel) rfl
theorem mlX4_227 : Cond.methodLink RX4 227 yX4_askCracked ∈ gtbl := gtbl_in (by decide +kernel) rfl
theorem mlX4_231 : Cond.methodLink RX4 231 yX4_startWash ∈ gtbl := gtbl_in (by decide +kernel) rfl
theorem mlX4_240 : Cond.methodLink RX4 240 yJ6_bitCount_0f7a4 ∈ gtbl := gtbl_in (by decide +kernel) rfl
theorem mlX4_245 : Cond.methodLink RX4 245 yX4_askBloody ∈ gtbl := gtbl_in (by decide +kernel) rfl
theorem mlX4_253 : Cond.methodLink RX4 253 yX4_askDirty ∈ gtbl := gtbl_in (by decide +kernel) rfl
theorem mlX4_261 : Cond.methodLink RX4 261 yX4_askSound ∈ gtbl := gtbl_in (by decide +kernel) rfl
theorem mlX4_270 : Cond.methodLink RX4 270 yX4_takes ∈ gtbl := gtbl_in (by decide +kernel) rfl
theorem mlX4_274 : Cond.methodLink RX4 274 yX2_lay ∈ gtbl := gtbl_in (by decide +kernel) rfl
theorem mlX4_277 : Cond.methodLink RX4 277 yX4_closeTray ∈ gtbl := gtbl_in (by decide +kernel) rfl
theorem mlX4_281 : Cond.methodLink RX4 281 yJx4a65c_isEmpty_aae02 ∈ gtbl := gtbl_in (by decide +kernel) rfl
theorem mlX4_285 : Cond.methodLink RX4 285 yJx4a65c_remove_915e3 ∈ gtbl := gtbl_in (by decide +kernel) rfl
theorem mlX4_288 : Cond.methodLink RX4 288 yX4_freeByGrade ∈ gtbl := gtbl_in (by decide +kernel) rfl
theorem mlX4_292 : Cond.methodLink RX4 292 yX4_canServe ∈ gtbl := gtbl_in (by decide +kernel) rfl
theorem mlX4_296 : Cond.methodLink RX4 296 yX4_free ∈ gtbl := gtbl_in (by decide +kernel) rfl
theorem mlX4_299 : Cond.methodLink RX4 299 yX4_wantedOf ∈ gtbl := gtbl_in (by decide +kernel) rfl
theorem mlJ7_150 : Cond.methodLink RJ7 150 arraycopyName ∈ gtbl := gtbl_in (by decide +kernel) rfl
theorem mlJ7_86 : Cond.methodLink RJ7 86 ⟨"java/lang/Object", "getClass", "()Ljava/lang/Class;"⟩ ∈ gtbl := gtbl_in (by decide +kernel) rfl
theorem mlJx4a65c_112 : Cond.methodLink RJx4a65c 112 arraycopyName ∈ gtbl := gtbl_in (by decide +kernel) rfl
theorem nat_ac : Cond.native arraycopyName ∈ gtbl := gtbl_in (by decide +kernel) rfl
theorem st_ac : Cond.static arraycopyName ∈ gtbl := gtbl_in (by decide +kernel) rfl
theorem nat_gc : Cond.native ⟨"java/lang/Object", "getClass", "()Ljava/lang/Class;"⟩ ∈ gtbl := gtbl_in (by decide +kernel) rfl
theorem im_gc : Cond.instanceMethod ⟨"java/lang/Object", "getClass", "()Ljava/lang/Class;"⟩ ∈ gtbl := gtbl_in (by decide +kernel) rfl
theorem se_gc : Cond.selects "[Ljava/lang/Object;" ⟨"java/lang/Object", "getClass", "()Ljava/lang/Class;"⟩ ⟨"java/lang/Object", "getClass", "()Ljava/lang/Class;"⟩ ∈ gtbl := gtbl_in (by decide +kernel) rfl
theorem st_min : Cond.static Lib.Math.min.name ∈ gtbl := gtbl_in (by decide +kernel) rfl
theorem co_min : Cond.code Lib.Math.min.name Lib.Math.min.code 2 (some .int) ∈ gtbl := gtbl_in (by decide +kernel) rfl
theorem st_max : Cond.static Lib.Math.max.name ∈ gtbl := gtbl_in (by decide +kernel) rfl
theorem co_max : Cond.code Lib.Math.max.name Lib.Math.max.code 2 (some .int) ∈ gtbl := gtbl_in (by decide +kernel) rfl
theorem im_oi : Cond.instanceMethod Lib.objectInit ∈ gtbl := gtbl_in (by decide +kernel) rfl
theorem co_oi : Cond.code Lib.objectInit ⟨#[0xb1]⟩ 1 none ∈ gtbl := gtbl_in (by decide +kernel) rfl
theorem clJ7_110 : Cond.classLink RJ7 110 "[Ljava/lang/Object;" ∈ gtbl := gtbl_in (by decide +kernel) rfl
theorem clJ7_2 : Cond.classLink RJ7 2 "java/lang/Object" ∈ gtbl := gtbl_in (by decide +kernel) rfl
theorem clJx4a65c_7 : Cond.classLink RJx4a65c 7 "java/lang/Object" ∈ gtbl := gtbl_in (by decide +kernel) rfl
theorem clL_10 : Cond.classLink RL 10 RX5 ∈ gtbl := gtbl_in (by decide +kernel) rfl
theorem clL_7 : Cond.classLink RL 7 RX4 ∈ gtbl := gtbl_in (by decide +kernel) rfl
theorem clX3_13 : Cond.classLink RX3 13 RX2 ∈ gtbl := gtbl_in (by decide +kernel) rfl
theorem clX4_163 : Cond.classLink RX4 163 "EggHouse$Order" ∈ gtbl := gtbl_in (by decide +kernel) rfl
theorem clX4_19 : Cond.classLink RX4 19 "EggHouse$Egg" ∈ gtbl := gtbl_in (by decide +kernel) rfl
theorem clX4_25 : Cond.classLink RX4 25 RX3 ∈ gtbl := gtbl_in (by decide +kernel) rfl
theorem clX4_37 : Cond.classLink RX4 37 "[[I" ∈ gtbl := gtbl_in (by decide +kernel) rfl
theorem clX4_7 : Cond.classLink RX4 7 RJx4a65c ∈ gtbl := gtbl_in (by decide +kernel) rfl
theorem clX4_89 : Cond.classLink RX4 89 "EggHouse$Pack" ∈ gtbl := gtbl_in (by decide +kernel) rfl
theorem cl4_235 : Cond.constantLong RX4 235 (1000) ∈ gtbl := gtbl_in (by decide +kernel) rfl
theorem cl4_248 : Cond.constantLong RX4 248 (100) ∈ gtbl := gtbl_in (by decide +kernel) rfl
theorem cl4_256 : Cond.constantLong RX4 256 (10) ∈ gtbl := gtbl_in (by decide +kernel) rfl
theorem ldJ6_265 : Cond.constant RJ6 265 (1431655765) ∈ gtbl := gtbl_in (by decide +kernel) rfl
theorem ldJ6_266 : Cond.constant RJ6 266 (858993459) ∈ gtbl := gtbl_in (by decide +kernel) rfl
theorem ldJ6_267 : Cond.constant RJ6 267 (252645135) ∈ gtbl := gtbl_in (by decide +kernel) rfl
theorem ldJ8_200 : Cond.constant RJ8 200 (2147483639) ∈ gtbl := gtbl_in (by decide +kernel) rfl
theorem in_X0 : Cond.instantiable RX0 9 ∈ gtbl := gtbl_in (by decide +kernel) rfl
theorem in_X1 : Cond.instantiable RX1 4 ∈ gtbl := gtbl_in (by decide +kernel) rfl
theorem in_X2 : Cond.instantiable RX2 9 ∈ gtbl := gtbl_in (by decide +kernel) rfl
theorem in_X3 : Cond.instantiable RX3 5 ∈ gtbl := gtbl_in (by decide +kernel) rfl
theorem in_X4 : Cond.instantiable RX4 11 ∈ gtbl := gtbl_in (by decide +kernel) rfl
theorem in_X5 : Cond.instantiable RX5 38 ∈ gtbl := gtbl_in (by decide +kernel) rfl
theorem in_Jx4a65c : Cond.instantiable RJx4a65c 3 ∈ gtbl := gtbl_in (by decide +kernel) rfl
theorem ac_I : Cond.arrayClass .int ∈ gtbl := gtbl_in (by decide +kernel) rfl
theorem co_X0_init : Cond.code yX0_init cX0_init 7 none ∈ gtbl := gtbl_in (by decide +kernel) rfl
theorem im_X0_init : Cond.instanceMethod yX0_init ∈ gtbl := gtbl_in (by decide +kernel) rfl
theorem rm_X0_init {R : Room} {k n fr lo mc ms : Nat} (h1 : fr + 1 ≤ R.frames) (h2 : 8 + (7 + 11) + lo ≤ R.locals) (h3 : k + mc ≤ R.cells) (h4 : n + ms ≤ R.slots) : Rm R k n yX0_init cX0_init 7 none fr lo mc ms 6 := ⟨⟨h1, h2⟩, ⟨h3, h4⟩, co_X0_init, ini_X0, by decide +kernel⟩
theorem co_X1_init : Cond.code yX1_init cX1_init 4 none ∈ gtbl := gtbl_in (by decide +kernel) rfl
theorem im_X1_init : Cond.instanceMethod yX1_init ∈ gtbl := gtbl_in (by decide +kernel) rfl
theorem rm_X1_init {R : Room} {k n fr lo mc ms : Nat} (h1 : fr + 1 ≤ R.frames) (h2 : 8 + (4 + 11) + lo ≤ R.locals) (h3 : k + mc ≤ R.cells) (h4 : n + ms ≤ R.slots) : Rm R k n yX1_init cX1_init 4 none fr lo mc ms 3 := ⟨⟨h1, h2⟩, ⟨h3, h4⟩, co_X1_init, ini_X1, by decide +kernel⟩
theorem co_X2_init : Cond.code yX2_init cX2_init 1 none ∈ gtbl := gtbl_in (by decide +kernel) rfl
theorem im_X2_init : Cond.instanceMethod yX2_init ∈ gtbl := gtbl_in (by decide +kernel) rfl
theorem rm_X2_init {R : Room} {k n fr lo mc ms : Nat} (h1 : fr + 1 ≤ R.frames) (h2 : 8 + (1 + 11) + lo ≤ R.locals) (h3 : k + mc ≤ R.cells) (h4 : n + ms ≤ R.slots) : Rm R k n yX2_init cX2_init 1 none fr lo mc ms 0 := ⟨⟨h1, h2⟩, ⟨h3, h4⟩, co_X2_init, ini_X2, by decide +kernel⟩
theorem co_X2_lay : Cond.code yX2_lay cX2_lay 2 none ∈ gtbl := gtbl_in (by decide +kernel) rfl
theorem im_X2_lay : Cond.instanceMethod yX2_lay ∈ gtbl := gtbl_in (by decide +kernel) rfl
theorem se_X2_lay : Cond.selects RX2 yX2_lay yX2_lay ∈ gtbl := gtbl_in (by decide +kernel) rfl
theorem rm_X2_lay {R : Room} {k n fr lo mc ms : Nat} (h1 : fr + 1 ≤ R.frames) (h2 : 8 + (2 + 11) + lo ≤ R.locals) (h3 : k + mc ≤ R.cells) (h4 : n + ms ≤ R.slots) : Rm R k n yX2_lay cX2_lay 2 none fr lo mc ms 1 := ⟨⟨h1, h2⟩, ⟨h3, h4⟩, co_X2_lay, ini_X2, by decide +kernel⟩
theorem co_X2_isFreeOf : Cond.code yX2_isFreeOf cX2_isFreeOf 2 (some .boolean) ∈ gtbl := gtbl_in (by decide +kernel) rfl
theorem im_X2_isFreeOf : Cond.instanceMethod yX2_isFreeOf ∈ gtbl := gtbl_in (by decide +kernel) rfl
theorem se_X2_isFreeOf : Cond.selects RX2 yX2_isFreeOf yX2_isFreeOf ∈ gtbl := gtbl_in (by decide +kernel) rfl
theorem rm_X2_isFreeOf {R : Room} {k n fr lo mc ms : Nat} (h1 : fr + 1 ≤ R.frames) (h2 : 8 + (2 + 11) + lo ≤ R.locals) (h3 : k + mc ≤ R.cells) (h4 : n + ms ≤ R.slots) : Rm R k n yX2_isFreeOf cX2_isFreeOf 2 (some .boolean) fr lo mc ms 1 := ⟨⟨h1, h2⟩, ⟨h3, h4⟩, co_X2_isFreeOf, ini_X2, by decide +kernel⟩
theorem co_X2_holdIf : Cond.code yX2_holdIf cX2_holdIf 2 none ∈ gtbl := gtbl_in (by decide +kernel) rfl
theorem im_X2_holdIf : Cond.instanceMethod yX2_holdIf ∈ gtbl := gtbl_in (by decide +kernel) rfl
theorem se_X2_holdIf : Cond.selects RX2 yX2_holdIf yX2_holdIf ∈ gtbl := gtbl_in (by decide +kernel) rfl
theorem rm_X2_holdIf {R : Room} {k n fr lo mc ms : Nat} (h1 : fr + 1 ≤ R.frames) (h2 : 8 + (2 + 11) + lo ≤ R.locals) (h3 : k + mc ≤ R.cells) (h4 : n + ms ≤ R.slots) : Rm R k n yX2_holdIf cX2_holdIf 2 none fr lo mc ms 1 := ⟨⟨h1, h2⟩, ⟨h3, h4⟩, co_X2_holdIf, ini_X2, by decide +kernel⟩
theorem co_X3_init : Cond.code yX3_init cX3_init 3 none ∈ gtbl := gtbl_in (by decide +kernel) rfl
theorem im_X3_init : Cond.instanceMethod yX3_init ∈ gtbl := gtbl_in (by decide +kernel) rfl
theorem rm_X3_init {R : Room} {k n fr lo mc ms : Nat} (h1 : fr + 1 ≤ R.frames) (h2 : 8 + (3 + 11) + lo ≤ R.locals) (h3 : k + mc ≤ R.cells) (h4 : n + ms ≤ R.slots) : Rm R k n yX3_init cX3_init 3 none fr lo mc ms 2 := ⟨⟨h1, h2⟩, ⟨h3, h4⟩, co_X3_init, ini_X3, by decide +kernel⟩
theorem co_Jxa1e45_init_da8c8 : Cond.code yJxa1e45_init_da8c8 cJxa1e45_init_da8c8 1 none ∈ gtbl := gtbl_in (by decide +kernel) rfl
theorem im_Jxa1e45_init_da8c8 : Cond.instanceMethod yJxa1e45_init_da8c8 ∈ gtbl := gtbl_in (by decide +kernel) rfl
theorem rm_Jxa1e45_init_da8c8 {R : Room} {k n fr lo mc ms : Nat} (h1 : fr + 1 ≤ R.frames) (h2 : 8 + (1 + 11) + lo ≤ R.locals) (h3 : k + mc ≤ R.cells) (h4 : n + ms ≤ R.slots) : Rm R k n yJxa1e45_init_da8c8 cJxa1e45_init_da8c8 1 none fr lo mc ms 0 := ⟨⟨h1, h2⟩, ⟨h3, h4⟩, co_Jxa1e45_init_da8c8, ini_Jxa1e45, by decide +kernel⟩
theorem co_Jxc12de_init_da8c8 : Cond.code yJxc12de_init_da8c8 cJxc12de_init_da8c8 1 none ∈ gtbl := gtbl_in (by decide +kernel) rfl
theorem im_Jxc12de_init_da8c8 : Cond.instanceMethod yJxc12de_init_da8c8 ∈ gtbl := gtbl_in (by decide +kernel) rfl
theorem rm_Jxc12de_init_da8c8 {R : Room} {k n fr lo mc ms : Nat} (h1 : fr + 1 ≤ R.frames) (h2 : 8 + (1 + 11) + lo ≤ R.locals) (h3 : k + mc ≤ R.cells) (h4 : n + ms ≤ R.slots) : Rm R k n yJxc12de_init_da8c8 cJxc12de_init_da8c8 1 none fr lo mc ms 0 := ⟨⟨h1, h2⟩, ⟨h3, h4⟩, co_Jxc12de_init_da8c8, ini_Jxc12de, by decide +kernel⟩
theorem co_Jx4a65c_init_da8c8 : Cond.code yJx4a65c_init_da8c8 cJx4a65c_init_da8c8 1 none ∈ gtbl := gtbl_in (by decide +kernel) rfl
theorem im_Jx4a65c_init_da8c8 : Cond.instanceMethod yJx4a65c_init_da8c8 ∈ gtbl := gtbl_in (by decide +kernel) rfl
theorem rm_Jx4a65c_init_da8c8 {R : Room} {k n fr lo mc ms : Nat} (h1 : fr + 1 ≤ R.frames) (h2 : 8 + (1 + 11) + lo ≤ R.locals) (h3 : k + mc ≤ R.cells) (h4 : n + ms ≤ R.slots) : Rm R k n yJx4a65c_init_da8c8 cJx4a65c_init_da8c8 1 none fr lo mc ms 0 := ⟨⟨h1, h2⟩, ⟨h3, h4⟩, co_Jx4a65c_init_da8c8, ini_Jx4a65c, by decide +kernel⟩
theorem co_X4_init : Cond.code yX4_init cX4_init 2 none ∈ gtbl := gtbl_in (by decide +kernel) rfl
theorem im_X4_init : Cond.instanceMethod yX4_init ∈ gtbl := gtbl_in (by decide +kernel) rfl
theorem rm_X4_init {R : Room} {k n fr lo mc ms : Nat} (h1 : fr + 1 ≤ R.frames) (h2 : 8 + (2 + 11) + lo ≤ R.locals) (h3 : k + mc ≤ R.cells) (h4 : n + ms ≤ R.slots) : Rm R k n yX4_init cX4_init 2 none fr lo mc ms 0 := ⟨⟨h1, h2⟩, ⟨h3, h4⟩, co_X4_init, ini_X4, by decide +kernel⟩
theorem co_X4_isWithin : Cond.code yX4_isWithin cX4_isWithin 3 (some .boolean) ∈ gtbl := gtbl_in (by decide +kernel) rfl
theorem st_X4_isWithin : Cond.static yX4_isWithin ∈ gtbl := gtbl_in (by decide +kernel) rfl
theorem rm_X4_isWithin {R : Room} {k n fr lo mc ms : Nat} (h1 : fr + 1 ≤ R.frames) (h2 : 8 + (3 + 11) + lo ≤ R.locals) (h3 : k + mc ≤ R.cells) (h4 : n + ms ≤ R.slots) : Rm R k n yX4_isWithin cX4_isWithin 3 (some .boolean) fr lo mc ms 3 := ⟨⟨h1, h2⟩, ⟨h3, h4⟩, co_X4_isWithin, ini_X4, by decide +kernel⟩
theorem co_X4_isBarn : Cond.code yX4_isBarn cX4_isBarn 1 (some .boolean) ∈ gtbl := gtbl_in (by decide +kernel) rfl
theorem st_X4_isBarn : Cond.static yX4_isBarn ∈ gtbl := gtbl_in (by decide +kernel) rfl
theorem rm_X4_isBarn {R : Room} {k n fr lo mc ms : Nat} (h1 : fr + 1 ≤ R.frames) (h2 : 8 + (1 + 11) + lo ≤ R.locals) (h3 : k + mc ≤ R.cells) (h4 : n + ms ≤ R.slots) : Rm R k n yX4_isBarn cX4_isBarn 1 (some .boolean) fr lo mc ms 1 := ⟨⟨h1, h2⟩, ⟨h3, h4⟩, co_X4_isBarn, ini_X4, by decide +kernel⟩
theorem co_Jx4a65c_size_8abf5 : Cond.code yJx4a65c_size_8abf5 cJx4a65c_size_8abf5 1 (some .int) ∈ gtbl := gtbl_in (by decide +kernel) rfl
theorem im_Jx4a65c_size_8abf5 : Cond.instanceMethod yJx4a65c_size_8abf5 ∈ gtbl := gtbl_in (by decide +kernel) rfl
theorem se_Jx4a65c_size_8abf5 : Cond.selects RJx4a65c yJx4a65c_size_8abf5 yJx4a65c_size_8abf5 ∈ gtbl := gtbl_in (by decide +kernel) rfl
theorem rm_Jx4a65c_size_8abf5 {R : Room} {k n fr lo mc ms : Nat} (h1 : fr + 1 ≤ R.frames) (h2 : 8 + (1 + 11) + lo ≤ R.locals) (h3 : k + mc ≤ R.cells) (h4 : n + ms ≤ R.slots) : Rm R k n yJx4a65c_size_8abf5 cJx4a65c_size_8abf5 1 (some .int) fr lo mc ms 0 := ⟨⟨h1, h2⟩, ⟨h3, h4⟩, co_Jx4a65c_size_8abf5, ini_Jx4a65c, by decide +kernel⟩
theorem co_X4_ofAllBarns : Cond.code yX4_ofAllBarns cX4_ofAllBarns 4 (some .int) ∈ gtbl := gtbl_in (by decide +kernel) rfl
theorem im_X4_ofAllBarns : Cond.instanceMethod yX4_ofAllBarns ∈ gtbl := gtbl_in (by decide +kernel) rfl
theorem se_X4_ofAllBarns : Cond.selects RX4 yX4_ofAllBarns yX4_ofAllBarns ∈ gtbl := gtbl_in (by decide +kernel) rfl
theorem rm_X4_ofAllBarns {R : Room} {k n fr lo mc ms : Nat} (h1 : fr + 1 ≤ R.frames) (h2 : 8 + (4 + 11) + lo ≤ R.locals) (h3 : k + mc ≤ R.cells) (h4 : n + ms ≤ R.slots) : Rm R k n yX4_ofAllBarns cX4_ofAllBarns 4 (some .int) fr lo mc ms 1 := ⟨⟨h1, h2⟩, ⟨h3, h4⟩, co_X4_ofAllBarns, ini_X4, by decide +kernel⟩
theorem co_J8_hugeLength_7cf53 : Cond.code yJ8_hugeLength_7cf53 cJ8_hugeLength_7cf53 3 (some .int) ∈ gtbl := gtbl_in (by decide +kernel) rfl
theorem st_J8_hugeLength_7cf53 : Cond.static yJ8_hugeLength_7cf53 ∈ gtbl := gtbl_in (by decide +kernel) rfl
theorem rm_J8_hugeLength_7cf53 {R : Room} {k n fr lo mc ms : Nat} (h1 : fr + 1 ≤ R.frames) (h2 : 8 + (3 + 11) + lo ≤ R.locals) (h3 : k + mc ≤ R.cells) (h4 : n + ms ≤ R.slots) : Rm R k n yJ8_hugeLength_7cf53 cJ8_hugeLength_7cf53 3 (some .int) fr lo mc ms 2 := ⟨⟨h1, h2⟩, ⟨h3, h4⟩, co_J8_hugeLength_7cf53, ini_J8, by decide +kernel⟩
theorem co_J8_newLength_cabcc : Cond.code yJ8_newLength_cabcc cJ8_newLength_cabcc 4 (some .int) ∈ gtbl := gtbl_in (by decide +kernel) rfl
theorem st_J8_newLength_cabcc : Cond.static yJ8_newLength_cabcc ∈ gtbl := gtbl_in (by decide +kernel) rfl
theorem rm_J8_newLength_cabcc {R : Room} {k n fr lo mc ms : Nat} (h1 : fr + 1 ≤ R.frames) (h2 : 8 + (4 + 11) + lo ≤ R.locals) (h3 : k + mc ≤ R.cells) (h4 : n + ms ≤ R.slots) : Rm R k n yJ8_newLength_cabcc cJ8_newLength_cabcc 4 (some .int) fr lo mc ms 3 := ⟨⟨h1, h2⟩, ⟨h3, h4⟩, co_J8_newLength_cabcc, ini_J8, by decide +kernel⟩
theorem co_J7_copyOf_6403c : Cond.code yJ7_copyOf_6403c cJ7_copyOf_6403c 4 (some (.array (.object "java/lang/Object"))) ∈ gtbl := gtbl_in (by decide +kernel) rfl
theorem st_J7_copyOf_6403c : Cond.static yJ7_copyOf_6403c ∈ gtbl := gtbl_in (by decide +kernel) rfl
theorem rm_J7_copyOf_6403c {R : Room} {k n fr lo mc ms : Nat} (h1 : fr + 1 ≤ R.frames) (h2 : 8 + (4 + 11) + lo ≤ R.locals) (h3 : k + mc ≤ R.cells) (h4 : n + ms ≤ R.slots) : Rm R k n yJ7_copyOf_6403c cJ7_copyOf_6403c 4 (some (.array (.object "java/lang/Object"))) fr lo mc ms 3 := ⟨⟨h1, h2⟩, ⟨h3, h4⟩, co_J7_copyOf_6403c, ini_J7, by decide +kernel⟩
theorem co_J7_copyOf_1904c : Cond.code yJ7_copyOf_1904c cJ7_copyOf_1904c 2 (some (.array (.object "java/lang/Object"))) ∈ gtbl := gtbl_in (by decide +kernel) rfl
theorem st_J7_copyOf_1904c : Cond.static yJ7_copyOf_1904c ∈ gtbl := gtbl_in (by decide +kernel) rfl
theorem rm_J7_copyOf_1904c {R : Room} {k n fr lo mc ms : Nat} (h1 : fr + 1 ≤ R.frames) (h2 : 8 + (2 + 11) + lo ≤ R.locals) (h3 : k + mc ≤ R.cells) (h4 : n + ms ≤ R.slots) : Rm R k n yJ7_copyOf_1904c cJ7_copyOf_1904c 2 (some (.array (.object "java/lang/Object"))) fr lo mc ms 2 := ⟨⟨h1, h2⟩, ⟨h3, h4⟩, co_J7_copyOf_1904c, ini_J7, by decide +kernel⟩
theorem co_Jx4a65c_grow_92f84 : Cond.code yJx4a65c_grow_92f84 cJx4a65c_grow_92f84 4 (some (.array (.object "java/lang/Object"))) ∈ gtbl := gtbl_in (by decide +kernel) rfl
theorem im_Jx4a65c_grow_92f84 : Cond.instanceMethod yJx4a65c_grow_92f84 ∈ gtbl := gtbl_in (by decide +kernel) rfl
theorem se_Jx4a65c_grow_92f84 : Cond.selects RJx4a65c yJx4a65c_grow_92f84 yJx4a65c_grow_92f84 ∈ gtbl := gtbl_in (by decide +kernel) rfl
theorem rm_Jx4a65c_grow_92f84 {R : Room} {k n fr lo mc ms : Nat} (h1 : fr + 1 ≤ R.frames) (h2 : 8 + (4 + 11) + lo ≤ R.locals) (h3 : k + mc ≤ R.cells) (h4 : n + ms ≤ R.slots) : Rm R k n yJx4a65c_grow_92f84 cJx4a65c_grow_92f84 4 (some (.array (.object "java/lang/Object"))) fr lo mc ms 1 := ⟨⟨h1, h2⟩, ⟨h3, h4⟩, co_Jx4a65c_grow_92f84, ini_Jx4a65c, by decide +kernel⟩
theorem co_Jx4a65c_grow_d5877 : Cond.code yJx4a65c_grow_d5877 cJx4a65c_grow_d5877 1 (some (.array (.object "java/lang/Object"))) ∈ gtbl := gtbl_in (by decide +kernel) rfl
theorem im_Jx4a65c_grow_d5877 : Cond.instanceMethod yJx4a65c_grow_d5877 ∈ gtbl := gtbl_in (by decide +kernel) rfl
theorem se_Jx4a65c_grow_d5877 : Cond.selects RJx4a65c yJx4a65c_grow_d5877 yJx4a65c_grow_d5877 ∈ gtbl := gtbl_in (by decide +kernel) rfl
theorem rm_Jx4a65c_grow_d5877 {R : Room} {k n fr lo mc ms : Nat} (h1 : fr + 1 ≤ R.frames) (h2 : 8 + (1 + 11) + lo ≤ R.locals) (h3 : k + mc ≤ R.cells) (h4 : n + ms ≤ R.slots) : Rm R k n yJx4a65c_grow_d5877 cJx4a65c_grow_d5877 1 (some (.array (.object "java/lang/Object"))) fr lo mc ms 0 := ⟨⟨h1, h2⟩, ⟨h3, h4⟩, co_Jx4a65c_grow_d5877, ini_Jx4a65c, by decide +kernel⟩
theorem co_Jx4a65c_add_72be8 : Cond.code yJx4a65c_add_72be8 cJx4a65c_add_72be8 4 none ∈ gtbl := gtbl_in (by decide +kernel) rfl
theorem im_Jx4a65c_add_72be8 : Cond.instanceMethod yJx4a65c_add_72be8 ∈ gtbl := gtbl_in (by decide +kernel) rfl
theorem se_Jx4a65c_add_72be8 : Cond.selects RJx4a65c yJx4a65c_add_72be8 yJx4a65c_add_72be8 ∈ gtbl := gtbl_in (by decide +kernel) rfl
theorem rm_Jx4a65c_add_72be8 {R : Room} {k n fr lo mc ms : Nat} (h1 : fr + 1 ≤ R.frames) (h2 : 8 + (4 + 11) + lo ≤ R.locals) (h3 : k + mc ≤ R.cells) (h4 : n + ms ≤ R.slots) : Rm R k n yJx4a65c_add_72be8 cJx4a65c_add_72be8 4 none fr lo mc ms 3 := ⟨⟨h1, h2⟩, ⟨h3, h4⟩, co_Jx4a65c_add_72be8, ini_Jx4a65c, by decide +kernel⟩
theorem co_Jx4a65c_add_9ea2d : Cond.code yJx4a65c_add_9ea2d cJx4a65c_add_9ea2d 2 (some .boolean) ∈ gtbl := gtbl_in (by decide +kernel) rfl
theorem im_Jx4a65c_add_9ea2d : Cond.instanceMethod yJx4a65c_add_9ea2d ∈ gtbl := gtbl_in (by decide +kernel) rfl
theorem se_Jx4a65c_add_9ea2d : Cond.selects RJx4a65c yJx4a65c_add_9ea2d yJx4a65c_add_9ea2d ∈ gtbl := gtbl_in (by decide +kernel) rfl
theorem rm_Jx4a65c_add_9ea2d {R : Room} {k n fr lo mc ms : Nat} (h1 : fr + 1 ≤ R.frames) (h2 : 8 + (2 + 11) + lo ≤ R.locals) (h3 : k + mc ≤ R.cells) (h4 : n + ms ≤ R.slots) : Rm R k n yJx4a65c_add_9ea2d cJx4a65c_add_9ea2d 2 (some .boolean) fr lo mc ms 1 := ⟨⟨h1, h2⟩, ⟨h3, h4⟩, co_Jx4a65c_add_9ea2d, ini_Jx4a65c, by decide +kernel⟩
theorem co_X4_egg : Cond.code yX4_egg cX4_egg 7 (some .int) ∈ gtbl := gtbl_in (by decide +kernel) rfl
theorem im_X4_egg : Cond.instanceMethod yX4_egg ∈ gtbl := gtbl_in (by decide +kernel) rfl
theorem se_X4_egg : Cond.selects RX4 yX4_egg yX4_egg ∈ gtbl := gtbl_in (by decide +kernel) rfl
theorem rm_X4_egg {R : Room} {k n fr lo mc ms : Nat} (h1 : fr + 1 ≤ R.frames) (h2 : 8 + (7 + 11) + lo ≤ R.locals) (h3 : k + mc ≤ R.cells) (h4 : n + ms ≤ R.slots) : Rm R k n yX4_egg cX4_egg 7 (some .int) fr lo mc ms 5 := ⟨⟨h1, h2⟩, ⟨h3, h4⟩, co_X4_egg, ini_X4, by decide +kernel⟩
theorem co_X4_moveLine : Cond.code yX4_moveLine cX4_moveLine 3 none ∈ gtbl := gtbl_in (by decide +kernel) rfl
theorem im_X4_moveLine : Cond.instanceMethod yX4_moveLine ∈ gtbl := gtbl_in (by decide +kernel) rfl
theorem se_X4_moveLine : Cond.selects RX4 yX4_moveLine yX4_moveLine ∈ gtbl := gtbl_in (by decide +kernel) rfl
theorem rm_X4_moveLine {R : Room} {k n fr lo mc ms : Nat} (h1 : fr + 1 ≤ R.frames) (h2 : 8 + (3 + 11) + lo ≤ R.locals) (h3 : k + mc ≤ R.cells) (h4 : n + ms ≤ R.slots) : Rm R k n yX4_moveLine cX4_moveLine 3 none fr lo mc ms 0 := ⟨⟨h1, h2⟩, ⟨h3, h4⟩, co_X4_moveLine, ini_X4, by decide +kernel⟩
theorem co_X4_weigh : Cond.code yX4_weigh cX4_weigh 2 none ∈ gtbl := gtbl_in (by decide +kernel) rfl
theorem im_X4_weigh : Cond.instanceMethod yX4_weigh ∈ gtbl := gtbl_in (by decide +kernel) rfl
theorem se_X4_weigh : Cond.selects RX4 yX4_weigh yX4_weigh ∈ gtbl := gtbl_in (by decide +kernel) rfl
theorem rm_X4_weigh {R : Room} {k n fr lo mc ms : Nat} (h1 : fr + 1 ≤ R.frames) (h2 : 8 + (2 + 11) + lo ≤ R.locals) (h3 : k + mc ≤ R.cells) (h4 : n + ms ≤ R.slots) : Rm R k n yX4_weigh cX4_weigh 2 none fr lo mc ms 0 := ⟨⟨h1, h2⟩, ⟨h3, h4⟩, co_X4_weigh, ini_X4, by decide +kernel⟩
theorem co_J6_bitCount_0f7a4 : Cond.code yJ6_bitCount_0f7a4 cJ6_bitCount_0f7a4 1 (some .int) ∈ gtbl := gtbl_in (by decide +kernel) rfl
theorem st_J6_bitCount_0f7a4 : Cond.static yJ6_bitCount_0f7a4 ∈ gtbl := gtbl_in (by decide +kernel) rfl
theorem rm_J6_bitCount_0f7a4 {R : Room} {k n fr lo mc ms : Nat} (h1 : fr + 1 ≤ R.frames) (h2 : 8 + (1 + 11) + lo ≤ R.locals) (h3 : k + mc ≤ R.cells) (h4 : n + ms ≤ R.slots) : Rm R k n yJ6_bitCount_0f7a4 cJ6_bitCount_0f7a4 1 (some .int) fr lo mc ms 1 := ⟨⟨h1, h2⟩, ⟨h3, h4⟩, co_J6_bitCount_0f7a4, ini_J6, by decide +kernel⟩
theorem co_X4_askSound : Cond.code yX4_askSound cX4_askSound 1 (some .int) ∈ gtbl := gtbl_in (by decide +kernel) rfl
theorem im_X4_askSound : Cond.instanceMethod yX4_askSound ∈ gtbl := gtbl_in (by decide +kernel) rfl
theorem se_X4_askSound : Cond.selects RX4 yX4_askSound yX4_askSound ∈ gtbl := gtbl_in (by decide +kernel) rfl
theorem rm_X4_askSound {R : Room} {k n fr lo mc ms : Nat} (h1 : fr + 1 ≤ R.frames) (h2 : 8 + (1 + 11) + lo ≤ R.locals) (h3 : k + mc ≤ R.cells) (h4 : n + ms ≤ R.slots) : Rm R k n yX4_askSound cX4_askSound 1 (some .int) fr lo mc ms 0 := ⟨⟨h1, h2⟩, ⟨h3, h4⟩, co_X4_askSound, ini_X4, by decide +kernel⟩
theorem co_X4_askDirty : Cond.code yX4_askDirty cX4_askDirty 2 (some .int) ∈ gtbl := gtbl_in (by decide +kernel) rfl
theorem im_X4_askDirty : Cond.instanceMethod yX4_askDirty ∈ gtbl := gtbl_in (by decide +kernel) rfl
theorem se_X4_askDirty : Cond.selects RX4 yX4_askDirty yX4_askDirty ∈ gtbl := gtbl_in (by decide +kernel) rfl
theorem rm_X4_askDirty {R : Room} {k n fr lo mc ms : Nat} (h1 : fr + 1 ≤ R.frames) (h2 : 8 + (2 + 11) + lo ≤ R.locals) (h3 : k + mc ≤ R.cells) (h4 : n + ms ≤ R.slots) : Rm R k n yX4_askDirty cX4_askDirty 2 (some .int) fr lo mc ms 1 := ⟨⟨h1, h2⟩, ⟨h3, h4⟩, co_X4_askDirty, ini_X4, by decide +kernel⟩
theorem co_X4_askBloody : Cond.code yX4_askBloody cX4_askBloody 2 (some .int) ∈ gtbl := gtbl_in (by decide +kernel) rfl
theorem im_X4_askBloody : Cond.instanceMethod yX4_askBloody ∈ gtbl := gtbl_in (by decide +kernel) rfl
theorem se_X4_askBloody : Cond.selects RX4 yX4_askBloody yX4_askBloody ∈ gtbl := gtbl_in (by decide +kernel) rfl
theorem rm_X4_askBloody {R : Room} {k n fr lo mc ms : Nat} (h1 : fr + 1 ≤ R.frames) (h2 : 8 + (2 + 11) + lo ≤ R.locals) (h3 : k + mc ≤ R.cells) (h4 : n + ms ≤ R.slots) : Rm R k n yX4_askBloody cX4_askBloody 2 (some .int) fr lo mc ms 1 := ⟨⟨h1, h2⟩, ⟨h3, h4⟩, co_X4_askBloody, ini_X4, by decide +kernel⟩
theorem co_X4_askCracked : Cond.code yX4_askCracked cX4_askCracked 2 (some .int) ∈ gtbl := gtbl_in (by decide +kernel) rfl
theorem im_X4_askCracked : Cond.instanceMethod yX4_askCracked ∈ gtbl := gtbl_in (by decide +kernel) rfl
theorem se_X4_askCracked : Cond.selects RX4 yX4_askCracked yX4_askCracked ∈ gtbl := gtbl_in (by decide +kernel) rfl
theorem rm_X4_askCracked {R : Room} {k n fr lo mc ms : Nat} (h1 : fr + 1 ≤ R.frames) (h2 : 8 + (2 + 11) + lo ≤ R.locals) (h3 : k + mc ≤ R.cells) (h4 : n + ms ≤ R.slots) : Rm R k n yX4_askCracked cX4_askCracked 2 (some .int) fr lo mc ms 1 := ⟨⟨h1, h2⟩, ⟨h3, h4⟩, co_X4_askCracked, ini_X4, by decide +kernel⟩
theorem co_X4_startWash : Cond.code yX4_startWash cX4_startWash 2 none ∈ gtbl := gtbl_in (by decide +kernel) rfl
theorem im_X4_startWash : Cond.instanceMethod yX4_startWash ∈ gtbl := gtbl_in (by decide +kernel) rfl
theorem se_X4_startWash : Cond.selects RX4 yX4_startWash yX4_startWash ∈ gtbl := gtbl_in (by decide +kernel) rfl
theorem rm_X4_startWash {R : Room} {k n fr lo mc ms : Nat} (h1 : fr + 1 ≤ R.frames) (h2 : 8 + (2 + 11) + lo ≤ R.locals) (h3 : k + mc ≤ R.cells) (h4 : n + ms ≤ R.slots) : Rm R k n yX4_startWash cX4_startWash 2 none fr lo mc ms 1 := ⟨⟨h1, h2⟩, ⟨h3, h4⟩, co_X4_startWash, ini_X4, by decide +kernel⟩
theorem co_X4_look : Cond.code yX4_look cX4_look 3 none ∈ gtbl := gtbl_in (by decide +kernel) rfl
theorem im_X4_look : Cond.instanceMethod yX4_look ∈ gtbl := gtbl_in (by decide +kernel) rfl
theorem se_X4_look : Cond.selects RX4 yX4_look yX4_look ∈ gtbl := gtbl_in (by decide +kernel) rfl
theorem rm_X4_look {R : Room} {k n fr lo mc ms : Nat} (h1 : fr + 1 ≤ R.frames) (h2 : 8 + (3 + 11) + lo ≤ R.locals) (h3 : k + mc ≤ R.cells) (h4 : n + ms ≤ R.slots) : Rm R k n yX4_look cX4_look 3 none fr lo mc ms 0 := ⟨⟨h1, h2⟩, ⟨h3, h4⟩, co_X4_look, ini_X4, by decide +kernel⟩
theorem co_X4_gradeOf : Cond.code yX4_gradeOf cX4_gradeOf 2 (some .int) ∈ gtbl := gtbl_in (by decide +kernel) rfl
theorem st_X4_gradeOf : Cond.static yX4_gradeOf ∈ gtbl := gtbl_in (by decide +kernel) rfl
theorem rm_X4_gradeOf {R : Room} {k n fr lo mc ms : Nat} (h1 : fr + 1 ≤ R.frames) (h2 : 8 + (2 + 11) + lo ≤ R.locals) (h3 : k + mc ≤ R.cells) (h4 : n + ms ≤ R.slots) : Rm R k n yX4_gradeOf cX4_gradeOf 2 (some .int) fr lo mc ms 1 := ⟨⟨h1, h2⟩, ⟨h3, h4⟩, co_X4_gradeOf, ini_X4, by decide +kernel⟩
theorem co_X4_takes : Cond.code yX4_takes cX4_takes 4 (some .boolean) ∈ gtbl := gtbl_in (by decide +kernel) rfl
theorem im_X4_takes : Cond.instanceMethod yX4_takes ∈ gtbl := gtbl_in (by decide +kernel) rfl
theorem se_X4_takes : Cond.selects RX4 yX4_takes yX4_takes ∈ gtbl := gtbl_in (by decide +kernel) rfl
theorem rm_X4_takes {R : Room} {k n fr lo mc ms : Nat} (h1 : fr + 1 ≤ R.frames) (h2 : 8 + (4 + 11) + lo ≤ R.locals) (h3 : k + mc ≤ R.cells) (h4 : n + ms ≤ R.slots) : Rm R k n yX4_takes cX4_takes 4 (some .boolean) fr lo mc ms 2 := ⟨⟨h1, h2⟩, ⟨h3, h4⟩, co_X4_takes, ini_X4, by decide +kernel⟩
theorem co_X4_closeTray : Cond.code yX4_closeTray cX4_closeTray 2 none ∈ gtbl := gtbl_in (by decide +kernel) rfl
theorem im_X4_closeTray : Cond.instanceMethod yX4_closeTray ∈ gtbl := gtbl_in (by decide +kernel) rfl
theorem se_X4_closeTray : Cond.selects RX4 yX4_closeTray yX4_closeTray ∈ gtbl := gtbl_in (by decide +kernel) rfl
theorem rm_X4_closeTray {R : Room} {k n fr lo mc ms : Nat} (h1 : fr + 1 ≤ R.frames) (h2 : 8 + (2 + 11) + lo ≤ R.locals) (h3 : k + mc ≤ R.cells) (h4 : n + ms ≤ R.slots) : Rm R k n yX4_closeTray cX4_closeTray 2 none fr lo mc ms 1 := ⟨⟨h1, h2⟩, ⟨h3, h4⟩, co_X4_closeTray, ini_X4, by decide +kernel⟩
theorem co_X4_letTake : Cond.code yX4_letTake cX4_letTake 3 none ∈ gtbl := gtbl_in (by decide +kernel) rfl
theorem im_X4_letTake : Cond.instanceMethod yX4_letTake ∈ gtbl := gtbl_in (by decide +kernel) rfl
theorem se_X4_letTake : Cond.selects RX4 yX4_letTake yX4_letTake ∈ gtbl := gtbl_in (by decide +kernel) rfl
theorem rm_X4_letTake {R : Room} {k n fr lo mc ms : Nat} (h1 : fr + 1 ≤ R.frames) (h2 : 8 + (3 + 11) + lo ≤ R.locals) (h3 : k + mc ≤ R.cells) (h4 : n + ms ≤ R.slots) : Rm R k n yX4_letTake cX4_letTake 3 none fr lo mc ms 1 := ⟨⟨h1, h2⟩, ⟨h3, h4⟩, co_X4_letTake, ini_X4, by decide +kernel⟩
theorem co_Jx4a65c_isEmpty_aae02 : Cond.code yJx4a65c_isEmpty_aae02 cJx4a65c_isEmpty_aae02 1 (some .boolean) ∈ gtbl := gtbl_in (by decide +kernel) rfl
theorem im_Jx4a65c_isEmpty_aae02 : Cond.instanceMethod yJx4a65c_isEmpty_aae02 ∈ gtbl := gtbl_in (by decide +kernel) rfl
theorem se_Jx4a65c_isEmpty_aae02 : Cond.selects RJx4a65c yJx4a65c_isEmpty_aae02 yJx4a65c_isEmpty_aae02 ∈ gtbl := gtbl_in (by decide +kernel) rfl
theorem rm_Jx4a65c_isEmpty_aae02 {R : Room} {k n fr lo mc ms : Nat} (h1 : fr + 1 ≤ R.frames) (h2 : 8 + (1 + 11) + lo ≤ R.locals) (h3 : k + mc ≤ R.cells) (h4 : n + ms ≤ R.slots) : Rm R k n yJx4a65c_isEmpty_aae02 cJx4a65c_isEmpty_aae02 1 (some .boolean) fr lo mc ms 0 := ⟨⟨h1, h2⟩, ⟨h3, h4⟩, co_Jx4a65c_isEmpty_aae02, ini_Jx4a65c, by decide +kernel⟩
theorem co_J3_checkIndex_8e157 : Cond.code yJ3_checkIndex_8e157 cJ3_checkIndex_8e157 3 (some .int) ∈ gtbl := gtbl_in (by decide +kernel) rfl
theorem st_J3_checkIndex_8e157 : Cond.static yJ3_checkIndex_8e157 ∈ gtbl := gtbl_in (by decide +kernel) rfl
theorem rm_J3_checkIndex_8e157 {R : Room} {k n fr lo mc ms : Nat} (h1 : fr + 1 ≤ R.frames) (h2 : 8 + (3 + 11) + lo ≤ R.locals) (h3 : k + mc ≤ R.cells) (h4 : n + ms ≤ R.slots) : Rm R k n yJ3_checkIndex_8e157 cJ3_checkIndex_8e157 3 (some .int) fr lo mc ms 3 := ⟨⟨h1, h2⟩, ⟨h3, h4⟩, co_J3_checkIndex_8e157, ini_J3, by decide +kernel⟩
theorem co_J15_checkIndex_7cf53 : Cond.code yJ15_checkIndex_7cf53 cJ15_checkIndex_7cf53 2 (some .int) ∈ gtbl := gtbl_in (by decide +kernel) rfl
theorem st_J15_checkIndex_7cf53 : Cond.static yJ15_checkIndex_7cf53 ∈ gtbl := gtbl_in (by decide +kernel) rfl
theorem rm_J15_checkIndex_7cf53 {R : Room} {k n fr lo mc ms : Nat} (h1 : fr + 1 ≤ R.frames) (h2 : 8 + (2 + 11) + lo ≤ R.locals) (h3 : k + mc ≤ R.cells) (h4 : n + ms ≤ R.slots) : Rm R k n yJ15_checkIndex_7cf53 cJ15_checkIndex_7cf53 2 (some .int) fr lo mc ms 2 := ⟨⟨h1, h2⟩, ⟨h3, h4⟩, co_J15_checkIndex_7cf53, ini_J15, by decide +kernel⟩
theorem co_Jx4a65c_elementData_915e3 : Cond.code yJx4a65c_elementData_915e3 cJx4a65c_elementData_915e3 2 (some (.object "java/lang/Object")) ∈ gtbl := gtbl_in (by decide +kernel) rfl
theorem im_Jx4a65c_elementData_915e3 : Cond.instanceMethod yJx4a65c_elementData_915e3 ∈ gtbl := gtbl_in (by decide +kernel) rfl
theorem se_Jx4a65c_elementData_915e3 : Cond.selects RJx4a65c yJx4a65c_elementData_915e3 yJx4a65c_elementData_915e3 ∈ gtbl := gtbl_in (by decide +kernel) rfl
theorem rm_Jx4a65c_elementData_915e3 {R : Room} {k n fr lo mc ms : Nat} (h1 : fr + 1 ≤ R.frames) (h2 : 8 + (2 + 11) + lo ≤ R.locals) (h3 : k + mc ≤ R.cells) (h4 : n + ms ≤ R.slots) : Rm R k n yJx4a65c_elementData_915e3 cJx4a65c_elementData_915e3 2 (some (.object "java/lang/Object")) fr lo mc ms 1 := ⟨⟨h1, h2⟩, ⟨h3, h4⟩, co_Jx4a65c_elementData_915e3, ini_Jx4a65c, by decide +kernel⟩
theorem co_Jx4a65c_get_915e3 : Cond.code yJx4a65c_get_915e3 cJx4a65c_get_915e3 2 (some (.object "java/lang/Object")) ∈ gtbl := gtbl_in (by decide +kernel) rfl
theorem im_Jx4a65c_get_915e3 : Cond.instanceMethod yJx4a65c_get_915e3 ∈ gtbl := gtbl_in (by decide +kernel) rfl
theorem se_Jx4a65c_get_915e3 : Cond.selects RJx4a65c yJx4a65c_get_915e3 yJx4a65c_get_915e3 ∈ gtbl := gtbl_in (by decide +kernel) rfl
theorem rm_Jx4a65c_get_915e3 {R : Room} {k n fr lo mc ms : Nat} (h1 : fr + 1 ≤ R.frames) (h2 : 8 + (2 + 11) + lo ≤ R.locals) (h3 : k + mc ≤ R.cells) (h4 : n + ms ≤ R.slots) : Rm R k n yJx4a65c_get_915e3 cJx4a65c_get_915e3 2 (some (.object "java/lang/Object")) fr lo mc ms 1 := ⟨⟨h1, h2⟩, ⟨h3, h4⟩, co_Jx4a65c_get_915e3, ini_Jx4a65c, by decide +kernel⟩
theorem co_Jx4a65c_fastRemove_b59b0 : Cond.code yJx4a65c_fastRemove_b59b0 cJx4a65c_fastRemove_b59b0 4 none ∈ gtbl := gtbl_in (by decide +kernel) rfl
theorem im_Jx4a65c_fastRemove_b59b0 : Cond.instanceMethod yJx4a65c_fastRemove_b59b0 ∈ gtbl := gtbl_in (by decide +kernel) rfl
theorem se_Jx4a65c_fastRemove_b59b0 : Cond.selects RJx4a65c yJx4a65c_fastRemove_b59b0 yJx4a65c_fastRemove_b59b0 ∈ gtbl := gtbl_in (by decide +kernel) rfl
theorem rm_Jx4a65c_fastRemove_b59b0 {R : Room} {k n fr lo mc ms : Nat} (h1 : fr + 1 ≤ R.frames) (h2 : 8 + (4 + 11) + lo ≤ R.locals) (h3 : k + mc ≤ R.cells) (h4 : n + ms ≤ R.slots) : Rm R k n yJx4a65c_fastRemove_b59b0 cJx4a65c_fastRemove_b59b0 4 none fr lo mc ms 2 := ⟨⟨h1, h2⟩, ⟨h3, h4⟩, co_Jx4a65c_fastRemove_b59b0, ini_Jx4a65c, by decide +kernel⟩
theorem co_Jx4a65c_remove_915e3 : Cond.code yJx4a65c_remove_915e3 cJx4a65c_remove_915e3 4 (some (.object "java/lang/Object")) ∈ gtbl := gtbl_in (by decide +kernel) rfl
theorem im_Jx4a65c_remove_915e3 : Cond.instanceMethod yJx4a65c_remove_915e3 ∈ gtbl := gtbl_in (by decide +kernel) rfl
theorem se_Jx4a65c_remove_915e3 : Cond.selects RJx4a65c yJx4a65c_remove_915e3 yJx4a65c_remove_915e3 ∈ gtbl := gtbl_in (by decide +kernel) rfl
theorem rm_Jx4a65c_remove_915e3 {R : Room} {k n fr lo mc ms : Nat} (h1 : fr + 1 ≤ R.frames) (h2 : 8 + (4 + 11) + lo ≤ R.locals) (h3 : k + mc ≤ R.cells) (h4 : n + ms ≤ R.slots) : Rm R k n yJx4a65c_remove_915e3 cJx4a65c_remove_915e3 4 (some (.object "java/lang/Object")) fr lo mc ms 1 := ⟨⟨h1, h2⟩, ⟨h3, h4⟩, co_Jx4a65c_remove_915e3, ini_Jx4a65c, by decide +kernel⟩
theorem co_X4_bringWashed : Cond.code yX4_bringWashed cX4_bringWashed 2 none ∈ gtbl := gtbl_in (by decide +kernel) rfl
theorem im_X4_bringWashed : Cond.instanceMethod yX4_bringWashed ∈ gtbl := gtbl_in (by decide +kernel) rfl
theorem se_X4_bringWashed : Cond.selects RX4 yX4_bringWashed yX4_bringWashed ∈ gtbl := gtbl_in (by decide +kernel) rfl
theorem rm_X4_bringWashed {R : Room} {k n fr lo mc ms : Nat} (h1 : fr + 1 ≤ R.frames) (h2 : 8 + (2 + 11) + lo ≤ R.locals) (h3 : k + mc ≤ R.cells) (h4 : n + ms ≤ R.slots) : Rm R k n yX4_bringWashed cX4_bringWashed 2 none fr lo mc ms 0 := ⟨⟨h1, h2⟩, ⟨h3, h4⟩, co_X4_bringWashed, ini_X4, by decide +kernel⟩
theorem co_X4_feedLine : Cond.code yX4_feedLine cX4_feedLine 1 none ∈ gtbl := gtbl_in (by decide +kernel) rfl
theorem im_X4_feedLine : Cond.instanceMethod yX4_feedLine ∈ gtbl := gtbl_in (by decide +kernel) rfl
theorem se_X4_feedLine : Cond.selects RX4 yX4_feedLine yX4_feedLine ∈ gtbl := gtbl_in (by decide +kernel) rfl
theorem rm_X4_feedLine {R : Room} {k n fr lo mc ms : Nat} (h1 : fr + 1 ≤ R.frames) (h2 : 8 + (1 + 11) + lo ≤ R.locals) (h3 : k + mc ≤ R.cells) (h4 : n + ms ≤ R.slots) : Rm R k n yX4_feedLine cX4_feedLine 1 none fr lo mc ms 0 := ⟨⟨h1, h2⟩, ⟨h3, h4⟩, co_X4_feedLine, ini_X4, by decide +kernel⟩
theorem co_X4_passOneTick : Cond.code yX4_passOneTick cX4_passOneTick 2 none ∈ gtbl := gtbl_in (by decide +kernel) rfl
theorem im_X4_passOneTick : Cond.instanceMethod yX4_passOneTick ∈ gtbl := gtbl_in (by decide +kernel) rfl
theorem se_X4_passOneTick : Cond.selects RX4 yX4_passOneTick yX4_passOneTick ∈ gtbl := gtbl_in (by decide +kernel) rfl
theorem rm_X4_passOneTick {R : Room} {k n fr lo mc ms : Nat} (h1 : fr + 1 ≤ R.frames) (h2 : 8 + (2 + 11) + lo ≤ R.locals) (h3 : k + mc ≤ R.cells) (h4 : n + ms ≤ R.slots) : Rm R k n yX4_passOneTick cX4_passOneTick 2 none fr lo mc ms 0 := ⟨⟨h1, h2⟩, ⟨h3, h4⟩, co_X4_passOneTick, ini_X4, by decide +kernel⟩
theorem co_X4_tick : Cond.code yX4_tick cX4_tick 3 (some .int) ∈ gtbl := gtbl_in (by decide +kernel) rfl
theorem im_X4_tick : Cond.instanceMethod yX4_tick ∈ gtbl := gtbl_in (by decide +kernel) rfl
theorem se_X4_tick : Cond.selects RX4 yX4_tick yX4_tick ∈ gtbl := gtbl_in (by decide +kernel) rfl
theorem rm_X4_tick {R : Room} {k n fr lo mc ms : Nat} (h1 : fr + 1 ≤ R.frames) (h2 : 8 + (3 + 11) + lo ≤ R.locals) (h3 : k + mc ≤ R.cells) (h4 : n + ms ≤ R.slots) : Rm R k n yX4_tick cX4_tick 3 (some .int) fr lo mc ms 1 := ⟨⟨h1, h2⟩, ⟨h3, h4⟩, co_X4_tick, ini_X4, by decide +kernel⟩
theorem co_X4_drift : Cond.code yX4_drift cX4_drift 3 (some .int) ∈ gtbl := gtbl_in (by decide +kernel) rfl
theorem im_X4_drift : Cond.instanceMethod yX4_drift ∈ gtbl := gtbl_in (by decide +kernel) rfl
theorem se_X4_drift : Cond.selects RX4 yX4_drift yX4_drift ∈ gtbl := gtbl_in (by decide +kernel) rfl
theorem rm_X4_drift {R : Room} {k n fr lo mc ms : Nat} (h1 : fr + 1 ≤ R.frames) (h2 : 8 + (3 + 11) + lo ≤ R.locals) (h3 : k + mc ≤ R.cells) (h4 : n + ms ≤ R.slots) : Rm R k n yX4_drift cX4_drift 3 (some .int) fr lo mc ms 1 := ⟨⟨h1, h2⟩, ⟨h3, h4⟩, co_X4_drift, ini_X4, by decide +kernel⟩
theorem co_X4_isPacker : Cond.code yX4_isPacker cX4_isPacker 1 (some .boolean) ∈ gtbl := gtbl_in (by decide +kernel) rfl
theorem st_X4_isPacker : Cond.static yX4_isPacker ∈ gtbl := gtbl_in (by decide +kernel) rfl
theorem rm_X4_isPacker {R : Room} {k n fr lo mc ms : Nat} (h1 : fr + 1 ≤ R.frames) (h2 : 8 + (1 + 11) + lo ≤ R.locals) (h3 : k + mc ≤ R.cells) (h4 : n + ms ≤ R.slots) : Rm R k n yX4_isPacker cX4_isPacker 1 (some .boolean) fr lo mc ms 1 := ⟨⟨h1, h2⟩, ⟨h3, h4⟩, co_X4_isPacker, ini_X4, by decide +kernel⟩
theorem co_X4_isGrade : Cond.code yX4_isGrade cX4_isGrade 1 (some .boolean) ∈ gtbl := gtbl_in (by decide +kernel) rfl
theorem st_X4_isGrade : Cond.static yX4_isGrade ∈ gtbl := gtbl_in (by decide +kernel) rfl
theorem rm_X4_isGrade {R : Room} {k n fr lo mc ms : Nat} (h1 : fr + 1 ≤ R.frames) (h2 : 8 + (1 + 11) + lo ≤ R.locals) (h3 : k + mc ≤ R.cells) (h4 : n + ms ≤ R.slots) : Rm R k n yX4_isGrade cX4_isGrade 1 (some .boolean) fr lo mc ms 1 := ⟨⟨h1, h2⟩, ⟨h3, h4⟩, co_X4_isGrade, ini_X4, by decide +kernel⟩
theorem co_X4_grade : Cond.code yX4_grade cX4_grade 5 (some .int) ∈ gtbl := gtbl_in (by decide +kernel) rfl
theorem im_X4_grade : Cond.instanceMethod yX4_grade ∈ gtbl := gtbl_in (by decide +kernel) rfl
theorem se_X4_grade : Cond.selects RX4 yX4_grade yX4_grade ∈ gtbl := gtbl_in (by decide +kernel) rfl
theorem rm_X4_grade {R : Room} {k n fr lo mc ms : Nat} (h1 : fr + 1 ≤ R.frames) (h2 : 8 + (5 + 11) + lo ≤ R.locals) (h3 : k + mc ≤ R.cells) (h4 : n + ms ≤ R.slots) : Rm R k n yX4_grade cX4_grade 5 (some .int) fr lo mc ms 2 := ⟨⟨h1, h2⟩, ⟨h3, h4⟩, co_X4_grade, ini_X4, by decide +kernel⟩
theorem co_X4_asNumber : Cond.code yX4_asNumber cX4_asNumber 1 (some .int) ∈ gtbl := gtbl_in (by decide +kernel) rfl
theorem st_X4_asNumber : Cond.static yX4_asNumber ∈ gtbl := gtbl_in (by decide +kernel) rfl
theorem rm_X4_asNumber {R : Room} {k n fr lo mc ms : Nat} (h1 : fr + 1 ≤ R.frames) (h2 : 8 + (1 + 11) + lo ≤ R.locals) (h3 : k + mc ≤ R.cells) (h4 : n + ms ≤ R.slots) : Rm R k n yX4_asNumber cX4_asNumber 1 (some .int) fr lo mc ms 1 := ⟨⟨h1, h2⟩, ⟨h3, h4⟩, co_X4_asNumber, ini_X4, by decide +kernel⟩
theorem co_X4_on : Cond.code yX4_on cX4_on 5 (some .int) ∈ gtbl := gtbl_in (by decide +kernel) rfl
theorem im_X4_on : Cond.instanceMethod yX4_on ∈ gtbl := gtbl_in (by decide +kernel) rfl
theorem se_X4_on : Cond.selects RX4 yX4_on yX4_on ∈ gtbl := gtbl_in (by decide +kernel) rfl
theorem rm_X4_on {R : Room} {k n fr lo mc ms : Nat} (h1 : fr + 1 ≤ R.frames) (h2 : 8 + (5 + 11) + lo ≤ R.locals) (h3 : k + mc ≤ R.cells) (h4 : n + ms ≤ R.slots) : Rm R k n yX4_on cX4_on 5 (some .int) fr lo mc ms 2 := ⟨⟨h1, h2⟩, ⟨h3, h4⟩, co_X4_on, ini_X4, by decide +kernel⟩
theorem co_X4_at : Cond.code yX4_at cX4_at 5 (some .int) ∈ gtbl := gtbl_in (by decide +kernel) rfl
theorem im_X4_at : Cond.instanceMethod yX4_at ∈ gtbl := gtbl_in (by decide +kernel) rfl
theorem se_X4_at : Cond.selects RX4 yX4_at yX4_at ∈ gtbl := gtbl_in (by decide +kernel) rfl
theorem rm_X4_at {R : Room} {k n fr lo mc ms : Nat} (h1 : fr + 1 ≤ R.frames) (h2 : 8 + (5 + 11) + lo ≤ R.locals) (h3 : k + mc ≤ R.cells) (h4 : n + ms ≤ R.slots) : Rm R k n yX4_at cX4_at 5 (some .int) fr lo mc ms 2 := ⟨⟨h1, h2⟩, ⟨h3, h4⟩, co_X4_at, ini_X4, by decide +kernel⟩
theorem co_X4_packer : Cond.code yX4_packer cX4_packer 4 (some .int) ∈ gtbl := gtbl_in (by decide +kernel) rfl
theorem im_X4_packer : Cond.instanceMethod yX4_packer ∈ gtbl := gtbl_in (by decide +kernel) rfl
theorem se_X4_packer : Cond.selects RX4 yX4_packer yX4_packer ∈ gtbl := gtbl_in (by decide +kernel) rfl
theorem rm_X4_packer {R : Room} {k n fr lo mc ms : Nat} (h1 : fr + 1 ≤ R.frames) (h2 : 8 + (4 + 11) + lo ≤ R.locals) (h3 : k + mc ≤ R.cells) (h4 : n + ms ≤ R.slots) : Rm R k n yX4_packer cX4_packer 4 (some .int) fr lo mc ms 2 := ⟨⟨h1, h2⟩, ⟨h3, h4⟩, co_X4_packer, ini_X4, by decide +kernel⟩
theorem co_X4_eggsOnLine : Cond.code yX4_eggsOnLine cX4_eggsOnLine 3 (some .int) ∈ gtbl := gtbl_in (by decide +kernel) rfl
theorem im_X4_eggsOnLine : Cond.instanceMethod yX4_eggsOnLine ∈ gtbl := gtbl_in (by decide +kernel) rfl
theorem se_X4_eggsOnLine : Cond.selects RX4 yX4_eggsOnLine yX4_eggsOnLine ∈ gtbl := gtbl_in (by decide +kernel) rfl
theorem rm_X4_eggsOnLine {R : Room} {k n fr lo mc ms : Nat} (h1 : fr + 1 ≤ R.frames) (h2 : 8 + (3 + 11) + lo ≤ R.locals) (h3 : k + mc ≤ R.cells) (h4 : n + ms ≤ R.slots) : Rm R k n yX4_eggsOnLine cX4_eggsOnLine 3 (some .int) fr lo mc ms 0 := ⟨⟨h1, h2⟩, ⟨h3, h4⟩, co_X4_eggsOnLine, ini_X4, by decide +kernel⟩
theorem co_X4_eggsInTrays : Cond.code yX4_eggsInTrays cX4_eggsInTrays 3 (some .int) ∈ gtbl := gtbl_in (by decide +kernel) rfl
theorem im_X4_eggsInTrays : Cond.instanceMethod yX4_eggsInTrays ∈ gtbl := gtbl_in (by decide +kernel) rfl
theorem se_X4_eggsInTrays : Cond.selects RX4 yX4_eggsInTrays yX4_eggsInTrays ∈ gtbl := gtbl_in (by decide +kernel) rfl
theorem rm_X4_eggsInTrays {R : Room} {k n fr lo mc ms : Nat} (h1 : fr + 1 ≤ R.frames) (h2 : 8 + (3 + 11) + lo ≤ R.locals) (h3 : k + mc ≤ R.cells) (h4 : n + ms ≤ R.slots) : Rm R k n yX4_eggsInTrays cX4_eggsInTrays 3 (some .int) fr lo mc ms 0 := ⟨⟨h1, h2⟩, ⟨h3, h4⟩, co_X4_eggsInTrays, ini_X4, by decide +kernel⟩
theorem co_X4_count : Cond.code yX4_count cX4_count 2 (some .int) ∈ gtbl := gtbl_in (by decide +kernel) rfl
theorem im_X4_count : Cond.instanceMethod yX4_count ∈ gtbl := gtbl_in (by decide +kernel) rfl
theorem se_X4_count : Cond.selects RX4 yX4_count yX4_count ∈ gtbl := gtbl_in (by decide +kernel) rfl
theorem rm_X4_count {R : Room} {k n fr lo mc ms : Nat} (h1 : fr + 1 ≤ R.frames) (h2 : 8 + (2 + 11) + lo ≤ R.locals) (h3 : k + mc ≤ R.cells) (h4 : n + ms ≤ R.slots) : Rm R k n yX4_count cX4_count 2 (some .int) fr lo mc ms 1 := ⟨⟨h1, h2⟩, ⟨h3, h4⟩, co_X4_count, ini_X4, by decide +kernel⟩
theorem co_X4_barn : Cond.code yX4_barn cX4_barn 3 (some .int) ∈ gtbl := gtbl_in (by decide +kernel) rfl
theorem im_X4_barn : Cond.instanceMethod yX4_barn ∈ gtbl := gtbl_in (by decide +kernel) rfl
theorem se_X4_barn : Cond.selects RX4 yX4_barn yX4_barn ∈ gtbl := gtbl_in (by decide +kernel) rfl
theorem rm_X4_barn {R : Room} {k n fr lo mc ms : Nat} (h1 : fr + 1 ≤ R.frames) (h2 : 8 + (3 + 11) + lo ≤ R.locals) (h3 : k + mc ≤ R.cells) (h4 : n + ms ≤ R.slots) : Rm R k n yX4_barn cX4_barn 3 (some .int) fr lo mc ms 2 := ⟨⟨h1, h2⟩, ⟨h3, h4⟩, co_X4_barn, ini_X4, by decide +kernel⟩
theorem co_X4_isPack : Cond.code yX4_isPack cX4_isPack 2 (some .boolean) ∈ gtbl := gtbl_in (by decide +kernel) rfl
theorem im_X4_isPack : Cond.instanceMethod yX4_isPack ∈ gtbl := gtbl_in (by decide +kernel) rfl
theorem se_X4_isPack : Cond.selects RX4 yX4_isPack yX4_isPack ∈ gtbl := gtbl_in (by decide +kernel) rfl
theorem rm_X4_isPack {R : Room} {k n fr lo mc ms : Nat} (h1 : fr + 1 ≤ R.frames) (h2 : 8 + (2 + 11) + lo ≤ R.locals) (h3 : k + mc ≤ R.cells) (h4 : n + ms ≤ R.slots) : Rm R k n yX4_isPack cX4_isPack 2 (some .boolean) fr lo mc ms 1 := ⟨⟨h1, h2⟩, ⟨h3, h4⟩, co_X4_isPack, ini_X4, by decide +kernel⟩
theorem co_X4_pack : Cond.code yX4_pack cX4_pack 4 (some .int) ∈ gtbl := gtbl_in (by decide +kernel) rfl
theorem im_X4_pack : Cond.instanceMethod yX4_pack ∈ gtbl := gtbl_in (by decide +kernel) rfl
theorem se_X4_pack : Cond.selects RX4 yX4_pack yX4_pack ∈ gtbl := gtbl_in (by decide +kernel) rfl
theorem rm_X4_pack {R : Room} {k n fr lo mc ms : Nat} (h1 : fr + 1 ≤ R.frames) (h2 : 8 + (4 + 11) + lo ≤ R.locals) (h3 : k + mc ≤ R.cells) (h4 : n + ms ≤ R.slots) : Rm R k n yX4_pack cX4_pack 4 (some .int) fr lo mc ms 2 := ⟨⟨h1, h2⟩, ⟨h3, h4⟩, co_X4_pack, ini_X4, by decide +kernel⟩
theorem co_X4_free : Cond.code yX4_free cX4_free 4 (some .int) ∈ gtbl := gtbl_in (by decide +kernel) rfl
theorem im_X4_free : Cond.instanceMethod yX4_free ∈ gtbl := gtbl_in (by decide +kernel) rfl
theorem se_X4_free : Cond.selects RX4 yX4_free yX4_free ∈ gtbl := gtbl_in (by decide +kernel) rfl
theorem rm_X4_free {R : Room} {k n fr lo mc ms : Nat} (h1 : fr + 1 ≤ R.frames) (h2 : 8 + (4 + 11) + lo ≤ R.locals) (h3 : k + mc ≤ R.cells) (h4 : n + ms ≤ R.slots) : Rm R k n yX4_free cX4_free 4 (some .int) fr lo mc ms 1 := ⟨⟨h1, h2⟩, ⟨h3, h4⟩, co_X4_free, ini_X4, by decide +kernel⟩
theorem co_X4_order : Cond.code yX4_order cX4_order 4 (some .int) ∈ gtbl := gtbl_in (by decide +kernel) rfl
theorem im_X4_order : Cond.instanceMethod yX4_order ∈ gtbl := gtbl_in (by decide +kernel) rfl
theorem se_X4_order : Cond.selects RX4 yX4_order yX4_order ∈ gtbl := gtbl_in (by decide +kernel) rfl
theorem rm_X4_order {R : Room} {k n fr lo mc ms : Nat} (h1 : fr + 1 ≤ R.frames) (h2 : 8 + (4 + 11) + lo ≤ R.locals) (h3 : k + mc ≤ R.cells) (h4 : n + ms ≤ R.slots) : Rm R k n yX4_order cX4_order 4 (some .int) fr lo mc ms 3 := ⟨⟨h1, h2⟩, ⟨h3, h4⟩, co_X4_order, ini_X4, by decide +kernel⟩
theorem co_X4_freeByGrade : Cond.code yX4_freeByGrade cX4_freeByGrade 3 (some (.array .int)) ∈ gtbl := gtbl_in (by decide +kernel) rfl
theorem im_X4_freeByGrade : Cond.instanceMethod yX4_freeByGrade ∈ gtbl := gtbl_in (by decide +kernel) rfl
theorem se_X4_freeByGrade : Cond.selects RX4 yX4_freeByGrade yX4_freeByGrade ∈ gtbl := gtbl_in (by decide +kernel) rfl
theorem rm_X4_freeByGrade {R : Room} {k n fr lo mc ms : Nat} (h1 : fr + 1 ≤ R.frames) (h2 : 8 + (3 + 11) + lo ≤ R.locals) (h3 : k + mc ≤ R.cells) (h4 : n + ms ≤ R.slots) : Rm R k n yX4_freeByGrade cX4_freeByGrade 3 (some (.array .int)) fr lo mc ms 0 := ⟨⟨h1, h2⟩, ⟨h3, h4⟩, co_X4_freeByGrade, ini_X4, by decide +kernel⟩
theorem co_X4_hasBit : Cond.code yX4_hasBit cX4_hasBit 2 (some .boolean) ∈ gtbl := gtbl_in (by decide +kernel) rfl
theorem st_X4_hasBit : Cond.static yX4_hasBit ∈ gtbl := gtbl_in (by decide +kernel) rfl
theorem rm_X4_hasBit {R : Room} {k n fr lo mc ms : Nat} (h1 : fr + 1 ≤ R.frames) (h2 : 8 + (2 + 11) + lo ≤ R.locals) (h3 : k + mc ≤ R.cells) (h4 : n + ms ≤ R.slots) : Rm R k n yX4_hasBit cX4_hasBit 2 (some .boolean) fr lo mc ms 2 := ⟨⟨h1, h2⟩, ⟨h3, h4⟩, co_X4_hasBit, ini_X4, by decide +kernel⟩
theorem co_X4_worthOf : Cond.code yX4_worthOf cX4_worthOf 4 (some .int) ∈ gtbl := gtbl_in (by decide +kernel) rfl
theorem im_X4_worthOf : Cond.instanceMethod yX4_worthOf ∈ gtbl := gtbl_in (by decide +kernel) rfl
theorem se_X4_worthOf : Cond.selects RX4 yX4_worthOf yX4_worthOf ∈ gtbl := gtbl_in (by decide +kernel) rfl
theorem rm_X4_worthOf {R : Room} {k n fr lo mc ms : Nat} (h1 : fr + 1 ≤ R.frames) (h2 : 8 + (4 + 11) + lo ≤ R.locals) (h3 : k + mc ≤ R.cells) (h4 : n + ms ≤ R.slots) : Rm R k n yX4_worthOf cX4_worthOf 4 (some .int) fr lo mc ms 1 := ⟨⟨h1, h2⟩, ⟨h3, h4⟩, co_X4_worthOf, ini_X4, by decide +kernel⟩
theorem co_X4_wantedOf : Cond.code yX4_wantedOf cX4_wantedOf 6 (some .int) ∈ gtbl := gtbl_in (by decide +kernel) rfl
theorem im_X4_wantedOf : Cond.instanceMethod yX4_wantedOf ∈ gtbl := gtbl_in (by decide +kernel) rfl
theorem se_X4_wantedOf : Cond.selects RX4 yX4_wantedOf yX4_wantedOf ∈ gtbl := gtbl_in (by decide +kernel) rfl
theorem rm_X4_wantedOf {R : Room} {k n fr lo mc ms : Nat} (h1 : fr + 1 ≤ R.frames) (h2 : 8 + (6 + 11) + lo ≤ R.locals) (h3 : k + mc ≤ R.cells) (h4 : n + ms ≤ R.slots) : Rm R k n yX4_wantedOf cX4_wantedOf 6 (some .int) fr lo mc ms 2 := ⟨⟨h1, h2⟩, ⟨h3, h4⟩, co_X4_wantedOf, ini_X4, by decide +kernel⟩
theorem co_X4_canServe : Cond.code yX4_canServe cX4_canServe 4 (some .boolean) ∈ gtbl := gtbl_in (by decide +kernel) rfl
theorem im_X4_canServe : Cond.instanceMethod yX4_canServe ∈ gtbl := gtbl_in (by decide +kernel) rfl
theorem se_X4_canServe : Cond.selects RX4 yX4_canServe yX4_canServe ∈ gtbl := gtbl_in (by decide +kernel) rfl
theorem rm_X4_canServe {R : Room} {k n fr lo mc ms : Nat} (h1 : fr + 1 ≤ R.frames) (h2 : 8 + (4 + 11) + lo ≤ R.locals) (h3 : k + mc ≤ R.cells) (h4 : n + ms ≤ R.slots) : Rm R k n yX4_canServe cX4_canServe 4 (some .boolean) fr lo mc ms 2 := ⟨⟨h1, h2⟩, ⟨h3, h4⟩, co_X4_canServe, ini_X4, by decide +kernel⟩
theorem co_X4_bestSet : Cond.code yX4_bestSet cX4_bestSet 7 (some .int) ∈ gtbl := gtbl_in (by decide +kernel) rfl
theorem im_X4_bestSet : Cond.instanceMethod yX4_bestSet ∈ gtbl := gtbl_in (by decide +kernel) rfl
theorem se_X4_bestSet : Cond.selects RX4 yX4_bestSet yX4_bestSet ∈ gtbl := gtbl_in (by decide +kernel) rfl
theorem rm_X4_bestSet {R : Room} {k n fr lo mc ms : Nat} (h1 : fr + 1 ≤ R.frames) (h2 : 8 + (7 + 11) + lo ≤ R.locals) (h3 : k + mc ≤ R.cells) (h4 : n + ms ≤ R.slots) : Rm R k n yX4_bestSet cX4_bestSet 7 (some .int) fr lo mc ms 0 := ⟨⟨h1, h2⟩, ⟨h3, h4⟩, co_X4_bestSet, ini_X4, by decide +kernel⟩
theorem co_X4_best : Cond.code yX4_best cX4_best 2 (some .int) ∈ gtbl := gtbl_in (by decide +kernel) rfl
theorem im_X4_best : Cond.instanceMethod yX4_best ∈ gtbl := gtbl_in (by decide +kernel) rfl
theorem se_X4_best : Cond.selects RX4 yX4_best yX4_best ∈ gtbl := gtbl_in (by decide +kernel) rfl
theorem rm_X4_best {R : Room} {k n fr lo mc ms : Nat} (h1 : fr + 1 ≤ R.frames) (h2 : 8 + (2 + 11) + lo ≤ R.locals) (h3 : k + mc ≤ R.cells) (h4 : n + ms ≤ R.slots) : Rm R k n yX4_best cX4_best 2 (some .int) fr lo mc ms 1 := ⟨⟨h1, h2⟩, ⟨h3, h4⟩, co_X4_best, ini_X4, by decide +kernel⟩
theorem co_X4_sellTo : Cond.code yX4_sellTo cX4_sellTo 6 (some .int) ∈ gtbl := gtbl_in (by decide +kernel) rfl
theorem im_X4_sellTo : Cond.instanceMethod yX4_sellTo ∈ gtbl := gtbl_in (by decide +kernel) rfl
theorem se_X4_sellTo : Cond.selects RX4 yX4_sellTo yX4_sellTo ∈ gtbl := gtbl_in (by decide +kernel) rfl
theorem rm_X4_sellTo {R : Room} {k n fr lo mc ms : Nat} (h1 : fr + 1 ≤ R.frames) (h2 : 8 + (6 + 11) + lo ≤ R.locals) (h3 : k + mc ≤ R.cells) (h4 : n + ms ≤ R.slots) : Rm R k n yX4_sellTo cX4_sellTo 6 (some .int) fr lo mc ms 1 := ⟨⟨h1, h2⟩, ⟨h3, h4⟩, co_X4_sellTo, ini_X4, by decide +kernel⟩
theorem co_X4_serve : Cond.code yX4_serve cX4_serve 4 (some .int) ∈ gtbl := gtbl_in (by decide +kernel) rfl
theorem im_X4_serve : Cond.instanceMethod yX4_serve ∈ gtbl := gtbl_in (by decide +kernel) rfl
theorem se_X4_serve : Cond.selects RX4 yX4_serve yX4_serve ∈ gtbl := gtbl_in (by decide +kernel) rfl
theorem rm_X4_serve {R : Room} {k n fr lo mc ms : Nat} (h1 : fr + 1 ≤ R.frames) (h2 : 8 + (4 + 11) + lo ≤ R.locals) (h3 : k + mc ≤ R.cells) (h4 : n + ms ≤ R.slots) : Rm R k n yX4_serve cX4_serve 4 (some .int) fr lo mc ms 0 := ⟨⟨h1, h2⟩, ⟨h3, h4⟩, co_X4_serve, ini_X4, by decide +kernel⟩
theorem co_X4_about : Cond.code yX4_about cX4_about 4 (some .int) ∈ gtbl := gtbl_in (by decide +kernel) rfl
theorem im_X4_about : Cond.instanceMethod yX4_about ∈ gtbl := gtbl_in (by decide +kernel) rfl
theorem se_X4_about : Cond.selects RX4 yX4_about yX4_about ∈ gtbl := gtbl_in (by decide +kernel) rfl
theorem rm_X4_about {R : Room} {k n fr lo mc ms : Nat} (h1 : fr + 1 ≤ R.frames) (h2 : 8 + (4 + 11) + lo ≤ R.locals) (h3 : k + mc ≤ R.cells) (h4 : n + ms ≤ R.slots) : Rm R k n yX4_about cX4_about 4 (some .int) fr lo mc ms 2 := ⟨⟨h1, h2⟩, ⟨h3, h4⟩, co_X4_about, ini_X4, by decide +kernel⟩
theorem co_X4_doubt : Cond.code yX4_doubt cX4_doubt 6 (some .int) ∈ gtbl := gtbl_in (by decide +kernel) rfl
theorem im_X4_doubt : Cond.instanceMethod yX4_doubt ∈ gtbl := gtbl_in (by decide +kernel) rfl
theorem se_X4_doubt : Cond.selects RX4 yX4_doubt yX4_doubt ∈ gtbl := gtbl_in (by decide +kernel) rfl
theorem rm_X4_doubt {R : Room} {k n fr lo mc ms : Nat} (h1 : fr + 1 ≤ R.frames) (h2 : 8 + (6 + 11) + lo ≤ R.locals) (h3 : k + mc ≤ R.cells) (h4 : n + ms ≤ R.slots) : Rm R k n yX4_doubt cX4_doubt 6 (some .int) fr lo mc ms 2 := ⟨⟨h1, h2⟩, ⟨h3, h4⟩, co_X4_doubt, ini_X4, by decide +kernel⟩
theorem co_X4_hours : Cond.code yX4_hours cX4_hours 7 (some .int) ∈ gtbl := gtbl_in (by decide +kernel) rfl
theorem im_X4_hours : Cond.instanceMethod yX4_hours ∈ gtbl := gtbl_in (by decide +kernel) rfl
theorem se_X4_hours : Cond.selects RX4 yX4_hours yX4_hours ∈ gtbl := gtbl_in (by decide +kernel) rfl
theorem rm_X4_hours {R : Room} {k n fr lo mc ms : Nat} (h1 : fr + 1 ≤ R.frames) (h2 : 8 + (7 + 11) + lo ≤ R.locals) (h3 : k + mc ≤ R.cells) (h4 : n + ms ≤ R.slots) : Rm R k n yX4_hours cX4_hours 7 (some .int) fr lo mc ms 3 := ⟨⟨h1, h2⟩, ⟨h3, h4⟩, co_X4_hours, ini_X4, by decide +kernel⟩
theorem co_X4_clear : Cond.code yX4_clear cX4_clear 3 (some .int) ∈ gtbl := gtbl_in (by decide +kernel) rfl
theorem im_X4_clear : Cond.instanceMethod yX4_clear ∈ gtbl := gtbl_in (by decide +kernel) rfl
theorem se_X4_clear : Cond.selects RX4 yX4_clear yX4_clear ∈ gtbl := gtbl_in (by decide +kernel) rfl
theorem rm_X4_clear {R : Room} {k n fr lo mc ms : Nat} (h1 : fr + 1 ≤ R.frames) (h2 : 8 + (3 + 11) + lo ≤ R.locals) (h3 : k + mc ≤ R.cells) (h4 : n + ms ≤ R.slots) : Rm R k n yX4_clear cX4_clear 3 (some .int) fr lo mc ms 1 := ⟨⟨h1, h2⟩, ⟨h3, h4⟩, co_X4_clear, ini_X4, by decide +kernel⟩
theorem co_X4_packsSold : Cond.code yX4_packsSold cX4_packsSold 3 (some .int) ∈ gtbl := gtbl_in (by decide +kernel) rfl
theorem im_X4_packsSold : Cond.instanceMethod yX4_packsSold ∈ gtbl := gtbl_in (by decide +kernel) rfl
theorem se_X4_packsSold : Cond.selects RX4 yX4_packsSold yX4_packsSold ∈ gtbl := gtbl_in (by decide +kernel) rfl
theorem rm_X4_packsSold {R : Room} {k n fr lo mc ms : Nat} (h1 : fr + 1 ≤ R.frames) (h2 : 8 + (3 + 11) + lo ≤ R.locals) (h3 : k + mc ≤ R.cells) (h4 : n + ms ≤ R.slots) : Rm R k n yX4_packsSold cX4_packsSold 3 (some .int) fr lo mc ms 0 := ⟨⟨h1, h2⟩, ⟨h3, h4⟩, co_X4_packsSold, ini_X4, by decide +kernel⟩
theorem co_X4_packsHeld : Cond.code yX4_packsHeld cX4_packsHeld 3 (some .int) ∈ gtbl := gtbl_in (by decide +kernel) rfl
theorem im_X4_packsHeld : Cond.instanceMethod yX4_packsHeld ∈ gtbl := gtbl_in (by decide +kernel) rfl
theorem se_X4_packsHeld : Cond.selects RX4 yX4_packsHeld yX4_packsHeld ∈ gtbl := gtbl_in (by decide +kernel) rfl
theorem rm_X4_packsHeld {R : Room} {k n fr lo mc ms : Nat} (h1 : fr + 1 ≤ R.frames) (h2 : 8 + (3 + 11) + lo ≤ R.locals) (h3 : k + mc ≤ R.cells) (h4 : n + ms ≤ R.slots) : Rm R k n yX4_packsHeld cX4_packsHeld 3 (some .int) fr lo mc ms 0 := ⟨⟨h1, h2⟩, ⟨h3, h4⟩, co_X4_packsHeld, ini_X4, by decide +kernel⟩
theorem co_X4_told : Cond.code yX4_told cX4_told 2 (some .int) ∈ gtbl := gtbl_in (by decide +kernel) rfl
theorem im_X4_told : Cond.instanceMethod yX4_told ∈ gtbl := gtbl_in (by decide +kernel) rfl
theorem se_X4_told : Cond.selects RX4 yX4_told yX4_told ∈ gtbl := gtbl_in (by decide +kernel) rfl
theorem rm_X4_told {R : Room} {k n fr lo mc ms : Nat} (h1 : fr + 1 ≤ R.frames) (h2 : 8 + (2 + 11) + lo ≤ R.locals) (h3 : k + mc ≤ R.cells) (h4 : n + ms ≤ R.slots) : Rm R k n yX4_told cX4_told 2 (some .int) fr lo mc ms 1 := ⟨⟨h1, h2⟩, ⟨h3, h4⟩, co_X4_told, ini_X4, by decide +kernel⟩
theorem co_X4_trace : Cond.code yX4_trace cX4_trace 1 (some .long) ∈ gtbl := gtbl_in (by decide +kernel) rfl
theorem im_X4_trace : Cond.instanceMethod yX4_trace ∈ gtbl := gtbl_in (by decide +kernel) rfl
theorem se_X4_trace : Cond.selects RX4 yX4_trace yX4_trace ∈ gtbl := gtbl_in (by decide +kernel) rfl
theorem rm_X4_trace {R : Room} {k n fr lo mc ms : Nat} (h1 : fr + 1 ≤ R.frames) (h2 : 8 + (1 + 11) + lo ≤ R.locals) (h3 : k + mc ≤ R.cells) (h4 : n + ms ≤ R.slots) : Rm R k n yX4_trace cX4_trace 1 (some .long) fr lo mc ms 0 := ⟨⟨h1, h2⟩, ⟨h3, h4⟩, co_X4_trace, ini_X4, by decide +kernel⟩
end
section
/-! the class's heap: addresses, kinds, lengths, number fields, reference fields, long fields, number arrays, reference arrays -/
abbrev CS : Type := List Nat × (Nat → Nat) × (Nat → Nat) × (Nat → Nat → Int32) × (Nat → Nat → Option Nat) × (Nat → Int64) × (Nat → Nat → Int32) × (Nat → Nat → Option Nat)
abbrev sL (S : CS) : List Nat := S.1
abbrev sK (S : CS) : Nat → Nat := S.2.1
abbrev sN (S : CS) : Nat → Nat := S.2.2.1
abbrev sI (S : CS) : Nat → Nat → Int32 := S.2.2.2.1
abbrev sR (S : CS) : Nat → Nat → Option Nat := S.2.2.2.2.1
abbrev sJ (S : CS) : Nat → Int64 := S.2.2.2.2.2.1
abbrev sA (S : CS) : Nat → Nat → Int32 := S.2.2.2.2.2.2.1
abbrev sB (S : CS) : Nat → Nat → Option Nat := S.2.2.2.2.2.2.2
def upr (R : Nat → Nat → Option Nat) (f a : Nat) (v : Option Nat) : Nat → Nat → Option Nat := fun g => if g = f then va_up (R g) a v else R g
abbrev uI (S : CS) (f a : Nat) (v : Int32) : CS := (S.1, S.2.1, S.2.2.1, up2 S.2.2.2.1 f a v, S.2.2.2.2.1, S.2.2.2.2.2.1, S.2.2.2.2.2.2.1, S.2.2.2.2.2.2.2)
abbrev uR (S : CS) (f a : Nat) (v : Option Nat) : CS := (S.1, S.2.1, S.2.2.1, S.2.2.2.1, upr S.2.2.2.2.1 f a v, S.2.2.2.2.2.1, S.2.2.2.2.2.2.1, S.2.2.2.2.2.2.2)
abbrev uJ (S : CS) (a : Nat) (v : Int64) : CS := (S.1, S.2.1, S.2.2.1, S.2.2.2.1, S.2.2.2.2.1, va_up S.2.2.2.2.2.1 a v, S.2.2.2.2.2.2.1, S.2.2.2.2.2.2.2)
abbrev uA (S : CS) (q x : Nat) (v : Int32) : CS := (S.1, S.2.1, S.2.2.1, S.2.2.2.1, S.2.2.2.2.1, S.2.2.2.2.2.1, up2 S.2.2.2.2.2.2.1 q x v, S.2.2.2.2.2.2.2)
abbrev uB (S : CS) (q : Nat) (f : Nat → Option Nat) : CS := (S.1, S.2.1, S.2.2.1, S.2.2.2.1, S.2.2.2.2.1, S.2.2.2.2.2.1, S.2.2.2.2.2.2.1, va_up S.2.2.2.2.2.2.2 q f)
/-- a new object of kind kd at q: all its fields are 0, null -/
def zI (I : Nat → Nat → Int32) (q : Nat) : Nat → Nat → Int32 := fun f a => if a = q then 0 else I f a
def zR (R : Nat → Nat → Option Nat) (q : Nat) : Nat → Nat → Option Nat := fun f a => if a = q then none else R f a
abbrev nO (S : CS) (q kd : Nat) : CS := (S.1 ++ [q], va_up S.2.1 q kd, S.2.2.1, zI S.2.2.2.1 q, zR S.2.2.2.2.1 q, va_up S.2.2.2.2.2.1 q 0, S.2.2.2.2.2.2.1, S.2.2.2.2.2.2.2)
/-- a new array -/
abbrev nA (S : CS) (q kd n : Nat) : CS := (S.1 ++ [q], va_up S.2.1 q kd, va_up S.2.2.1 q n, S.2.2.2.1, S.2.2.2.2.1, S.2.2.2.2.2.1, va_up S.2.2.2.2.2.2.1 q (fun _ => 0), va_up S.2.2.2.2.2.2.2 q (fun _ => none))
def Is (S : CS) (a kd : Nat) : Prop := a ∈ S.1 ∧ S.2.1 a = kd
def cE (ar : Nat → ClassId) (S : CS) (a : Nat) : va_E := if S.2.1 a = 0 then .inr (0, [.int (S.2.2.2.1 0 a), .int (S.2.2.2.1 1 a), .int (S.2.2.2.1 2 a), .int (S.2.2.2.1 3 a), .int (S.2.2.2.1 4 a), .int (S.2.2.2.1 5 a), .int (S.2.2.2.1 6 a), .int (S.2.2.2.1 7 a), .int (S.2.2.2.1 8 a)]) else if S.2.1 a = 1 then .inr (1, [.int (S.2.2.2.1 10 a), .int (S.2.2.2.1 11 a), .int (S.2.2.2.1 12 a), .int (S.2.2.2.1 13 a)]) else if S.2.1 a = 2 then .inr (2, [.int (S.2.2.2.1 20 a), .int (S.2.2.2.1 21 a), .int (S.2.2.2.1 22 a), .int (S.2.2.2.1 23 a), .int (S.2.2.2.1 24 a), .int (S.2.2.2.1 25 a), .int (S.2.2.2.1 26 a), .int (S.2.2.2.1 27 a), .int (S.2.2.2.1 28 a)]) else if S.2.1 a = 3 then .inr (3, [.int (S.2.2.2.1 30 a), .int (S.2.2.2.1 31 a), .int (S.2.2.2.1 32 a), .int (S.2.2.2.1 33 a), va_rf (S.2.2.2.2.1 0 a)]) else if S.2.1 a = 4 then .inr (4, [va_rf (S.2.2.2.2.1 1 a), va_rf (S.2.2.2.2.1 2 a), va_rf (S.2.2.2.2.1 3 a), va_rf (S.2.2.2.2.1 4 a), va_rf (S.2.2.2.2.1 5 a), va_rf (S.2.2.2.2.1 6 a), va_rf (S.2.2.2.2.1 7 a), .int (S.2.2.2.1 40 a), .int (S.2.2.2.1 41 a), .int (S.2.2.2.1 42 a), .long (S.2.2.2.2.2.1 a)]) else if S.2.1 a = 6 then .inr (6, [.int (S.2.2.2.1 50 a), va_rf (S.2.2.2.2.1 8 a), .int (S.2.2.2.1 51 a)]) else if S.2.1 a = 7 then .inl (ar 0, S.2.2.1 a, .inl (S.2.2.2.2.2.2.1 a)) else if S.2.1 a = 8 then .inl (ar 2, S.2.2.1 a, .inr (.inr (.inr (.inr (S.2.2.2.2.2.2.2 a))))) else if S.2.1 a = 9 then .inl (ar 3, S.2.2.1 a, .inr (.inr (.inr (.inr (S.2.2.2.2.2.2.2 a))))) else if S.2.1 a = 10 then .inl (ar 4, S.2.2.1 a, .inr (.inr (.inr (.inr (S.2.2.2.2.2.2.2 a))))) else .inl (ar 5, S.2.2.1 a, .inr (.inr (.inr (.inr (S.2.2.2.2.2.2.2 a)))))
def cW (ar : Nat → ClassId) (S : CS) : va_W := va_pl S.1 (cE ar S)
theorem cE_0 {ar : Nat → ClassId} {S : CS} {a : Nat} (h : S.2.1 a = 0) : cE ar S a = .inr (0, [.int (S.2.2.2.1 0 a), .int (S.2.2.2.1 1 a), .int (S.2.2.2.1 2 a), .int (S.2.2.2.1 3 a), .int (S.2.2.2.1 4 a), .int (S.2.2.2.1 5 a), .int (S.2.2.2.1 6 a), .int (S.2.2.2.1 7 a), .int (S.2.2.2.1 8 a)]) := by simp [cE, h]
theorem cE_1 {ar : Nat → ClassId} {S : CS} {a : Nat} (h : S.2.1 a = 1) : cE ar S a = .inr (1, [.int (S.2.2.2.1 10 a), .int (S.2.2.2.1 11 a), .int (S.2.2.2.1 12 a), .int (S.2.2.2.1 13 a)]) := by simp [cE, h]
theorem cE_2 {ar : Nat → ClassId} {S : CS} {a : Nat} (h : S.2.1 a = 2) : cE ar S a = .inr (2, [.int (S.2.2.2.1 20 a), .int (S.2.2.2.1 21 a), .int (S.2.2.2.1 22 a), .int (S.2.2.2.1 23 a), .int (S.2.2.2.1 24 a), .int (S.2.2.2.1 25 a), .int (S.2.2.2.1 26 a), .int (S.2.2.2.1 27 a), .int (S.2.2.2.1 28 a)]) := by simp [cE, h]
theorem cE_3 {ar : Nat → ClassId} {S : CS} {a : Nat} (h : S.2.1 a = 3) : cE ar S a = .inr (3, [.int (S.2.2.2.1 30 a), .int (S.2.2.2.1 31 a), .int (S.2.2.2.1 32 a), .int (S.2.2.2.1 33 a), va_rf (S.2.2.2.2.1 0 a)]) := by simp [cE, h]
theorem cE_4 {ar : Nat → ClassId} {S : CS} {a : Nat} (h : S.2.1 a = 4) : cE ar S a = .inr (4, [va_rf (S.2.2.2.2.1 1 a), va_rf (S.2.2.2.2.1 2 a), va_rf (S.2.2.2.2.1 3 a), va_rf (S.2.2.2.2.1 4 a), va_rf (S.2.2.2.2.1 5 a), va_rf (S.2.2.2.2.1 6 a), va_rf (S.2.2.2.2.1 7 a), .int (S.2.2.2.1 40 a), .int (S.2.2.2.1 41 a), .int (S.2.2.2.1 42 a), .long (S.2.2.2.2.2.1 a)]) := by simp [cE, h]
theorem cE_6 {ar : Nat → ClassId} {S : CS} {a : Nat} (h : S.2.1 a = 6) : cE ar S a = .inr (6, [.int (S.2.2.2.1 50 a), va_rf (S.2.2.2.2.1 8 a), .int (S.2.2.2.1 51 a)]) := by simp [cE, h]
theorem cE_7 {ar : Nat → ClassId} {S : CS} {a : Nat} (h : S.2.1 a = 7) : cE ar S a = .inl (ar 0, S.2.2.1 a, .inl (S.2.2.2.2.2.2.1 a)) := by simp [cE, h]
theorem cE_8 {ar : Nat → ClassId} {S : CS} {a : Nat} (h : S.2.1 a = 8) : cE ar S a = .inl (ar 2, S.2.2.1 a, .inr (.inr (.inr (.inr (S.2.2.2.2.2.2.2 a))))) := by simp [cE, h]
theorem cE_9 {ar : Nat → ClassId} {S : CS} {a : Nat} (h : S.2.1 a = 9) : cE ar S a = .inl (ar 3, S.2.2.1 a, .inr (.inr (.inr (.inr (S.2.2.2.2.2.2.2 a))))) := by simp [cE, h]
theorem cE_10 {ar : Nat → ClassId} {S : CS} {a : Nat} (h : S.2.1 a = 10) : cE ar S a = .inl (ar 4, S.2.2.1 a, .inr (.inr (.inr (.inr (S.2.2.2.2.2.2.2 a))))) := by simp [cE, h]
theorem cE_11 {ar : Nat → ClassId} {S : CS} {a : Nat} (h : S.2.1 a = 11) : cE ar S a = .inl (ar 5, S.2.2.1 a, .inr (.inr (.inr (.inr (S.2.2.2.2.2.2.2 a))))) := by simp [cE, h]
theorem cW_get {ar : Nat → ClassId} {S : CS} {a : Nat} {e : va_E} (h : a ∈ S.1) (he : cE ar S a = e) : ∃ q : Nat, (cW ar S)[q]? = some (a, e) := by
  obtain ⟨q, hq⟩ := va_pl_get (X := []) (f := cE ar S) h
  exact ⟨q, by rw [← he]; exact hq⟩
theorem cW_set {ar : Nat → ClassId} {S S' : CS} {A : Nat → Prop} {a q : Nat} {e0 e : va_E} (hD : va_D A (cW ar S)) (h : a ∈ S.1) (hq : (cW ar S)[q]? = some (a, e0)) (h0 : cE ar S a = e0) (hL : S'.1 = S.1) (ha : cE ar S' a = e) (ho : ∀ b, b ≠ a → cE ar S' b = cE ar S b) : (cW ar S).set q (a, e) = cW ar S' := by
  have h1 := va_pl_set (X := []) (f := cE ar S) (e := e) hD h (k := q) (by rw [h0]; exact hq)
  show ([] ++ va_pl S.1 (cE ar S)).set q (a, e) = va_pl S'.1 (cE ar S')
  rw [h1, hL]
  exact va_pl_congr (fun b => by
    by_cases hb : b = a
    · subst hb
      rw [ha]; simp [va_up]
    · rw [ho b hb]; simp [va_up, hb])
theorem up2_o {I : Nat → Nat → Int32} {f g a b : Nat} {v : Int32} (h : b ≠ a) : up2 I f a v g b = I g b := by
  unfold up2 upd
  by_cases e : g = f
  · rw [if_pos e, if_neg h]
  · rw [if_neg e]
theorem upr_o {R : Nat → Nat → Option Nat} {f g a b : Nat} {v : Option Nat} (h : b ≠ a) : upr R f a v g b = R g b := by
  unfold upr va_up
  by_cases e : g = f
  · rw [if_pos e, if_neg h]
  · rw [if_neg e]
theorem up2_e {I : Nat → Nat → Int32} {f a : Nat} {v : Int32} : up2 I f a v f a = v := by
  unfold up2 upd
  rw [if_pos rfl, if_pos rfl]
theorem upr_e {R : Nat → Nat → Option Nat} {f a : Nat} {v : Option Nat} : upr R f a v f a = v := by
  unfold upr va_up
  rw [if_pos rfl, if_pos rfl]
theorem cE_oI {ar : Nat → ClassId} {S : CS} {f a b : Nat} {v : Int32} (h : b ≠ a) : cE ar (uI S f a v) b = cE ar S b := by
  simp only [cE, up2_o h]
theorem cE_oR {ar : Nat → ClassId} {S : CS} {f a b : Nat} {v : Option Nat} (h : b ≠ a) : cE ar (uR S f a v) b = cE ar S b := by
  simp only [cE, upr_o h]
theorem cE_oJ {ar : Nat → ClassId} {S : CS} {a b : Nat} {v : Int64} (h : b ≠ a) : cE ar (uJ S a v) b = cE ar S b := by
  simp only [cE, va_up_ne _ _ h]
theorem cE_oA {ar : Nat → ClassId} {S : CS} {a b x : Nat} {v : Int32} (h : b ≠ a) : cE ar (uA S a x v) b = cE ar S b := by
  simp only [cE, up2_n h]
theorem cE_oB {ar : Nat → ClassId} {S : CS} {a b : Nat} {f : Nat → Option Nat} (h : b ≠ a) : cE ar (uB S a f) b = cE ar S b := by
  simp only [cE, va_up_ne _ _ h]
theorem cE_oO {ar : Nat → ClassId} {S : CS} {q b kd : Nat} (h : b ≠ q) : cE ar (nO S q kd) b = cE ar S b := by
  simp only [cE, va_up_ne _ _ h, zI, zR, if_neg h]
theorem cE_oN {ar : Nat → ClassId} {S : CS} {q b kd n : Nat} (h : b ≠ q) : cE ar (nA S q kd n) b = cE ar S b := by
  simp only [cE, va_up_ne _ _ h]
theorem cW_push {ar : Nat → ClassId} {S S' : CS} {q : Nat} {e : va_E} (hq : q ∉ S.1) (hL : S'.1 = S.1 ++ [q]) (ha : cE ar S' q = e) (ho : ∀ b, b ≠ q → cE ar S' b = cE ar S b) : cW ar S ++ [(q, e)] = cW ar S' := by
  show va_pl S.1 (cE ar S) ++ [(q, e)] = va_pl S'.1 (cE ar S')
  rw [va_pl_push hq, hL]
  exact va_pl_congr (fun b => by
    by_cases hb : b = q
    · subst hb
      rw [ha]; simp [va_up]
    · rw [ho b hb]; simp [va_up, hb])
theorem cW_fresh {ar : Nat → ClassId} {S : CS} {A : Nat → Prop} {q : Nat} {e : va_E} (hD : va_D A (cW ar S ++ [(q, e)])) : q ∉ S.1 := va_pl_fresh2 (X := []) hD
theorem gX0 : ∀ w ∈ u_ws RX0 TX0 9, w ∈ gtbl := by decide +kernel
theorem gX1 : ∀ w ∈ u_ws RX1 TX1 4, w ∈ gtbl := by decide +kernel
theorem gX2 : ∀ w ∈ u_ws RX2 TX2 9, w ∈ gtbl := by decide +kernel
theorem gX3 : ∀ w ∈ u_ws RX3 TX3 5, w ∈ gtbl := by decide +kernel
theorem gX4 : ∀ w ∈ u_ws RX4 TX4 11, w ∈ gtbl := by decide +kernel
theorem gJx4a65c : ∀ w ∈ u_ws RJx4a65c TJx4a65c 3, w ∈ gtbl := by decide +kernel
theorem upr_n {R : Nat → Nat → Option Nat} {f g a : Nat} {v : Option Nat} (h : g ≠ f) : upr R f a v g = R g := if_neg h
theorem fit01 {v : Int32} (h : v = 0 ∨ v = 1) : fits .boolean (.int v) = true := by
  rcases h with rfl | rfl <;> rfl
/-- a constructor's context -/
def CxI (own : String) (cc : ByteArray) (nL : Nat) (D : va_G) (ar : Nat → ClassId) (X : XT) (R : Room) (j : jT) : Prop :=
  ∃ (p : Program) (l : Launch) (e : Env) (s : State) (m : MethodId) (args : Array Value) (below : List Frame) (meth : Method) (c : Code) (A : Nat → Prop) (Q : State → Prop), Cz own cc nL D ar X p s m args meth c A ∧ meth.name = "<init>" ∧ j = JJ p l e R s m args below meth c A D nL Q
theorem Cn.ofI {own : String} {D : va_G} {ar : Nat → ClassId} {X : XT} {y : MethodName} {cc : ByteArray} {nL : Nat} {ret : Option FieldType} {fr lo mc ms : Nat} {av : List Value} {ws : va_W} {Ret : Option Value → va_W → Prop} (hX : Xok X) (hy : plainName y.cls = true) (ho : y.cls = own) (hn : y.name = "<init>") (hv : (lg_sl av).length ≤ nL)
    (body : ∀ j : jT, Cx own cc nL D ar X (rmOf fr lo mc ms) ret Ret j → CxI own cc nL D ar X (rmOf fr lo mc ms) j → j ws 0 0 0 (lv_args 0 av) []) : Cn D ar X y cc nL ret fr lo mc ms av ws Ret := by
  intro l sz
  refine Met.ofW (cc := cc) (maxL := nL) (ret := ret) hy rfl ?_
  intro p e s m args below meth c s₁ B hml hpc
  obtain ⟨rfl, rfl, hP, hK, hD0, hXs⟩ := hpc
  have hts := atoms_spec (ws := Cond.code y cc nL ret :: gtbl) B.pre
  have hown : s.vm.findClass own = some m.cls := by rw [← ho]; exact findClass_of_methodNamed B.named
  have hin : meth.name = "<init>" := by rw [← hn]; exact (name_of_methodNamed B.named B.method).1
  have hz : Cz own cc nL D ar X p s m av.toArray meth c (va_A ws s.heap.size) := ⟨B.exec, B.bytes, hml, hown, fun w hw => hts w (List.mem_cons_of_mem _ hw), hK, fun q h => Or.inr h, hX, hXs⟩
  rw [lg_entry_eq]
  exact body (JJ p l e (rmOf fr lo mc ms) s m av.toArray below meth c (va_A ws s.heap.size) D nL (MQ below (Qn D Ret (va_A ws s.heap.size)) av.toArray s mc ms (va_A ws s.heap.size))) ⟨p, l, e, s, m, av.toArray, below, meth, c, va_A ws s.heap.size, hz, B.returns, B.notSynchronized, rfl⟩ ⟨p, l, e, s, m, av.toArray, below, meth, c, va_A ws s.heap.size, _, hz, hin, rfl⟩ s.heap [] _ hP (hD0.self (sz := s.heap.size)) va_S.rf (lv_entry av hv)
section CR
variable {own : String} {cc : ByteArray} {nL : Nat} {D : va_G} {ar : Nat → ClassId} {X : XT} {R9 : Room} {j : jT}
variable {S : CS} {k n : Nat} {lv : List (Nat × Value)} {st : List Value}
theorem cgI_0 (C : Cx0 own cc nL D ar X R9 j) (pc : Nat) {ix a : Nat} (hw : Cond.fieldLink own ix "EggHouse$Egg" "number" "I" ∈ gtbl) (ha : Is S a 0) (hd : decode cc pc = .ok (.getfield ix, 3)) (kk : j (cW ar S) k n (pc + 3) lv (.int (S.2.2.2.1 0 a) :: st)) : j (cW ar S) k n pc lv (.ref a :: st) := by
  obtain ⟨p, l, e, s, m, args, below, meth, c, A, Q, ⟨hx, hb, hml, hown, hts, hK, hA, hX, hXs⟩, rfl⟩ := C
  intro H locs ls hP hD hS hl
  obtain ⟨q, hq⟩ := cW_get ha.1 (cE_0 (ar := ar) ha.2)
  exact va_get (D := D) (ci := 0) (C := RX0) (T := TX0) (N := 9) hx hb hts gX0 hown hK hP q hq rfl 0 (by decide) (hts _ hw) (fun _ h9 => h9) rfl hd (kk H locs ls hP hD hS hl)
theorem cpI_0 (C : CxI RX0 cc nL D ar X R9 j) (pc : Nat) {ix a : Nat} {v : Int32} (hw : Cond.fieldLink RX0 ix "EggHouse$Egg" "number" "I" ∈ gtbl) (ha : Is S a 0) (hd : decode cc pc = .ok (.putfield ix, 3)) (kk : j (cW ar (uI S 0 a v)) k n (pc + 3) lv st) : j (cW ar S) k n pc lv (.int v :: .ref a :: st) := by
  obtain ⟨p, l, e, s, m, args, below, meth, c, A, Q, ⟨hx, hb, hml, hown, hts, hK, hA, hX, hXs⟩, hin, rfl⟩ := C
  intro H locs ls hP hD hS hl
  have h0 := cE_0 (ar := ar) ha.2
  obtain ⟨q, hq⟩ := cW_get ha.1 h0
  refine va_putF (D := D) (ci := 0) (v := .int v) (ty := .int) (C := RX0) (T := TX0) (N := 9) hx hb hts gX0 tyX0 tyX0_ok nmX0 hown hK hP hD hS q hq rfl 0 (by decide) (hts _ hw) (fun _ h9 => h9) rfl hin rfl (by decide +kernel) rfl rfl (Nat.le_of_ble_eq_true rfl) hd (fun H locs hP hD1 hS => ?_)
  rw [cW_set (S' := uI S 0 a v) hD ha.1 hq h0 rfl ((cE_0 (S := uI S 0 a v) ha.2).trans (by simp (decide := true) [up2_e, up2_n, va_rf])) (fun b hb => cE_oI hb)] at hP hD1
  exact kk H locs ls hP hD1 hS hl
theorem cgI_1 (C : Cx0 own cc nL D ar X R9 j) (pc : Nat) {ix a : Nat} (hw : Cond.fieldLink own ix "EggHouse$Egg" "barn" "I" ∈ gtbl) (ha : Is S a 0) (hd : decode cc pc = .ok (.getfield ix, 3)) (kk : j (cW ar S) k n (pc + 3) lv (.int (S.2.2.2.1 1 a) :: st)) : j (cW ar S) k n pc lv (.ref a :: st) := by
  obtain ⟨p, l, e, s, m, args, below, meth, c, A, Q, ⟨hx, hb, hml, hown, hts, hK, hA, hX, hXs⟩, rfl⟩ := C
  intro H locs ls hP hD hS hl
  obtain ⟨q, hq⟩ := cW_get ha.1 (cE_0 (ar := ar) ha.2)
  exact va_get (D := D) (ci := 0) (C := RX0) (T := TX0) (N := 9) hx hb hts gX0 hown hK hP q hq rfl 1 (by decide) (hts _ hw) (fun _ h9 => h9) rfl hd (kk H locs ls hP hD hS hl)
theorem cpI_1 (C : CxI RX0 cc nL D ar X R9 j) (pc : Nat) {ix a : Nat} {v : Int32} (hw : Cond.fieldLink RX0 ix "EggHouse$Egg" "barn" "I" ∈ gtbl) (ha : Is S a 0) (hd : decode cc pc = .ok (.putfield ix, 3)) (kk : j (cW ar (uI S 1 a v)) k n (pc + 3) lv st) : j (cW ar S) k n pc lv (.int v :: .ref a :: st) := by
  obtain ⟨p, l, e, s, m, args, below, meth, c, A, Q, ⟨hx, hb, hml, hown, hts, hK, hA, hX, hXs⟩, hin, rfl⟩ := C
  intro H locs ls hP hD hS hl
  have h0 := cE_0 (ar := ar) ha.2
  obtain ⟨q, hq⟩ := cW_get ha.1 h0
  refine va_putF (D := D) (ci := 0) (v := .int v) (ty := .int) (C := RX0) (T := TX0) (N := 9) hx hb hts gX0 tyX0 tyX0_ok nmX0 hown hK hP hD hS q hq rfl 1 (by decide) (hts _ hw) (fun _ h9 => h9) rfl hin rfl (by decide +kernel) rfl rfl (Nat.le_of_ble_eq_true rfl) hd (fun H locs hP hD1 hS => ?_)
  rw [cW_set (S' := uI S 1 a v) hD ha.1 hq h0 rfl ((cE_0 (S := uI S 1 a v) ha.2).trans (by simp (decide := true) [up2_e, up2_n, va_rf])) (fun b hb => cE_oI hb)] at hP hD1
  exact kk H locs ls hP hD1 hS hl
theorem cgI_2 (C : Cx0 own cc nL D ar X R9 j) (pc : Nat) {ix a : Nat} (hw : Cond.fieldLink own ix "EggHouse$Egg" "weight" "I" ∈ gtbl) (ha : Is S a 0) (hd : decode cc pc = .ok (.getfield ix, 3)) (kk : j (cW ar S) k n (pc + 3) lv (.int (S.2.2.2.1 2 a) :: st)) : j (cW ar S) k n pc lv (.ref a :: st) := by
  obtain ⟨p, l, e, s, m, args, below, meth, c, A, Q, ⟨hx, hb, hml, hown, hts, hK, hA, hX, hXs⟩, rfl⟩ := C
  intro H locs ls hP hD hS hl
  obtain ⟨q, hq⟩ := cW_get ha.1 (cE_0 (ar := ar) ha.2)
  exact va_get (D := D) (ci := 0) (C := RX0) (T := TX0) (N := 9) hx hb hts gX0 hown hK hP q hq rfl 2 (by decide) (hts _ hw) (fun _ h9 => h9) rfl hd (kk H locs ls hP hD hS hl)
theorem cpI_2 (C : CxI RX0 cc nL D ar X R9 j) (pc : Nat) {ix a : Nat} {v : Int32} (hw : Cond.fieldLink RX0 ix "EggHouse$Egg" "weight" "I" ∈ gtbl) (ha : Is S a 0) (hd : decode cc pc = .ok (.putfield ix, 3)) (kk : j (cW ar (uI S 2 a v)) k n (pc + 3) lv st) : j (cW ar S) k n pc lv (.int v :: .ref a :: st) := by
  obtain ⟨p, l, e, s, m, args, below, meth, c, A, Q, ⟨hx, hb, hml, hown, hts, hK, hA, hX, hXs⟩, hin, rfl⟩ := C
  intro H locs ls hP hD hS hl
  have h0 := cE_0 (ar := ar) ha.2
  obtain ⟨q, hq⟩ := cW_get ha.1 h0
  refine va_putF (D := D) (ci := 0) (v := .int v) (ty := .int) (C := RX0) (T := TX0) (N := 9) hx hb hts gX0 tyX0 tyX0_ok nmX0 hown hK hP hD hS q hq rfl 2 (by decide) (hts _ hw) (fun _ h9 => h9) rfl hin rfl (by decide +kernel) rfl rfl (Nat.le_of_ble_eq_true rfl) hd (fun H locs hP hD1 hS => ?_)
  rw [cW_set (S' := uI S 2 a v) hD ha.1 hq h0 rfl ((cE_0 (S := uI S 2 a v) ha.2).trans (by simp (decide := true) [up2_e, up2_n, va_rf])) (fun b hb => cE_oI hb)] at hP hD1
  exact kk H locs ls hP hD1 hS hl
theorem cgI_3 (C : Cx0 own cc nL D ar X R9 j) (pc : Nat) {ix a : Nat} (hw : Cond.fieldLink own ix "EggHouse$Egg" "taps" "I" ∈ gtbl) (ha : Is S a 0) (hd : decode cc pc = .ok (.getfield ix, 3)) (kk : j (cW ar S) k n (pc + 3) lv (.int (S.2.2.2.1 3 a) :: st)) : j (cW ar S) k n pc lv (.ref a :: st) := by
  obtain ⟨p, l, e, s, m, args, below, meth, c, A, Q, ⟨hx, hb, hml, hown, hts, hK, hA, hX, hXs⟩, rfl⟩ := C
  intro H locs ls hP hD hS hl
  obtain ⟨q, hq⟩ := cW_get ha.1 (cE_0 (ar := ar) ha.2)
  exact va_get (D := D) (ci := 0) (C := RX0) (T := TX0) (N := 9) hx hb hts gX0 hown hK hP q hq rfl 3 (by decide) (hts _ hw) (fun _ h9 => h9) rfl hd (kk H locs ls hP hD hS hl)
theorem cpI_3 (C : CxI RX0 cc nL D ar X R9 j) (pc : Nat) {ix a : Nat} {v : Int32} (hw : Cond.fieldLink RX0 ix "EggHouse$Egg" "taps" "I" ∈ gtbl) (ha : Is S a 0) (hd : decode cc pc = .ok (.putfield ix, 3)) (kk : j (cW ar (uI S 3 a v)) k n (pc + 3) lv st) : j (cW ar S) k n pc lv (.int v :: .ref a :: st) := by
  obtain ⟨p, l, e, s, m, args, below, meth, c, A, Q, ⟨hx, hb, hml, hown, hts, hK, hA, hX, hXs⟩, hin, rfl⟩ := C
  intro H locs ls hP hD hS hl
  have h0 := cE_0 (ar := ar) ha.2
  obtain ⟨q, hq⟩ := cW_get ha.1 h0
  refine va_putF (D := D) (ci := 0) (v := .int v) (ty := .int) (C := RX0) (T := TX0) (N := 9) hx hb hts gX0 tyX0 tyX0_ok nmX0 hown hK hP hD hS q hq rfl 3 (by decide) (hts _ hw) (fun _ h9 => h9) rfl hin rfl (by decide +kernel) rfl rfl (Nat.le_of_ble_eq_true rfl) hd (fun H locs hP hD1 hS => ?_)
  rw [cW_set (S' := uI S 3 a v) hD ha.1 hq h0 rfl ((cE_0 (S := uI S 3 a v) ha.2).trans (by simp (decide := true) [up2_e, up2_n, va_rf])) (fun b hb => cE_oI hb)] at hP hD1
  exact kk H locs ls hP hD1 hS hl
theorem cgI_4 (C : Cx0 own cc nL D ar X R9 j) (pc : Nat) {ix a : Nat} (hw : Cond.fieldLink own ix "EggHouse$Egg" "blood" "I" ∈ gtbl) (ha : Is S a 0) (hd : decode cc pc = .ok (.getfield ix, 3)) (kk : j (cW ar S) k n (pc + 3) lv (.int (S.2.2.2.1 4 a) :: st)) : j (cW ar S) k n pc lv (.ref a :: st) := by
  obtain ⟨p, l, e, s, m, args, below, meth, c, A, Q, ⟨hx, hb, hml, hown, hts, hK, hA, hX, hXs⟩, rfl⟩ := C
  intro H locs ls hP hD hS hl
  obtain ⟨q, hq⟩ := cW_get ha.1 (cE_0 (ar := ar) ha.2)
  exact va_get (D := D) (ci := 0) (C := RX0) (T := TX0) (N := 9) hx hb hts gX0 hown hK hP q hq rfl 4 (by decide) (hts _ hw) (fun _ h9 => h9) rfl hd (kk H locs ls hP hD hS hl)
theorem cpI_4 (C : CxI RX0 cc nL D ar X R9 j) (pc : Nat) {ix a : Nat} {v : Int32} (hw : Cond.fieldLink RX0 ix "EggHouse$Egg" "blood" "I" ∈ gtbl) (ha : Is S a 0) (hd : decode cc pc = .ok (.putfield ix, 3)) (kk : j (cW ar (uI S 4 a v)) k n (pc + 3) lv st) : j (cW ar S) k n pc lv (.int v :: .ref a :: st) := by
  obtain ⟨p, l, e, s, m, args, below, meth, c, A, Q, ⟨hx, hb, hml, hown, hts, hK, hA, hX, hXs⟩, hin, rfl⟩ := C
  intro H locs ls hP hD hS hl
  have h0 := cE_0 (ar := ar) ha.2
  obtain ⟨q, hq⟩ := cW_get ha.1 h0
  refine va_putF (D := D) (ci := 0) (v := .int v) (ty := .int) (C := RX0) (T := TX0) (N := 9) hx hb hts gX0 tyX0 tyX0_ok nmX0 hown hK hP hD hS q hq rfl 4 (by decide) (hts _ hw) (fun _ h9 => h9) rfl hin rfl (by decide +kernel) rfl rfl (Nat.le_of_ble_eq_true rfl) hd (fun H locs hP hD1 hS => ?_)
  rw [cW_set (S' := uI S 4 a v) hD ha.1 hq h0 rfl ((cE_0 (S := uI S 4 a v) ha.2).trans (by simp (decide := true) [up2_e, up2_n, va_rf])) (fun b hb => cE_oI hb)] at hP hD1
  exact kk H locs ls hP hD1 hS hl
theorem cgI_5 (C : Cx0 own cc nL D ar X R9 j) (pc : Nat) {ix a : Nat} (hw : Cond.fieldLink own ix "EggHouse$Egg" "dirt" "I" ∈ gtbl) (ha : Is S a 0) (hd : decode cc pc = .ok (.getfield ix, 3)) (kk : j (cW ar S) k n (pc + 3) lv (.int (S.2.2.2.1 5 a) :: st)) : j (cW ar S) k n pc lv (.ref a :: st) := by
  obtain ⟨p, l, e, s, m, args, below, meth, c, A, Q, ⟨hx, hb, hml, hown, hts, hK, hA, hX, hXs⟩, rfl⟩ := C
  intro H locs ls hP hD hS hl
  obtain ⟨q, hq⟩ := cW_get ha.1 (cE_0 (ar := ar) ha.2)
  exact va_get (D := D) (ci := 0) (C := RX0) (T := TX0) (N := 9) hx hb hts gX0 hown hK hP q hq rfl 5 (by decide) (hts _ hw) (fun _ h9 => h9) rfl hd (kk H locs ls hP hD hS hl)
theorem cpI_5 (C : Cx0 own cc nL D ar X R9 j) (pc : Nat) {ix a : Nat} {v : Int32} (hw : Cond.fieldLink own ix "EggHouse$Egg" "dirt" "I" ∈ gtbl) (ha : Is S a 0) (hd : decode cc pc = .ok (.putfield ix, 3)) (kk : j (cW ar (uI S 5 a v)) k n (pc + 3) lv st) : j (cW ar S) k n pc lv (.int v :: .ref a :: st) := by
  obtain ⟨p, l, e, s, m, args, below, meth, c, A, Q, ⟨hx, hb, hml, hown, hts, hK, hA, hX, hXs⟩, rfl⟩ := C
  intro H locs ls hP hD hS hl
  have h0 := cE_0 (ar := ar) ha.2
  obtain ⟨q, hq⟩ := cW_get ha.1 h0
  refine va_put (D := D) (ci := 0) (v := .int v) (ty := .int) (C := RX0) (T := TX0) (N := 9) hx hb hts gX0 tyX0 tyX0_ok nmX0 hown hK hP hD hS q hq rfl 5 (by decide) (hts _ hw) (fun _ h9 => h9) rfl (by decide +kernel) rfl rfl (Nat.le_of_ble_eq_true rfl) hd (fun H locs hP hD1 hS => ?_)
  rw [cW_set (S' := uI S 5 a v) hD ha.1 hq h0 rfl ((cE_0 (S := uI S 5 a v) ha.2).trans (by simp (decide := true) [up2_e, up2_n, va_rf])) (fun b hb => cE_oI hb)] at hP hD1
  exact kk H locs ls hP hD1 hS hl
theorem cgI_6 (C : Cx0 own cc nL D ar X R9 j) (pc : Nat) {ix a : Nat} (hw : Cond.fieldLink own ix "EggHouse$Egg" "scaleTold" "I" ∈ gtbl) (ha : Is S a 0) (hd : decode cc pc = .ok (.getfield ix, 3)) (kk : j (cW ar S) k n (pc + 3) lv (.int (S.2.2.2.1 6 a) :: st)) : j (cW ar S) k n pc lv (.ref a :: st) := by
  obtain ⟨p, l, e, s, m, args, below, meth, c, A, Q, ⟨hx, hb, hml, hown, hts, hK, hA, hX, hXs⟩, rfl⟩ := C
  intro H locs ls hP hD hS hl
  obtain ⟨q, hq⟩ := cW_get ha.1 (cE_0 (ar := ar) ha.2)
  exact va_get (D := D) (ci := 0) (C := RX0) (T := TX0) (N := 9) hx hb hts gX0 hown hK hP q hq rfl 6 (by decide) (hts _ hw) (fun _ h9 => h9) rfl hd (kk H locs ls hP hD hS hl)
theorem cpI_6 (C : Cx0 own cc nL D ar X R9 j) (pc : Nat) {ix a : Nat} {v : Int32} (hw : Cond.fieldLink own ix "EggHouse$Egg" "scaleTold" "I" ∈ gtbl) (ha : Is S a 0) (hd : decode cc pc = .ok (.putfield ix, 3)) (kk : j (cW ar (uI S 6 a v)) k n (pc + 3) lv st) : j (cW ar S) k n pc lv (.int v :: .ref a :: st) := by
  obtain ⟨p, l, e, s, m, args, below, meth, c, A, Q, ⟨hx, hb, hml, hown, hts, hK, hA, hX, hXs⟩, rfl⟩ := C
  intro H locs ls hP hD hS hl
  have h0 := cE_0 (ar := ar) ha.2
  obtain ⟨q, hq⟩ := cW_get ha.1 h0
  refine va_put (D := D) (ci := 0) (v := .int v) (ty := .int) (C := RX0) (T := TX0) (N := 9) hx hb hts gX0 tyX0 tyX0_ok nmX0 hown hK hP hD hS q hq rfl 6 (by decide) (hts _ hw) (fun _ h9 => h9) rfl (by decide +kernel) rfl rfl (Nat.le_of_ble_eq_true rfl) hd (fun H locs hP hD1 hS => ?_)
  rw [cW_set (S' := uI S 6 a v) hD ha.1 hq h0 rfl ((cE_0 (S := uI S 6 a v) ha.2).trans (by simp (decide := true) [up2_e, up2_n, va_rf])) (fun b hb => cE_oI hb)] at hP hD1
  exact kk H locs ls hP hD1 hS hl
theorem cgI_7 (C : Cx0 own cc nL D ar X R9 j) (pc : Nat) {ix a : Nat} (hw : Cond.fieldLink own ix "EggHouse$Egg" "weighedAt" "I" ∈ gtbl) (ha : Is S a 0) (hd : decode cc pc = .ok (.getfield ix, 3)) (kk : j (cW ar S) k n (pc + 3) lv (.int (S.2.2.2.1 7 a) :: st)) : j (cW ar S) k n pc lv (.ref a :: st) := by
  obtain ⟨p, l, e, s, m, args, below, meth, c, A, Q, ⟨hx, hb, hml, hown, hts, hK, hA, hX, hXs⟩, rfl⟩ := C
  intro H locs ls hP hD hS hl
  obtain ⟨q, hq⟩ := cW_get ha.1 (cE_0 (ar := ar) ha.2)
  exact va_get (D := D) (ci := 0) (C := RX0) (T := TX0) (N := 9) hx hb hts gX0 hown hK hP q hq rfl 7 (by decide) (hts _ hw) (fun _ h9 => h9) rfl hd (kk H locs ls hP hD hS hl)
theorem cpI_7 (C : Cx0 own cc nL D ar X R9 j) (pc : Nat) {ix a : Nat} {v : Int32} (hw : Cond.fieldLink own ix "EggHouse$Egg" "weighedAt" "I" ∈ gtbl) (ha : Is S a 0) (hd : decode cc pc = .ok (.putfield ix, 3)) (kk : j (cW ar (uI S 7 a v)) k n (pc + 3) lv st) : j (cW ar S) k n pc lv (.int v :: .ref a :: st) := by
  obtain ⟨p, l, e, s, m, args, below, meth, c, A, Q, ⟨hx, hb, hml, hown, hts, hK, hA, hX, hXs⟩, rfl⟩ := C
  intro H locs ls hP hD hS hl
  have h0 := cE_0 (ar := ar) ha.2
  obtain ⟨q, hq⟩ := cW_get ha.1 h0
  refine va_put (D := D) (ci := 0) (v := .int v) (ty := .int) (C := RX0) (T := TX0) (N := 9) hx hb hts gX0 tyX0 tyX0_ok nmX0 hown hK hP hD hS q hq rfl 7 (by decide) (hts _ hw) (fun _ h9 => h9) rfl (by decide +kernel) rfl rfl (Nat.le_of_ble_eq_true rfl) hd (fun H locs hP hD1 hS => ?_)
  rw [cW_set (S' := uI S 7 a v) hD ha.1 hq h0 rfl ((cE_0 (S := uI S 7 a v) ha.2).trans (by simp (decide := true) [up2_e, up2_n, va_rf])) (fun b hb => cE_oI hb)] at hP hD1
  exact kk H locs ls hP hD1 hS hl
theorem cgI_8 (C : Cx0 own cc nL D ar X R9 j) (pc : Nat) {ix a : Nat} (hw : Cond.fieldLink own ix "EggHouse$Egg" "washedAt" "I" ∈ gtbl) (ha : Is S a 0) (hd : decode cc pc = .ok (.getfield ix, 3)) (kk : j (cW ar S) k n (pc + 3) lv (.int (S.2.2.2.1 8 a) :: st)) : j (cW ar S) k n pc lv (.ref a :: st) := by
  obtain ⟨p, l, e, s, m, args, below, meth, c, A, Q, ⟨hx, hb, hml, hown, hts, hK, hA, hX, hXs⟩, rfl⟩ := C
  intro H locs ls hP hD hS hl
  obtain ⟨q, hq⟩ := cW_get ha.1 (cE_0 (ar := ar) ha.2)
  exact va_get (D := D) (ci := 0) (C := RX0) (T := TX0) (N := 9) hx hb hts gX0 hown hK hP q hq rfl 8 (by decide) (hts _ hw) (fun _ h9 => h9) rfl hd (kk H locs ls hP hD hS hl)
theorem cpI_8 (C : Cx0 own cc nL D ar X R9 j) (pc : Nat) {ix a : Nat} {v : Int32} (hw : Cond.fieldLink own ix "EggHouse$Egg" "washedAt" "I" ∈ gtbl) (ha : Is S a 0) (hd : decode cc pc = .ok (.putfield ix, 3)) (kk : j (cW ar (uI S 8 a v)) k n (pc + 3) lv st) : j (cW ar S) k n pc lv (.int v :: .ref a :: st) := by
  obtain ⟨p, l, e, s, m, args, below, meth, c, A, Q, ⟨hx, hb, hml, hown, hts, hK, hA, hX, hXs⟩, rfl⟩ := C
  intro H locs ls hP hD hS hl
  have h0 := cE_0 (ar := ar) ha.2
  obtain ⟨q, hq⟩ := cW_get ha.1 h0
  refine va_put (D := D) (ci := 0) (v := .int v) (ty := .int) (C := RX0) (T := TX0) (N := 9) hx hb hts gX0 tyX0 tyX0_ok nmX0 hown hK hP hD hS q hq rfl 8 (by decide) (hts _ hw) (fun _ h9 => h9) rfl (by decide +kernel) rfl rfl (Nat.le_of_ble_eq_true rfl) hd (fun H locs hP hD1 hS => ?_)
  rw [cW_set (S' := uI S 8 a v) hD ha.1 hq h0 rfl ((cE_0 (S := uI S 8 a v) ha.2).trans (by simp (decide := true) [up2_e, up2_n, va_rf])) (fun b hb => cE_oI hb)] at hP hD1
  exact kk H locs ls hP hD1 hS hl
theorem cgI_10 (C : Cx0 own cc nL D ar X R9 j) (pc : Nat) {ix a : Nat} (hw : Cond.fieldLink own ix "EggHouse$Order" "grade" "I" ∈ gtbl) (ha : Is S a 1) (hd : decode cc pc = .ok (.getfield ix, 3)) (kk : j (cW ar S) k n (pc + 3) lv (.int (S.2.2.2.1 10 a) :: st)) : j (cW ar S) k n pc lv (.ref a :: st) := by
  obtain ⟨p, l, e, s, m, args, below, meth, c, A, Q, ⟨hx, hb, hml, hown, hts, hK, hA, hX, hXs⟩, rfl⟩ := C
  intro H locs ls hP hD hS hl
  obtain ⟨q, hq⟩ := cW_get ha.1 (cE_1 (ar := ar) ha.2)
  exact va_get (D := D) (ci := 1) (C := RX1) (T := TX1) (N := 4) hx hb hts gX1 hown hK hP q hq rfl 0 (by decide) (hts _ hw) (fun _ h9 => h9) rfl hd (kk H locs ls hP hD hS hl)
theorem cpI_10 (C : CxI RX1 cc nL D ar X R9 j) (pc : Nat) {ix a : Nat} {v : Int32} (hw : Cond.fieldLink RX1 ix "EggHouse$Order" "grade" "I" ∈ gtbl) (ha : Is S a 1) (hd : decode cc pc = .ok (.putfield ix, 3)) (kk : j (cW ar (uI S 10 a v)) k n (pc + 3) lv st) : j (cW ar S) k n pc lv (.int v :: .ref a :: st) := by
  obtain ⟨p, l, e, s, m, args, below, meth, c, A, Q, ⟨hx, hb, hml, hown, hts, hK, hA, hX, hXs⟩, hin, rfl⟩ := C
  intro H locs ls hP hD hS hl
  have h0 := cE_1 (ar := ar) ha.2
  obtain ⟨q, hq⟩ := cW_get ha.1 h0
  refine va_putF (D := D) (ci := 1) (v := .int v) (ty := .int) (C := RX1) (T := TX1) (N := 4) hx hb hts gX1 tyX1 tyX1_ok nmX1 hown hK hP hD hS q hq rfl 0 (by decide) (hts _ hw) (fun _ h9 => h9) rfl hin rfl (by decide +kernel) rfl rfl (Nat.le_of_ble_eq_true rfl) hd (fun H locs hP hD1 hS => ?_)
  rw [cW_set (S' := uI S 10 a v) hD ha.1 hq h0 rfl ((cE_1 (S := uI S 10 a v) ha.2).trans (by simp (decide := true) [up2_e, up2_n, va_rf])) (fun b hb => cE_oI hb)] at hP hD1
  exact kk H locs ls hP hD1 hS hl
theorem cgI_11 (C : Cx0 own cc nL D ar X R9 j) (pc : Nat) {ix a : Nat} (hw : Cond.fieldLink own ix "EggHouse$Order" "wanted" "I" ∈ gtbl) (ha : Is S a 1) (hd : decode cc pc = .ok (.getfield ix, 3)) (kk : j (cW ar S) k n (pc + 3) lv (.int (S.2.2.2.1 11 a) :: st)) : j (cW ar S) k n pc lv (.ref a :: st) := by
  obtain ⟨p, l, e, s, m, args, below, meth, c, A, Q, ⟨hx, hb, hml, hown, hts, hK, hA, hX, hXs⟩, rfl⟩ := C
  intro H locs ls hP hD hS hl
  obtain ⟨q, hq⟩ := cW_get ha.1 (cE_1 (ar := ar) ha.2)
  exact va_get (D := D) (ci := 1) (C := RX1) (T := TX1) (N := 4) hx hb hts gX1 hown hK hP q hq rfl 1 (by decide) (hts _ hw) (fun _ h9 => h9) rfl hd (kk H locs ls hP hD hS hl)
theorem cpI_11 (C : CxI RX1 cc nL D ar X R9 j) (pc : Nat) {ix a : Nat} {v : Int32} (hw : Cond.fieldLink RX1 ix "EggHouse$Order" "wanted" "I" ∈ gtbl) (ha : Is S a 1) (hd : decode cc pc = .ok (.putfield ix, 3)) (kk : j (cW ar (uI S 11 a v)) k n (pc + 3) lv st) : j (cW ar S) k n pc lv (.int v :: .ref a :: st) := by
  obtain ⟨p, l, e, s, m, args, below, meth, c, A, Q, ⟨hx, hb, hml, hown, hts, hK, hA, hX, hXs⟩, hin, rfl⟩ := C
  intro H locs ls hP hD hS hl
  have h0 := cE_1 (ar := ar) ha.2
  obtain ⟨q, hq⟩ := cW_get ha.1 h0
  refine va_putF (D := D) (ci := 1) (v := .int v) (ty := .int) (C := RX1) (T := TX1) (N := 4) hx hb hts gX1 tyX1 tyX1_ok nmX1 hown hK hP hD hS q hq rfl 1 (by decide) (hts _ hw) (fun _ h9 => h9) rfl hin rfl (by decide +kernel) rfl rfl (Nat.le_of_ble_eq_true rfl) hd (fun H locs hP hD1 hS => ?_)
  rw [cW_set (S' := uI S 11 a v) hD ha.1 hq h0 rfl ((cE_1 (S := uI S 11 a v) ha.2).trans (by simp (decide := true) [up2_e, up2_n, va_rf])) (fun b hb => cE_oI hb)] at hP hD1
  exact kk H locs ls hP hD1 hS hl
theorem cgI_12 (C : Cx0 own cc nL D ar X R9 j) (pc : Nat) {ix a : Nat} (hw : Cond.fieldLink own ix "EggHouse$Order" "worth" "I" ∈ gtbl) (ha : Is S a 1) (hd : decode cc pc = .ok (.getfield ix, 3)) (kk : j (cW ar S) k n (pc + 3) lv (.int (S.2.2.2.1 12 a) :: st)) : j (cW ar S) k n pc lv (.ref a :: st) := by
  obtain ⟨p, l, e, s, m, args, below, meth, c, A, Q, ⟨hx, hb, hml, hown, hts, hK, hA, hX, hXs⟩, rfl⟩ := C
  intro H locs ls hP hD hS hl
  obtain ⟨q, hq⟩ := cW_get ha.1 (cE_1 (ar := ar) ha.2)
  exact va_get (D := D) (ci := 1) (C := RX1) (T := TX1) (N := 4) hx hb hts gX1 hown hK hP q hq rfl 2 (by decide) (hts _ hw) (fun _ h9 => h9) rfl hd (kk H locs ls hP hD hS hl)
theorem cpI_12 (C : CxI RX1 cc nL D ar X R9 j) (pc : Nat) {ix a : Nat} {v : Int32} (hw : Cond.fieldLink RX1 ix "EggHouse$Order" "worth" "I" ∈ gtbl) (ha : Is S a 1) (hd : decode cc pc = .ok (.putfield ix, 3)) (kk : j (cW ar (uI S 12 a v)) k n (pc + 3) lv st) : j (cW ar S) k n pc lv (.int v :: .ref a :: st) := by
  obtain ⟨p, l, e, s, m, args, below, meth, c, A, Q, ⟨hx, hb, hml, hown, hts, hK, hA, hX, hXs⟩, hin, rfl⟩ := C
  intro H locs ls hP hD hS hl
  have h0 := cE_1 (ar := ar) ha.2
  obtain ⟨q, hq⟩ := cW_get ha.1 h0
  refine va_putF (D := D) (ci := 1) (v := .int v) (ty := .int) (C := RX1) (T := TX1) (N := 4) hx hb hts gX1 tyX1 tyX1_ok nmX1 hown hK hP hD hS q hq rfl 2 (by decide) (hts _ hw) (fun _ h9 => h9) rfl hin rfl (by decide +kernel) rfl rfl (Nat.le_of_ble_eq_true rfl) hd (fun H locs hP hD1 hS => ?_)
  rw [cW_set (S' := uI S 12 a v) hD ha.1 hq h0 rfl ((cE_1 (S := uI S 12 a v) ha.2).trans (by simp (decide := true) [up2_e, up2_n, va_rf])) (fun b hb => cE_oI hb)] at hP hD1
  exact kk H locs ls hP hD1 hS hl
theorem cgI_13 (C : Cx0 own cc nL D ar X R9 j) (pc : Nat) {ix a : Nat} (hw : Cond.fieldLink own ix "EggHouse$Order" "served" "Z" ∈ gtbl) (ha : Is S a 1) (hd : decode cc pc = .ok (.getfield ix, 3)) (kk : j (cW ar S) k n (pc + 3) lv (.int (S.2.2.2.1 13 a) :: st)) : j (cW ar S) k n pc lv (.ref a :: st) := by
  obtain ⟨p, l, e, s, m, args, below, meth, c, A, Q, ⟨hx, hb, hml, hown, hts, hK, hA, hX, hXs⟩, rfl⟩ := C
  intro H locs ls hP hD hS hl
  obtain ⟨q, hq⟩ := cW_get ha.1 (cE_1 (ar := ar) ha.2)
  exact va_get (D := D) (ci := 1) (C := RX1) (T := TX1) (N := 4) hx hb hts gX1 hown hK hP q hq rfl 3 (by decide) (hts _ hw) (fun _ h9 => h9) rfl hd (kk H locs ls hP hD hS hl)
theorem cpI_13 (C : Cx0 own cc nL D ar X R9 j) (pc : Nat) {ix a : Nat} {v : Int32} (hz : v = 0 ∨ v = 1) (hw : Cond.fieldLink own ix "EggHouse$Order" "served" "Z" ∈ gtbl) (ha : Is S a 1) (hd : decode cc pc = .ok (.putfield ix, 3)) (kk : j (cW ar (uI S 13 a v)) k n (pc + 3) lv st) : j (cW ar S) k n pc lv (.int v :: .ref a :: st) := by
  obtain ⟨p, l, e, s, m, args, below, meth, c, A, Q, ⟨hx, hb, hml, hown, hts, hK, hA, hX, hXs⟩, rfl⟩ := C
  intro H locs ls hP hD hS hl
  have h0 := cE_1 (ar := ar) ha.2
  obtain ⟨q, hq⟩ := cW_get ha.1 h0
  refine va_put (D := D) (ci := 1) (v := .int v) (ty := .boolean) (C := RX1) (T := TX1) (N := 4) hx hb hts gX1 tyX1 tyX1_ok nmX1 hown hK hP hD hS q hq rfl 3 (by decide) (hts _ hw) (fun _ h9 => h9) rfl (by decide +kernel) (nar01 hz) (fit01 hz) (Nat.le_of_ble_eq_true rfl) hd (fun H locs hP hD1 hS => ?_)
  rw [cW_set (S' := uI S 13 a v) hD ha.1 hq h0 rfl ((cE_1 (S := uI S 13 a v) ha.2).trans (by simp (decide := true) [up2_e, up2_n, va_rf])) (fun b hb => cE_oI hb)] at hP hD1
  exact kk H locs ls hP hD1 hS hl
theorem cgI_20 (C : Cx0 own cc nL D ar X R9 j) (pc : Nat) {ix a : Nat} (hw : Cond.fieldLink own ix "EggHouse$Pack" "grade" "I" ∈ gtbl) (ha : Is S a 2) (hd : decode cc pc = .ok (.getfield ix, 3)) (kk : j (cW ar S) k n (pc + 3) lv (.int (S.2.2.2.1 20 a) :: st)) : j (cW ar S) k n pc lv (.ref a :: st) := by
  obtain ⟨p, l, e, s, m, args, below, meth, c, A, Q, ⟨hx, hb, hml, hown, hts, hK, hA, hX, hXs⟩, rfl⟩ := C
  intro H locs ls hP hD hS hl
  obtain ⟨q, hq⟩ := cW_get ha.1 (cE_2 (ar := ar) ha.2)
  exact va_get (D := D) (ci := 2) (C := RX2) (T := TX2) (N := 9) hx hb hts gX2 hown hK hP q hq rfl 0 (by decide) (hts _ hw) (fun _ h9 => h9) rfl hd (kk H locs ls hP hD hS hl)
theorem cpI_20 (C : Cx0 own cc nL D ar X R9 j) (pc : Nat) {ix a : Nat} {v : Int32} (hw : Cond.fieldLink own ix "EggHouse$Pack" "grade" "I" ∈ gtbl) (ha : Is S a 2) (hd : decode cc pc = .ok (.putfield ix, 3)) (kk : j (cW ar (uI S 20 a v)) k n (pc + 3) lv st) : j (cW ar S) k n pc lv (.int v :: .ref a :: st) := by
  obtain ⟨p, l, e, s, m, args, below, meth, c, A, Q, ⟨hx, hb, hml, hown, hts, hK, hA, hX, hXs⟩, rfl⟩ := C
  intro H locs ls hP hD hS hl
  have h0 := cE_2 (ar := ar) ha.2
  obtain ⟨q, hq⟩ := cW_get ha.1 h0
  refine va_put (D := D) (ci := 2) (v := .int v) (ty := .int) (C := RX2) (T := TX2) (N := 9) hx hb hts gX2 tyX2 tyX2_ok nmX2 hown hK hP hD hS q hq rfl 0 (by decide) (hts _ hw) (fun _ h9 => h9) rfl (by decide +kernel) rfl rfl (Nat.le_of_ble_eq_true rfl) hd (fun H locs hP hD1 hS => ?_)
  rw [cW_set (S' := uI S 20 a v) hD ha.1 hq h0 rfl ((cE_2 (S := uI S 20 a v) ha.2).trans (by simp (decide := true) [up2_e, up2_n, va_rf])) (fun b hb => cE_oI hb)] at hP hD1
  exact kk H locs ls hP hD1 hS hl
theorem cgI_21 (C : Cx0 own cc nL D ar X R9 j) (pc : Nat) {ix a : Nat} (hw : Cond.fieldLink own ix "EggHouse$Pack" "eggs" "I" ∈ gtbl) (ha : Is S a 2) (hd : decode cc pc = .ok (.getfield ix, 3)) (kk : j (cW ar S) k n (pc + 3) lv (.int (S.2.2.2.1 21 a) :: st)) : j (cW ar S) k n pc lv (.ref a :: st) := by
  obtain ⟨p, l, e, s, m, args, below, meth, c, A, Q, ⟨hx, hb, hml, hown, hts, hK, hA, hX, hXs⟩, rfl⟩ := C
  intro H locs ls hP hD hS hl
  obtain ⟨q, hq⟩ := cW_get ha.1 (cE_2 (ar := ar) ha.2)
  exact va_get (D := D) (ci := 2) (C := RX2) (T := TX2) (N := 9) hx hb hts gX2 hown hK hP q hq rfl 1 (by decide) (hts _ hw) (fun _ h9 => h9) rfl hd (kk H locs ls hP hD hS hl)
theorem cpI_21 (C : Cx0 own cc nL D ar X R9 j) (pc : Nat) {ix a : Nat} {v : Int32} (hw : Cond.fieldLink own ix "EggHouse$Pack" "eggs" "I" ∈ gtbl) (ha : Is S a 2) (hd : decode cc pc = .ok (.putfield ix, 3)) (kk : j (cW ar (uI S 21 a v)) k n (pc + 3) lv st) : j (cW ar S) k n pc lv (.int v :: .ref a :: st) := by
  obtain ⟨p, l, e, s, m, args, below, meth, c, A, Q, ⟨hx, hb, hml, hown, hts, hK, hA, hX, hXs⟩, rfl⟩ := C
  intro H locs ls hP hD hS hl
  have h0 := cE_2 (ar := ar) ha.2
  obtain ⟨q, hq⟩ := cW_get ha.1 h0
  refine va_put (D := D) (ci := 2) (v := .int v) (ty := .int) (C := RX2) (T := TX2) (N := 9) hx hb hts gX2 tyX2 tyX2_ok nmX2 hown hK hP hD hS q hq rfl 1 (by decide) (hts _ hw) (fun _ h9 => h9) rfl (by decide +kernel) rfl rfl (Nat.le_of_ble_eq_true rfl) hd (fun H locs hP hD1 hS => ?_)
  rw [cW_set (S' := uI S 21 a v) hD ha.1 hq h0 rfl ((cE_2 (S := uI S 21 a v) ha.2).trans (by simp (decide := true) [up2_e, up2_n, va_rf])) (fun b hb => cE_oI hb)] at hP hD1
  exact kk H locs ls hP hD1 hS hl
theorem cgI_22 (C : Cx0 own cc nL D ar X R9 j) (pc : Nat) {ix a : Nat} (hw : Cond.fieldLink own ix "EggHouse$Pack" "barns" "I" ∈ gtbl) (ha : Is S a 2) (hd : decode cc pc = .ok (.getfield ix, 3)) (kk : j (cW ar S) k n (pc + 3) lv (.int (S.2.2.2.1 22 a) :: st)) : j (cW ar S) k n pc lv (.ref a :: st) := by
  obtain ⟨p, l, e, s, m, args, below, meth, c, A, Q, ⟨hx, hb, hml, hown, hts, hK, hA, hX, hXs⟩, rfl⟩ := C
  intro H locs ls hP hD hS hl
  obtain ⟨q, hq⟩ := cW_get ha.1 (cE_2 (ar := ar) ha.2)
  exact va_get (D := D) (ci := 2) (C := RX2) (T := TX2) (N := 9) hx hb hts gX2 hown hK hP q hq rfl 2 (by decide) (hts _ hw) (fun _ h9 => h9) rfl hd (kk H locs ls hP hD hS hl)
theorem cpI_22 (C : Cx0 own cc nL D ar X R9 j) (pc : Nat) {ix a : Nat} {v : Int32} (hw : Cond.fieldLink own ix "EggHouse$Pack" "barns" "I" ∈ gtbl) (ha : Is S a 2) (hd : decode cc pc = .ok (.putfield ix, 3)) (kk : j (cW ar (uI S 22 a v)) k n (pc + 3) lv st) : j (cW ar S) k n pc lv (.int v :: .ref a :: st) := by
  obtain ⟨p, l, e, s, m, args, below, meth, c, A, Q, ⟨hx, hb, hml, hown, hts, hK, hA, hX, hXs⟩, rfl⟩ := C
  intro H locs ls hP hD hS hl
  have h0 := cE_2 (ar := ar) ha.2
  obtain ⟨q, hq⟩ := cW_get ha.1 h0
  refine va_put (D := D) (ci := 2) (v := .int v) (ty := .int) (C := RX2) (T := TX2) (N := 9) hx hb hts gX2 tyX2 tyX2_ok nmX2 hown hK hP hD hS q hq rfl 2 (by decide) (hts _ hw) (fun _ h9 => h9) rfl (by decide +kernel) rfl rfl (Nat.le_of_ble_eq_true rfl) hd (fun H locs hP hD1 hS => ?_)
  rw [cW_set (S' := uI S 22 a v) hD ha.1 hq h0 rfl ((cE_2 (S := uI S 22 a v) ha.2).trans (by simp (decide := true) [up2_e, up2_n, va_rf])) (fun b hb => cE_oI hb)] at hP hD1
  exact kk H locs ls hP hD1 hS hl
theorem cgI_23 (C : Cx0 own cc nL D ar X R9 j) (pc : Nat) {ix a : Nat} (hw : Cond.fieldLink own ix "EggHouse$Pack" "firstTick" "I" ∈ gtbl) (ha : Is S a 2) (hd : decode cc pc = .ok (.getfield ix, 3)) (kk : j (cW ar S) k n (pc + 3) lv (.int (S.2.2.2.1 23 a) :: st)) : j (cW ar S) k n pc lv (.ref a :: st) := by
  obtain ⟨p, l, e, s, m, args, below, meth, c, A, Q, ⟨hx, hb, hml, hown, hts, hK, hA, hX, hXs⟩, rfl⟩ := C
  intro H locs ls hP hD hS hl
  obtain ⟨q, hq⟩ := cW_get ha.1 (cE_2 (ar := ar) ha.2)
  exact va_get (D := D) (ci := 2) (C := RX2) (T := TX2) (N := 9) hx hb hts gX2 hown hK hP q hq rfl 3 (by decide) (hts _ hw) (fun _ h9 => h9) rfl hd (kk H locs ls hP hD hS hl)
theorem cpI_23 (C : Cx0 own cc nL D ar X R9 j) (pc : Nat) {ix a : Nat} {v : Int32} (hw : Cond.fieldLink own ix "EggHouse$Pack" "firstTick" "I" ∈ gtbl) (ha : Is S a 2) (hd : decode cc pc = .ok (.putfield ix, 3)) (kk : j (cW ar (uI S 23 a v)) k n (pc + 3) lv st) : j (cW ar S) k n pc lv (.int v :: .ref a :: st) := by
  obtain ⟨p, l, e, s, m, args, below, meth, c, A, Q, ⟨hx, hb, hml, hown, hts, hK, hA, hX, hXs⟩, rfl⟩ := C
  intro H locs ls hP hD hS hl
  have h0 := cE_2 (ar := ar) ha.2
  obtain ⟨q, hq⟩ := cW_get ha.1 h0
  refine va_put (D := D) (ci := 2) (v := .int v) (ty := .int) (C := RX2) (T := TX2) (N := 9) hx hb hts gX2 tyX2 tyX2_ok nmX2 hown hK hP hD hS q hq rfl 3 (by decide) (hts _ hw) (fun _ h9 => h9) rfl (by decide +kernel) rfl rfl (Nat.le_of_ble_eq_true rfl) hd (fun H locs hP hD1 hS => ?_)
  rw [cW_set (S' := uI S 23 a v) hD ha.1 hq h0 rfl ((cE_2 (S := uI S 23 a v) ha.2).trans (by simp (decide := true) [up2_e, up2_n, va_rf])) (fun b hb => cE_oI hb)] at hP hD1
  exact kk H locs ls hP hD1 hS hl
theorem cgI_24 (C : Cx0 own cc nL D ar X R9 j) (pc : Nat) {ix a : Nat} (hw : Cond.fieldLink own ix "EggHouse$Pack" "lastTick" "I" ∈ gtbl) (ha : Is S a 2) (hd : decode cc pc = .ok (.getfield ix, 3)) (kk : j (cW ar S) k n (pc + 3) lv (.int (S.2.2.2.1 24 a) :: st)) : j (cW ar S) k n pc lv (.ref a :: st) := by
  obtain ⟨p, l, e, s, m, args, below, meth, c, A, Q, ⟨hx, hb, hml, hown, hts, hK, hA, hX, hXs⟩, rfl⟩ := C
  intro H locs ls hP hD hS hl
  obtain ⟨q, hq⟩ := cW_get ha.1 (cE_2 (ar := ar) ha.2)
  exact va_get (D := D) (ci := 2) (C := RX2) (T := TX2) (N := 9) hx hb hts gX2 hown hK hP q hq rfl 4 (by decide) (hts _ hw) (fun _ h9 => h9) rfl hd (kk H locs ls hP hD hS hl)
theorem cpI_24 (C : Cx0 own cc nL D ar X R9 j) (pc : Nat) {ix a : Nat} {v : Int32} (hw : Cond.fieldLink own ix "EggHouse$Pack" "lastTick" "I" ∈ gtbl) (ha : Is S a 2) (hd : decode cc pc = .ok (.putfield ix, 3)) (kk : j (cW ar (uI S 24 a v)) k n (pc + 3) lv st) : j (cW ar S) k n pc lv (.int v :: .ref a :: st) := by
  obtain ⟨p, l, e, s, m, args, below, meth, c, A, Q, ⟨hx, hb, hml, hown, hts, hK, hA, hX, hXs⟩, rfl⟩ := C
  intro H locs ls hP hD hS hl
  have h0 := cE_2 (ar := ar) ha.2
  obtain ⟨q, hq⟩ := cW_get ha.1 h0
  refine va_put (D := D) (ci := 2) (v := .int v) (ty := .int) (C := RX2) (T := TX2) (N := 9) hx hb hts gX2 tyX2 tyX2_ok nmX2 hown hK hP hD hS q hq rfl 4 (by decide) (hts _ hw) (fun _ h9 => h9) rfl (by decide +kernel) rfl rfl (Nat.le_of_ble_eq_true rfl) hd (fun H locs hP hD1 hS => ?_)
  rw [cW_set (S' := uI S 24 a v) hD ha.1 hq h0 rfl ((cE_2 (S := uI S 24 a v) ha.2).trans (by simp (decide := true) [up2_e, up2_n, va_rf])) (fun b hb => cE_oI hb)] at hP hD1
  exact kk H locs ls hP hD1 hS hl
theorem cgI_25 (C : Cx0 own cc nL D ar X R9 j) (pc : Nat) {ix a : Nat} (hw : Cond.fieldLink own ix "EggHouse$Pack" "weights" "I" ∈ gtbl) (ha : Is S a 2) (hd : decode cc pc = .ok (.getfield ix, 3)) (kk : j (cW ar S) k n (pc + 3) lv (.int (S.2.2.2.1 25 a) :: st)) : j (cW ar S) k n pc lv (.ref a :: st) := by
  obtain ⟨p, l, e, s, m, args, below, meth, c, A, Q, ⟨hx, hb, hml, hown, hts, hK, hA, hX, hXs⟩, rfl⟩ := C
  intro H locs ls hP hD hS hl
  obtain ⟨q, hq⟩ := cW_get ha.1 (cE_2 (ar := ar) ha.2)
  exact va_get (D := D) (ci := 2) (C := RX2) (T := TX2) (N := 9) hx hb hts gX2 hown hK hP q hq rfl 5 (by decide) (hts _ hw) (fun _ h9 => h9) rfl hd (kk H locs ls hP hD hS hl)
theorem cpI_25 (C : Cx0 own cc nL D ar X R9 j) (pc : Nat) {ix a : Nat} {v : Int32} (hw : Cond.fieldLink own ix "EggHouse$Pack" "weights" "I" ∈ gtbl) (ha : Is S a 2) (hd : decode cc pc = .ok (.putfield ix, 3)) (kk : j (cW ar (uI S 25 a v)) k n (pc + 3) lv st) : j (cW ar S) k n pc lv (.int v :: .ref a :: st) := by
  obtain ⟨p, l, e, s, m, args, below, meth, c, A, Q, ⟨hx, hb, hml, hown, hts, hK, hA, hX, hXs⟩, rfl⟩ := C
  intro H locs ls hP hD hS hl
  have h0 := cE_2 (ar := ar) ha.2
  obtain ⟨q, hq⟩ := cW_get ha.1 h0
  refine va_put (D := D) (ci := 2) (v := .int v) (ty := .int) (C := RX2) (T := TX2) (N := 9) hx hb hts gX2 tyX2 tyX2_ok nmX2 hown hK hP hD hS q hq rfl 5 (by decide) (hts _ hw) (fun _ h9 => h9) rfl (by decide +kernel) rfl rfl (Nat.le_of_ble_eq_true rfl) hd (fun H locs hP hD1 hS => ?_)
  rw [cW_set (S' := uI S 25 a v) hD ha.1 hq h0 rfl ((cE_2 (S := uI S 25 a v) ha.2).trans (by simp (decide := true) [up2_e, up2_n, va_rf])) (fun b hb => cE_oI hb)] at hP hD1
  exact kk H locs ls hP hD1 hS hl
theorem cgI_26 (C : Cx0 own cc nL D ar X R9 j) (pc : Nat) {ix a : Nat} (hw : Cond.fieldLink own ix "EggHouse$Pack" "scaleTolds" "I" ∈ gtbl) (ha : Is S a 2) (hd : decode cc pc = .ok (.getfield ix, 3)) (kk : j (cW ar S) k n (pc + 3) lv (.int (S.2.2.2.1 26 a) :: st)) : j (cW ar S) k n pc lv (.ref a :: st) := by
  obtain ⟨p, l, e, s, m, args, below, meth, c, A, Q, ⟨hx, hb, hml, hown, hts, hK, hA, hX, hXs⟩, rfl⟩ := C
  intro H locs ls hP hD hS hl
  obtain ⟨q, hq⟩ := cW_get ha.1 (cE_2 (ar := ar) ha.2)
  exact va_get (D := D) (ci := 2) (C := RX2) (T := TX2) (N := 9) hx hb hts gX2 hown hK hP q hq rfl 6 (by decide) (hts _ hw) (fun _ h9 => h9) rfl hd (kk H locs ls hP hD hS hl)
theorem cpI_26 (C : Cx0 own cc nL D ar X R9 j) (pc : Nat) {ix a : Nat} {v : Int32} (hw : Cond.fieldLink own ix "EggHouse$Pack" "scaleTolds" "I" ∈ gtbl) (ha : Is S a 2) (hd : decode cc pc = .ok (.putfield ix, 3)) (kk : j (cW ar (uI S 26 a v)) k n (pc + 3) lv st) : j (cW ar S) k n pc lv (.int v :: .ref a :: st) := by
  obtain ⟨p, l, e, s, m, args, below, meth, c, A, Q, ⟨hx, hb, hml, hown, hts, hK, hA, hX, hXs⟩, rfl⟩ := C
  intro H locs ls hP hD hS hl
  have h0 := cE_2 (ar := ar) ha.2
  obtain ⟨q, hq⟩ := cW_get ha.1 h0
  refine va_put (D := D) (ci := 2) (v := .int v) (ty := .int) (C := RX2) (T := TX2) (N := 9) hx hb hts gX2 tyX2 tyX2_ok nmX2 hown hK hP hD hS q hq rfl 6 (by decide) (hts _ hw) (fun _ h9 => h9) rfl (by decide +kernel) rfl rfl (Nat.le_of_ble_eq_true rfl) hd (fun H locs hP hD1 hS => ?_)
  rw [cW_set (S' := uI S 26 a v) hD ha.1 hq h0 rfl ((cE_2 (S := uI S 26 a v) ha.2).trans (by simp (decide := true) [up2_e, up2_n, va_rf])) (fun b hb => cE_oI hb)] at hP hD1
  exact kk H locs ls hP hD1 hS hl
theorem cgI_27 (C : Cx0 own cc nL D ar X R9 j) (pc : Nat) {ix a : Nat} (hw : Cond.fieldLink own ix "EggHouse$Pack" "soldTo" "I" ∈ gtbl) (ha : Is S a 2) (hd : decode cc pc = .ok (.getfield ix, 3)) (kk : j (cW ar S) k n (pc + 3) lv (.int (S.2.2.2.1 27 a) :: st)) : j (cW ar S) k n pc lv (.ref a :: st) := by
  obtain ⟨p, l, e, s, m, args, below, meth, c, A, Q, ⟨hx, hb, hml, hown, hts, hK, hA, hX, hXs⟩, rfl⟩ := C
  intro H locs ls hP hD hS hl
  obtain ⟨q, hq⟩ := cW_get ha.1 (cE_2 (ar := ar) ha.2)
  exact va_get (D := D) (ci := 2) (C := RX2) (T := TX2) (N := 9) hx hb hts gX2 hown hK hP q hq rfl 7 (by decide) (hts _ hw) (fun _ h9 => h9) rfl hd (kk H locs ls hP hD hS hl)
theorem cpI_27 (C : Cx0 own cc nL D ar X R9 j) (pc : Nat) {ix a : Nat} {v : Int32} (hw : Cond.fieldLink own ix "EggHouse$Pack" "soldTo" "I" ∈ gtbl) (ha : Is S a 2) (hd : decode cc pc = .ok (.putfield ix, 3)) (kk : j (cW ar (uI S 27 a v)) k n (pc + 3) lv st) : j (cW ar S) k n pc lv (.int v :: .ref a :: st) := by
  obtain ⟨p, l, e, s, m, args, below, meth, c, A, Q, ⟨hx, hb, hml, hown, hts, hK, hA, hX, hXs⟩, rfl⟩ := C
  intro H locs ls hP hD hS hl
  have h0 := cE_2 (ar := ar) ha.2
  obtain ⟨q, hq⟩ := cW_get ha.1 h0
  refine va_put (D := D) (ci := 2) (v := .int v) (ty := .int) (C := RX2) (T := TX2) (N := 9) hx hb hts gX2 tyX2 tyX2_ok nmX2 hown hK hP hD hS q hq rfl 7 (by decide) (hts _ hw) (fun _ h9 => h9) rfl (by decide +kernel) rfl rfl (Nat.le_of_ble_eq_true rfl) hd (fun H locs hP hD1 hS => ?_)
  rw [cW_set (S' := uI S 27 a v) hD ha.1 hq h0 rfl ((cE_2 (S := uI S 27 a v) ha.2).trans (by simp (decide := true) [up2_e, up2_n, va_rf])) (fun b hb => cE_oI hb)] at hP hD1
  exact kk H locs ls hP hD1 hS hl
theorem cgI_28 (C : Cx0 own cc nL D ar X R9 j) (pc : Nat) {ix a : Nat} (hw : Cond.fieldLink own ix "EggHouse$Pack" "held" "Z" ∈ gtbl) (ha : Is S a 2) (hd : decode cc pc = .ok (.getfield ix, 3)) (kk : j (cW ar S) k n (pc + 3) lv (.int (S.2.2.2.1 28 a) :: st)) : j (cW ar S) k n pc lv (.ref a :: st) := by
  obtain ⟨p, l, e, s, m, args, below, meth, c, A, Q, ⟨hx, hb, hml, hown, hts, hK, hA, hX, hXs⟩, rfl⟩ := C
  intro H locs ls hP hD hS hl
  obtain ⟨q, hq⟩ := cW_get ha.1 (cE_2 (ar := ar) ha.2)
  exact va_get (D := D) (ci := 2) (C := RX2) (T := TX2) (N := 9) hx hb hts gX2 hown hK hP q hq rfl 8 (by decide) (hts _ hw) (fun _ h9 => h9) rfl hd (kk H locs ls hP hD hS hl)
theorem cpI_28 (C : Cx0 own cc nL D ar X R9 j) (pc : Nat) {ix a : Nat} {v : Int32} (hz : v = 0 ∨ v = 1) (hw : Cond.fieldLink own ix "EggHouse$Pack" "held" "Z" ∈ gtbl) (ha : Is S a 2) (hd : decode cc pc = .ok (.putfield ix, 3)) (kk : j (cW ar (uI S 28 a v)) k n (pc + 3) lv st) : j (cW ar S) k n pc lv (.int v :: .ref a :: st) := by
  obtain ⟨p, l, e, s, m, args, below, meth, c, A, Q, ⟨hx, hb, hml, hown, hts, hK, hA, hX, hXs⟩, rfl⟩ := C
  intro H locs ls hP hD hS hl
  have h0 := cE_2 (ar := ar) ha.2
  obtain ⟨q, hq⟩ := cW_get ha.1 h0
  refine va_put (D := D) (ci := 2) (v := .int v) (ty := .boolean) (C := RX2) (T := TX2) (N := 9) hx hb hts gX2 tyX2 tyX2_ok nmX2 hown hK hP hD hS q hq rfl 8 (by decide) (hts _ hw) (fun _ h9 => h9) rfl (by decide +kernel) (nar01 hz) (fit01 hz) (Nat.le_of_ble_eq_true rfl) hd (fun H locs hP hD1 hS => ?_)
  rw [cW_set (S' := uI S 28 a v) hD ha.1 hq h0 rfl ((cE_2 (S := uI S 28 a v) ha.2).trans (by simp (decide := true) [up2_e, up2_n, va_rf])) (fun b hb => cE_oI hb)] at hP hD1
  exact kk H locs ls hP hD1 hS hl
theorem cgI_30 (C : Cx0 own cc nL D ar X R9 j) (pc : Nat) {ix a : Nat} (hw : Cond.fieldLink own ix "EggHouse$Packer" "place" "I" ∈ gtbl) (ha : Is S a 3) (hd : decode cc pc = .ok (.getfield ix, 3)) (kk : j (cW ar S) k n (pc + 3) lv (.int (S.2.2.2.1 30 a) :: st)) : j (cW ar S) k n pc lv (.ref a :: st) := by
  obtain ⟨p, l, e, s, m, args, below, meth, c, A, Q, ⟨hx, hb, hml, hown, hts, hK, hA, hX, hXs⟩, rfl⟩ := C
  intro H locs ls hP hD hS hl
  obtain ⟨q, hq⟩ := cW_get ha.1 (cE_3 (ar := ar) ha.2)
  exact va_get (D := D) (ci := 3) (C := RX3) (T := TX3) (N := 5) hx hb hts gX3 hown hK hP q hq rfl 0 (by decide) (hts _ hw) (fun _ h9 => h9) rfl hd (kk H locs ls hP hD hS hl)
theorem cpI_30 (C : CxI RX3 cc nL D ar X R9 j) (pc : Nat) {ix a : Nat} {v : Int32} (hw : Cond.fieldLink RX3 ix "EggHouse$Packer" "place" "I" ∈ gtbl) (ha : Is S a 3) (hd : decode cc pc = .ok (.putfield ix, 3)) (kk : j (cW ar (uI S 30 a v)) k n (pc + 3) lv st) : j (cW ar S) k n pc lv (.int v :: .ref a :: st) := by
  obtain ⟨p, l, e, s, m, args, below, meth, c, A, Q, ⟨hx, hb, hml, hown, hts, hK, hA, hX, hXs⟩, hin, rfl⟩ := C
  intro H locs ls hP hD hS hl
  have h0 := cE_3 (ar := ar) ha.2
  obtain ⟨q, hq⟩ := cW_get ha.1 h0
  refine va_putF (D := D) (ci := 3) (v := .int v) (ty := .int) (C := RX3) (T := TX3) (N := 5) hx hb hts gX3 tyX3 tyX3_ok nmX3 hown hK hP hD hS q hq rfl 0 (by decide) (hts _ hw) (fun _ h9 => h9) rfl hin rfl (by decide +kernel) rfl rfl (Nat.le_of_ble_eq_true rfl) hd (fun H locs hP hD1 hS => ?_)
  rw [cW_set (S' := uI S 30 a v) hD ha.1 hq h0 rfl ((cE_3 (S := uI S 30 a v) ha.2).trans (by simp (decide := true) [up2_e, up2_n, va_rf])) (fun b hb => cE_oI hb)] at hP hD1
  exact kk H locs ls hP hD1 hS hl
theorem cgI_31 (C : Cx0 own cc nL D ar X R9 j) (pc : Nat) {ix a : Nat} (hw : Cond.fieldLink own ix "EggHouse$Packer" "grade" "I" ∈ gtbl) (ha : Is S a 3) (hd : decode cc pc = .ok (.getfield ix, 3)) (kk : j (cW ar S) k n (pc + 3) lv (.int (S.2.2.2.1 31 a) :: st)) : j (cW ar S) k n pc lv (.ref a :: st) := by
  obtain ⟨p, l, e, s, m, args, below, meth, c, A, Q, ⟨hx, hb, hml, hown, hts, hK, hA, hX, hXs⟩, rfl⟩ := C
  intro H locs ls hP hD hS hl
  obtain ⟨q, hq⟩ := cW_get ha.1 (cE_3 (ar := ar) ha.2)
  exact va_get (D := D) (ci := 3) (C := RX3) (T := TX3) (N := 5) hx hb hts gX3 hown hK hP q hq rfl 1 (by decide) (hts _ hw) (fun _ h9 => h9) rfl hd (kk H locs ls hP hD hS hl)
theorem cpI_31 (C : Cx0 own cc nL D ar X R9 j) (pc : Nat) {ix a : Nat} {v : Int32} (hw : Cond.fieldLink own ix "EggHouse$Packer" "grade" "I" ∈ gtbl) (ha : Is S a 3) (hd : decode cc pc = .ok (.putfield ix, 3)) (kk : j (cW ar (uI S 31 a v)) k n (pc + 3) lv st) : j (cW ar S) k n pc lv (.int v :: .ref a :: st) := by
  obtain ⟨p, l, e, s, m, args, below, meth, c, A, Q, ⟨hx, hb, hml, hown, hts, hK, hA, hX, hXs⟩, rfl⟩ := C
  intro H locs ls hP hD hS hl
  have h0 := cE_3 (ar := ar) ha.2
  obtain ⟨q, hq⟩ := cW_get ha.1 h0
  refine va_put (D := D) (ci := 3) (v := .int v) (ty := .int) (C := RX3) (T := TX3) (N := 5) hx hb hts gX3 tyX3 tyX3_ok nmX3 hown hK hP hD hS q hq rfl 1 (by decide) (hts _ hw) (fun _ h9 => h9) rfl (by decide +kernel) rfl rfl (Nat.le_of_ble_eq_true rfl) hd (fun H locs hP hD1 hS => ?_)
  rw [cW_set (S' := uI S 31 a v) hD ha.1 hq h0 rfl ((cE_3 (S := uI S 31 a v) ha.2).trans (by simp (decide := true) [up2_e, up2_n, va_rf])) (fun b hb => cE_oI hb)] at hP hD1
  exact kk H locs ls hP hD1 hS hl
theorem cgI_32 (C : Cx0 own cc nL D ar X R9 j) (pc : Nat) {ix a : Nat} (hw : Cond.fieldLink own ix "EggHouse$Packer" "isOn" "Z" ∈ gtbl) (ha : Is S a 3) (hd : decode cc pc = .ok (.getfield ix, 3)) (kk : j (cW ar S) k n (pc + 3) lv (.int (S.2.2.2.1 32 a) :: st)) : j (cW ar S) k n pc lv (.ref a :: st) := by
  obtain ⟨p, l, e, s, m, args, below, meth, c, A, Q, ⟨hx, hb, hml, hown, hts, hK, hA, hX, hXs⟩, rfl⟩ := C
  intro H locs ls hP hD hS hl
  obtain ⟨q, hq⟩ := cW_get ha.1 (cE_3 (ar := ar) ha.2)
  exact va_get (D := D) (ci := 3) (C := RX3) (T := TX3) (N := 5) hx hb hts gX3 hown hK hP q hq rfl 2 (by decide) (hts _ hw) (fun _ h9 => h9) rfl hd (kk H locs ls hP hD hS hl)
theorem cpI_32 (C : Cx0 own cc nL D ar X R9 j) (pc : Nat) {ix a : Nat} {v : Int32} (hz : v = 0 ∨ v = 1) (hw : Cond.fieldLink own ix "EggHouse$Packer" "isOn" "Z" ∈ gtbl) (ha : Is S a 3) (hd : decode cc pc = .ok (.putfield ix, 3)) (kk : j (cW ar (uI S 32 a v)) k n (pc + 3) lv st) : j (cW ar S) k n pc lv (.int v :: .ref a :: st) := by
  obtain ⟨p, l, e, s, m, args, below, meth, c, A, Q, ⟨hx, hb, hml, hown, hts, hK, hA, hX, hXs⟩, rfl⟩ := C
  intro H locs ls hP hD hS hl
  have h0 := cE_3 (ar := ar) ha.2
  obtain ⟨q, hq⟩ := cW_get ha.1 h0
  refine va_put (D := D) (ci := 3) (v := .int v) (ty := .boolean) (C := RX3) (T := TX3) (N := 5) hx hb hts gX3 tyX3 tyX3_ok nmX3 hown hK hP hD hS q hq rfl 2 (by decide) (hts _ hw) (fun _ h9 => h9) rfl (by decide +kernel) (nar01 hz) (fit01 hz) (Nat.le_of_ble_eq_true rfl) hd (fun H locs hP hD1 hS => ?_)
  rw [cW_set (S' := uI S 32 a v) hD ha.1 hq h0 rfl ((cE_3 (S := uI S 32 a v) ha.2).trans (by simp (decide := true) [up2_e, up2_n, va_rf])) (fun b hb => cE_oI hb)] at hP hD1
  exact kk H locs ls hP hD1 hS hl
theorem cgI_33 (C : Cx0 own cc nL D ar X R9 j) (pc : Nat) {ix a : Nat} (hw : Cond.fieldLink own ix "EggHouse$Packer" "busy" "I" ∈ gtbl) (ha : Is S a 3) (hd : decode cc pc = .ok (.getfield ix, 3)) (kk : j (cW ar S) k n (pc + 3) lv (.int (S.2.2.2.1 33 a) :: st)) : j (cW ar S) k n pc lv (.ref a :: st) := by
  obtain ⟨p, l, e, s, m, args, below, meth, c, A, Q, ⟨hx, hb, hml, hown, hts, hK, hA, hX, hXs⟩, rfl⟩ := C
  intro H locs ls hP hD hS hl
  obtain ⟨q, hq⟩ := cW_get ha.1 (cE_3 (ar := ar) ha.2)
  exact va_get (D := D) (ci := 3) (C := RX3) (T := TX3) (N := 5) hx hb hts gX3 hown hK hP q hq rfl 3 (by decide) (hts _ hw) (fun _ h9 => h9) rfl hd (kk H locs ls hP hD hS hl)
theorem cpI_33 (C : Cx0 own cc nL D ar X R9 j) (pc : Nat) {ix a : Nat} {v : Int32} (hw : Cond.fieldLink own ix "EggHouse$Packer" "busy" "I" ∈ gtbl) (ha : Is S a 3) (hd : decode cc pc = .ok (.putfield ix, 3)) (kk : j (cW ar (uI S 33 a v)) k n (pc + 3) lv st) : j (cW ar S) k n pc lv (.int v :: .ref a :: st) := by
  obtain ⟨p, l, e, s, m, args, below, meth, c, A, Q, ⟨hx, hb, hml, hown, hts, hK, hA, hX, hXs⟩, rfl⟩ := C
  intro H locs ls hP hD hS hl
  have h0 := cE_3 (ar := ar) ha.2
  obtain ⟨q, hq⟩ := cW_get ha.1 h0
  refine va_put (D := D) (ci := 3) (v := .int v) (ty := .int) (C := RX3) (T := TX3) (N := 5) hx hb hts gX3 tyX3 tyX3_ok nmX3 hown hK hP hD hS q hq rfl 3 (by decide) (hts _ hw) (fun _ h9 => h9) rfl (by decide +kernel) rfl rfl (Nat.le_of_ble_eq_true rfl) hd (fun H locs hP hD1 hS => ?_)
  rw [cW_set (S' := uI S 33 a v) hD ha.1 hq h0 rfl ((cE_3 (S := uI S 33 a v) ha.2).trans (by simp (decide := true) [up2_e, up2_n, va_rf])) (fun b hb => cE_oI hb)] at hP hD1
  exact kk H locs ls hP hD1 hS hl
theorem cgR_0 (C : Cx0 own cc nL D ar X R9 j) (pc : Nat) {ix a : Nat} {v : Nat} (hv : S.2.2.2.2.1 0 a = some v) (hw : Cond.fieldLink own ix "EggHouse$Packer" "tray" "LEggHouse$Pack;" ∈ gtbl) (ha : Is S a 3) (hd : decode cc pc = .ok (.getfield ix, 3)) (kk : j (cW ar S) k n (pc + 3) lv (.ref v :: st)) : j (cW ar S) k n pc lv (.ref a :: st) := by
  obtain ⟨p, l, e, s, m, args, below, meth, c, A, Q, ⟨hx, hb, hml, hown, hts, hK, hA, hX, hXs⟩, rfl⟩ := C
  intro H locs ls hP hD hS hl
  obtain ⟨q, hq⟩ := cW_get ha.1 (cE_3 (ar := ar) ha.2)
  exact va_get (D := D) (ci := 3) (C := RX3) (T := TX3) (N := 5) hx hb hts gX3 hown hK hP q hq rfl 4 (by decide) (hts _ hw) (fun _ h9 => h9) (by show some (va_rf (S.2.2.2.2.1 0 a)) = _; rw [hv]; rfl) hd (kk H locs ls hP hD hS hl)
theorem cpR_0 (C : Cx0 own cc nL D ar X R9 j) (pc : Nat) {ix a : Nat} {v : Nat} (hw : Cond.fieldLink own ix "EggHouse$Packer" "tray" "LEggHouse$Pack;" ∈ gtbl) (ha : Is S a 3) (hd : decode cc pc = .ok (.putfield ix, 3)) (kk : j (cW ar (uR S 0 a (some v))) k n (pc + 3) lv st) : j (cW ar S) k n pc lv (.ref v :: .ref a :: st) := by
  obtain ⟨p, l, e, s, m, args, below, meth, c, A, Q, ⟨hx, hb, hml, hown, hts, hK, hA, hX, hXs⟩, rfl⟩ := C
  intro H locs ls hP hD hS hl
  have h0 := cE_3 (ar := ar) ha.2
  obtain ⟨q, hq⟩ := cW_get ha.1 h0
  refine va_put (D := D) (ci := 3) (v := .ref v) (ty := .object "EggHouse$Pack") (C := RX3) (T := TX3) (N := 5) hx hb hts gX3 tyX3 tyX3_ok nmX3 hown hK hP hD hS q hq rfl 4 (by decide) (hts _ hw) (fun _ h9 => h9) rfl (by decide +kernel) rfl rfl (Nat.le_of_ble_eq_true rfl) hd (fun H locs hP hD1 hS => ?_)
  rw [cW_set (S' := uR S 0 a (some v)) hD ha.1 hq h0 rfl ((cE_3 (S := uR S 0 a (some v)) ha.2).trans (by simp (decide := true) [upr_e, upr_n, va_rf])) (fun b hb => cE_oR hb)] at hP hD1
  exact kk H locs ls hP hD1 hS hl
theorem cgR_1 (C : Cx0 own cc nL D ar X R9 j) (pc : Nat) {ix a : Nat} {v : Nat} (hv : S.2.2.2.2.1 1 a = some v) (hw : Cond.fieldLink own ix "EggHouse" "queue" "Ljava/util/ArrayList;" ∈ gtbl) (ha : Is S a 4) (hd : decode cc pc = .ok (.getfield ix, 3)) (kk : j (cW ar S) k n (pc + 3) lv (.ref v :: st)) : j (cW ar S) k n pc lv (.ref a :: st) := by
  obtain ⟨p, l, e, s, m, args, below, meth, c, A, Q, ⟨hx, hb, hml, hown, hts, hK, hA, hX, hXs⟩, rfl⟩ := C
  intro H locs ls hP hD hS hl
  obtain ⟨q, hq⟩ := cW_get ha.1 (cE_4 (ar := ar) ha.2)
  exact va_get (D := D) (ci := 4) (C := RX4) (T := TX4) (N := 11) hx hb hts gX4 hown hK hP q hq rfl 0 (by decide) (hts _ hw) (fun _ h9 => h9) (by show some (va_rf (S.2.2.2.2.1 1 a)) = _; rw [hv]; rfl) hd (kk H locs ls hP hD hS hl)
theorem cpR_1 (C : CxI RX4 cc nL D ar X R9 j) (pc : Nat) {ix a : Nat} {v : Nat} (hw : Cond.fieldLink RX4 ix "EggHouse" "queue" "Ljava/util/ArrayList;" ∈ gtbl) (ha : Is S a 4) (hd : decode cc pc = .ok (.putfield ix, 3)) (kk : j (cW ar (uR S 1 a (some v))) k n (pc + 3) lv st) : j (cW ar S) k n pc lv (.ref v :: .ref a :: st) := by
  obtain ⟨p, l, e, s, m, args, below, meth, c, A, Q, ⟨hx, hb, hml, hown, hts, hK, hA, hX, hXs⟩, hin, rfl⟩ := C
  intro H locs ls hP hD hS hl
  have h0 := cE_4 (ar := ar) ha.2
  obtain ⟨q, hq⟩ := cW_get ha.1 h0
  refine va_putF (D := D) (ci := 4) (v := .ref v) (ty := .object "java/util/ArrayList") (C := RX4) (T := TX4) (N := 11) hx hb hts gX4 tyX4 tyX4_ok nmX4 hown hK hP hD hS q hq rfl 0 (by decide) (hts _ hw) (fun _ h9 => h9) rfl hin rfl (by decide +kernel) rfl rfl (Nat.le_of_ble_eq_true rfl) hd (fun H locs hP hD1 hS => ?_)
  rw [cW_set (S' := uR S 1 a (some v)) hD ha.1 hq h0 rfl ((cE_4 (S := uR S 1 a (some v)) ha.2).trans (by simp (decide := true) [upr_e, upr_n, va_rf])) (fun b hb => cE_oR hb)] at hP hD1
  exact kk H locs ls hP hD1 hS hl
theorem cgR_2 (C : Cx0 own cc nL D ar X R9 j) (pc : Nat) {ix a : Nat} {v : Nat} (hv : S.2.2.2.2.1 2 a = some v) (hw : Cond.fieldLink own ix "EggHouse" "wash" "Ljava/util/ArrayList;" ∈ gtbl) (ha : Is S a 4) (hd : decode cc pc = .ok (.getfield ix, 3)) (kk : j (cW ar S) k n (pc + 3) lv (.ref v :: st)) : j (cW ar S) k n pc lv (.ref a :: st) := by
  obtain ⟨p, l, e, s, m, args, below, meth, c, A, Q, ⟨hx, hb, hml, hown, hts, hK, hA, hX, hXs⟩, rfl⟩ := C
  intro H locs ls hP hD hS hl
  obtain ⟨q, hq⟩ := cW_get ha.1 (cE_4 (ar := ar) ha.2)
  exact va_get (D := D) (ci := 4) (C := RX4) (T := TX4) (N := 11) hx hb hts gX4 hown hK hP q hq rfl 1 (by decide) (hts _ hw) (fun _ h9 => h9) (by show some (va_rf (S.2.2.2.2.1 2 a)) = _; rw [hv]; rfl) hd (kk H locs ls hP hD hS hl)
theorem cpR_2 (C : CxI RX4 cc nL D ar X R9 j) (pc : Nat) {ix a : Nat} {v : Nat} (hw : Cond.fieldLink RX4 ix "EggHouse" "wash" "Ljava/util/ArrayList;" ∈ gtbl) (ha : Is S a 4) (hd : decode cc pc = .ok (.putfield ix, 3)) (kk : j (cW ar (uR S 2 a (some v))) k n (pc + 3) lv st) : j (cW ar S) k n pc lv (.ref v :: .ref a :: st) := by
  obtain ⟨p, l, e, s, m, args, below, meth, c, A, Q, ⟨hx, hb, hml, hown, hts, hK, hA, hX, hXs⟩, hin, rfl⟩ := C
  intro H locs ls hP hD hS hl
  have h0 := cE_4 (ar := ar) ha.2
  obtain ⟨q, hq⟩ := cW_get ha.1 h0
  refine va_putF (D := D) (ci := 4) (v := .ref v) (ty := .object "java/util/ArrayList") (C := RX4) (T := TX4) (N := 11) hx hb hts gX4 tyX4 tyX4_ok nmX4 hown hK hP hD hS q hq rfl 1 (by decide) (hts _ hw) (fun _ h9 => h9) rfl hin rfl (by decide +kernel) rfl rfl (Nat.le_of_ble_eq_true rfl) hd (fun H locs hP hD1 hS => ?_)
  rw [cW_set (S' := uR S 2 a (some v)) hD ha.1 hq h0 rfl ((cE_4 (S := uR S 2 a (some v)) ha.2).trans (by simp (decide := true) [upr_e, upr_n, va_rf])) (fun b hb => cE_oR hb)] at hP hD1
  exact kk H locs ls hP hD1 hS hl
theorem cgR_3 (C : Cx0 own cc nL D ar X R9 j) (pc : Nat) {ix a : Nat} {v : Nat} (hv : S.2.2.2.2.1 3 a = some v) (hw : Cond.fieldLink own ix "EggHouse" "line" "[LEggHouse$Egg;" ∈ gtbl) (ha : Is S a 4) (hd : decode cc pc = .ok (.getfield ix, 3)) (kk : j (cW ar S) k n (pc + 3) lv (.ref v :: st)) : j (cW ar S) k n pc lv (.ref a :: st) := by
  obtain ⟨p, l, e, s, m, args, below, meth, c, A, Q, ⟨hx, hb, hml, hown, hts, hK, hA, hX, hXs⟩, rfl⟩ := C
  intro H locs ls hP hD hS hl
  obtain ⟨q, hq⟩ := cW_get ha.1 (cE_4 (ar := ar) ha.2)
  exact va_get (D := D) (ci := 4) (C := RX4) (T := TX4) (N := 11) hx hb hts gX4 hown hK hP q hq rfl 2 (by decide) (hts _ hw) (fun _ h9 => h9) (by show some (va_rf (S.2.2.2.2.1 3 a)) = _; rw [hv]; rfl) hd (kk H locs ls hP hD hS hl)
theorem cpR_3 (C : CxI RX4 cc nL D ar X R9 j) (pc : Nat) {ix a : Nat} {v : Nat} (hw : Cond.fieldLink RX4 ix "EggHouse" "line" "[LEggHouse$Egg;" ∈ gtbl) (ha : Is S a 4) (hd : decode cc pc = .ok (.putfield ix, 3)) (kk : j (cW ar (uR S 3 a (some v))) k n (pc + 3) lv st) : j (cW ar S) k n pc lv (.ref v :: .ref a :: st) := by
  obtain ⟨p, l, e, s, m, args, below, meth, c, A, Q, ⟨hx, hb, hml, hown, hts, hK, hA, hX, hXs⟩, hin, rfl⟩ := C
  intro H locs ls hP hD hS hl
  have h0 := cE_4 (ar := ar) ha.2
  obtain ⟨q, hq⟩ := cW_get ha.1 h0
  refine va_putF (D := D) (ci := 4) (v := .ref v) (ty := .array (.object "EggHouse$Egg")) (C := RX4) (T := TX4) (N := 11) hx hb hts gX4 tyX4 tyX4_ok nmX4 hown hK hP hD hS q hq rfl 2 (by decide) (hts _ hw) (fun _ h9 => h9) rfl hin rfl (by decide +kernel) rfl rfl (Nat.le_of_ble_eq_true rfl) hd (fun H locs hP hD1 hS => ?_)
  rw [cW_set (S' := uR S 3 a (some v)) hD ha.1 hq h0 rfl ((cE_4 (S := uR S 3 a (some v)) ha.2).trans (by simp (decide := true) [upr_e, upr_n, va_rf])) (fun b hb => cE_oR hb)] at hP hD1
  exact kk H locs ls hP hD1 hS hl
theorem cgR_4 (C : Cx0 own cc nL D ar X R9 j) (pc : Nat) {ix a : Nat} {v : Nat} (hv : S.2.2.2.2.1 4 a = some v) (hw : Cond.fieldLink own ix "EggHouse" "packers" "[LEggHouse$Packer;" ∈ gtbl) (ha : Is S a 4) (hd : decode cc pc = .ok (.getfield ix, 3)) (kk : j (cW ar S) k n (pc + 3) lv (.ref v :: st)) : j (cW ar S) k n pc lv (.ref a :: st) := by
  obtain ⟨p, l, e, s, m, args, below, meth, c, A, Q, ⟨hx, hb, hml, hown, hts, hK, hA, hX, hXs⟩, rfl⟩ := C
  intro H locs ls hP hD hS hl
  obtain ⟨q, hq⟩ := cW_get ha.1 (cE_4 (ar := ar) ha.2)
  exact va_get (D := D) (ci := 4) (C := RX4) (T := TX4) (N := 11) hx hb hts gX4 hown hK hP q hq rfl 3 (by decide) (hts _ hw) (fun _ h9 => h9) (by show some (va_rf (S.2.2.2.2.1 4 a)) = _; rw [hv]; rfl) hd (kk H locs ls hP hD hS hl)
theorem cpR_4 (C : CxI RX4 cc nL D ar X R9 j) (pc : Nat) {ix a : Nat} {v : Nat} (hw : Cond.fieldLink RX4 ix "EggHouse" "packers" "[LEggHouse$Packer;" ∈ gtbl) (ha : Is S a 4) (hd : decode cc pc = .ok (.putfield ix, 3)) (kk : j (cW ar (uR S 4 a (some v))) k n (pc + 3) lv st) : j (cW ar S) k n pc lv (.ref v :: .ref a :: st) := by
  obtain ⟨p, l, e, s, m, args, below, meth, c, A, Q, ⟨hx, hb, hml, hown, hts, hK, hA, hX, hXs⟩, hin, rfl⟩ := C
  intro H locs ls hP hD hS hl
  have h0 := cE_4 (ar := ar) ha.2
  obtain ⟨q, hq⟩ := cW_get ha.1 h0
  refine va_putF (D := D) (ci := 4) (v := .ref v) (ty := .array (.object "EggHouse$Packer")) (C := RX4) (T := TX4) (N := 11) hx hb hts gX4 tyX4 tyX4_ok nmX4 hown hK hP hD hS q hq rfl 3 (by decide) (hts _ hw) (fun _ h9 => h9) rfl hin rfl (by decide +kernel) rfl rfl (Nat.le_of_ble_eq_true rfl) hd (fun H locs hP hD1 hS => ?_)
  rw [cW_set (S' := uR S 4 a (some v)) hD ha.1 hq h0 rfl ((cE_4 (S := uR S 4 a (some v)) ha.2).trans (by simp (decide := true) [upr_e, upr_n, va_rf])) (fun b hb => cE_oR hb)] at hP hD1
  exact kk H locs ls hP hD1 hS hl
theorem cgR_5 (C : Cx0 own cc nL D ar X R9 j) (pc : Nat) {ix a : Nat} {v : Nat} (hv : S.2.2.2.2.1 5 a = some v) (hw : Cond.fieldLink own ix "EggHouse" "packs" "Ljava/util/ArrayList;" ∈ gtbl) (ha : Is S a 4) (hd : decode cc pc = .ok (.getfield ix, 3)) (kk : j (cW ar S) k n (pc + 3) lv (.ref v :: st)) : j (cW ar S) k n pc lv (.ref a :: st) := by
  obtain ⟨p, l, e, s, m, args, below, meth, c, A, Q, ⟨hx, hb, hml, hown, hts, hK, hA, hX, hXs⟩, rfl⟩ := C
  intro H locs ls hP hD hS hl
  obtain ⟨q, hq⟩ := cW_get ha.1 (cE_4 (ar := ar) ha.2)
  exact va_get (D := D) (ci := 4) (C := RX4) (T := TX4) (N := 11) hx hb hts gX4 hown hK hP q hq rfl 4 (by decide) (hts _ hw) (fun _ h9 => h9) (by show some (va_rf (S.2.2.2.2.1 5 a)) = _; rw [hv]; rfl) hd (kk H locs ls hP hD hS hl)
theorem cpR_5 (C : CxI RX4 cc nL D ar X R9 j) (pc : Nat) {ix a : Nat} {v : Nat} (hw : Cond.fieldLink RX4 ix "EggHouse" "packs" "Ljava/util/ArrayList;" ∈ gtbl) (ha : Is S a 4) (hd : decode cc pc = .ok (.putfield ix, 3)) (kk : j (cW ar (uR S 5 a (some v))) k n (pc + 3) lv st) : j (cW ar S) k n pc lv (.ref v :: .ref a :: st) := by
  obtain ⟨p, l, e, s, m, args, below, meth, c, A, Q, ⟨hx, hb, hml, hown, hts, hK, hA, hX, hXs⟩, hin, rfl⟩ := C
  intro H locs ls hP hD hS hl
  have h0 := cE_4 (ar := ar) ha.2
  obtain ⟨q, hq⟩ := cW_get ha.1 h0
  refine va_putF (D := D) (ci := 4) (v := .ref v) (ty := .object "java/util/ArrayList") (C := RX4) (T := TX4) (N := 11) hx hb hts gX4 tyX4 tyX4_ok nmX4 hown hK hP hD hS q hq rfl 4 (by decide) (hts _ hw) (fun _ h9 => h9) rfl hin rfl (by decide +kernel) rfl rfl (Nat.le_of_ble_eq_true rfl) hd (fun H locs hP hD1 hS => ?_)
  rw [cW_set (S' := uR S 5 a (some v)) hD ha.1 hq h0 rfl ((cE_4 (S := uR S 5 a (some v)) ha.2).trans (by simp (decide := true) [upr_e, upr_n, va_rf])) (fun b hb => cE_oR hb)] at hP hD1
  exact kk H locs ls hP hD1 hS hl
theorem cgR_6 (C : Cx0 own cc nL D ar X R9 j) (pc : Nat) {ix a : Nat} {v : Nat} (hv : S.2.2.2.2.1 6 a = some v) (hw : Cond.fieldLink own ix "EggHouse" "orders" "Ljava/util/ArrayList;" ∈ gtbl) (ha : Is S a 4) (hd : decode cc pc = .ok (.getfield ix, 3)) (kk : j (cW ar S) k n (pc + 3) lv (.ref v :: st)) : j (cW ar S) k n pc lv (.ref a :: st) := by
  obtain ⟨p, l, e, s, m, args, below, meth, c, A, Q, ⟨hx, hb, hml, hown, hts, hK, hA, hX, hXs⟩, rfl⟩ := C
  intro H locs ls hP hD hS hl
  obtain ⟨q, hq⟩ := cW_get ha.1 (cE_4 (ar := ar) ha.2)
  exact va_get (D := D) (ci := 4) (C := RX4) (T := TX4) (N := 11) hx hb hts gX4 hown hK hP q hq rfl 5 (by decide) (hts _ hw) (fun _ h9 => h9) (by show some (va_rf (S.2.2.2.2.1 6 a)) = _; rw [hv]; rfl) hd (kk H locs ls hP hD hS hl)
theorem cpR_6 (C : CxI RX4 cc nL D ar X R9 j) (pc : Nat) {ix a : Nat} {v : Nat} (hw : Cond.fieldLink RX4 ix "EggHouse" "orders" "Ljava/util/ArrayList;" ∈ gtbl) (ha : Is S a 4) (hd : decode cc pc = .ok (.putfield ix, 3)) (kk : j (cW ar (uR S 6 a (some v))) k n (pc + 3) lv st) : j (cW ar S) k n pc lv (.ref v :: .ref a :: st) := by
  obtain ⟨p, l, e, s, m, args, below, meth, c, A, Q, ⟨hx, hb, hml, hown, hts, hK, hA, hX, hXs⟩, hin, rfl⟩ := C
  intro H locs ls hP hD hS hl
  have h0 := cE_4 (ar := ar) ha.2
  obtain ⟨q, hq⟩ := cW_get ha.1 h0
  refine va_putF (D := D) (ci := 4) (v := .ref v) (ty := .object "java/util/ArrayList") (C := RX4) (T := TX4) (N := 11) hx hb hts gX4 tyX4 tyX4_ok nmX4 hown hK hP hD hS q hq rfl 5 (by decide) (hts _ hw) (fun _ h9 => h9) rfl hin rfl (by decide +kernel) rfl rfl (Nat.le_of_ble_eq_true rfl) hd (fun H locs hP hD1 hS => ?_)
  rw [cW_set (S' := uR S 6 a (some v)) hD ha.1 hq h0 rfl ((cE_4 (S := uR S 6 a (some v)) ha.2).trans (by simp (decide := true) [upr_e, upr_n, va_rf])) (fun b hb => cE_oR hb)] at hP hD1
  exact kk H locs ls hP hD1 hS hl
theorem cgR_7 (C : Cx0 own cc nL D ar X R9 j) (pc : Nat) {ix a : Nat} {v : Nat} (hv : S.2.2.2.2.1 7 a = some v) (hw : Cond.fieldLink own ix "EggHouse" "byBarn" "[[I" ∈ gtbl) (ha : Is S a 4) (hd : decode cc pc = .ok (.getfield ix, 3)) (kk : j (cW ar S) k n (pc + 3) lv (.ref v :: st)) : j (cW ar S) k n pc lv (.ref a :: st) := by
  obtain ⟨p, l, e, s, m, args, below, meth, c, A, Q, ⟨hx, hb, hml, hown, hts, hK, hA, hX, hXs⟩, rfl⟩ := C
  intro H locs ls hP hD hS hl
  obtain ⟨q, hq⟩ := cW_get ha.1 (cE_4 (ar := ar) ha.2)
  exact va_get (D := D) (ci := 4) (C := RX4) (T := TX4) (N := 11) hx hb hts gX4 hown hK hP q hq rfl 6 (by decide) (hts _ hw) (fun _ h9 => h9) (by show some (va_rf (S.2.2.2.2.1 7 a)) = _; rw [hv]; rfl) hd (kk H locs ls hP hD hS hl)
theorem cpR_7 (C : CxI RX4 cc nL D ar X R9 j) (pc : Nat) {ix a : Nat} {v : Nat} (hw : Cond.fieldLink RX4 ix "EggHouse" "byBarn" "[[I" ∈ gtbl) (ha : Is S a 4) (hd : decode cc pc = .ok (.putfield ix, 3)) (kk : j (cW ar (uR S 7 a (some v))) k n (pc + 3) lv st) : j (cW ar S) k n pc lv (.ref v :: .ref a :: st) := by
  obtain ⟨p, l, e, s, m, args, below, meth, c, A, Q, ⟨hx, hb, hml, hown, hts, hK, hA, hX, hXs⟩, hin, rfl⟩ := C
  intro H locs ls hP hD hS hl
  have h0 := cE_4 (ar := ar) ha.2
  obtain ⟨q, hq⟩ := cW_get ha.1 h0
  refine va_putF (D := D) (ci := 4) (v := .ref v) (ty := .array (.array .int)) (C := RX4) (T := TX4) (N := 11) hx hb hts gX4 tyX4 tyX4_ok nmX4 hown hK hP hD hS q hq rfl 6 (by decide) (hts _ hw) (fun _ h9 => h9) rfl hin rfl (by decide +kernel) rfl rfl (Nat.le_of_ble_eq_true rfl) hd (fun H locs hP hD1 hS => ?_)
  rw [cW_set (S' := uR S 7 a (some v)) hD ha.1 hq h0 rfl ((cE_4 (S := uR S 7 a (some v)) ha.2).trans (by simp (decide := true) [upr_e, upr_n, va_rf])) (fun b hb => cE_oR hb)] at hP hD1
  exact kk H locs ls hP hD1 hS hl
theorem cgI_40 (C : Cx0 own cc nL D ar X R9 j) (pc : Nat) {ix a : Nat} (hw : Cond.fieldLink own ix "EggHouse" "tickNumber" "I" ∈ gtbl) (ha : Is S a 4) (hd : decode cc pc = .ok (.getfield ix, 3)) (kk : j (cW ar S) k n (pc + 3) lv (.int (S.2.2.2.1 40 a) :: st)) : j (cW ar S) k n pc lv (.ref a :: st) := by
  obtain ⟨p, l, e, s, m, args, below, meth, c, A, Q, ⟨hx, hb, hml, hown, hts, hK, hA, hX, hXs⟩, rfl⟩ := C
  intro H locs ls hP hD hS hl
  obtain ⟨q, hq⟩ := cW_get ha.1 (cE_4 (ar := ar) ha.2)
  exact va_get (D := D) (ci := 4) (C := RX4) (T := TX4) (N := 11) hx hb hts gX4 hown hK hP q hq rfl 7 (by decide) (hts _ hw) (fun _ h9 => h9) rfl hd (kk H locs ls hP hD hS hl)
theorem cpI_40 (C : Cx0 own cc nL D ar X R9 j) (pc : Nat) {ix a : Nat} {v : Int32} (hw : Cond.fieldLink own ix "EggHouse" "tickNumber" "I" ∈ gtbl) (ha : Is S a 4) (hd : decode cc pc = .ok (.putfield ix, 3)) (kk : j (cW ar (uI S 40 a v)) k n (pc + 3) lv st) : j (cW ar S) k n pc lv (.int v :: .ref a :: st) := by
  obtain ⟨p, l, e, s, m, args, below, meth, c, A, Q, ⟨hx, hb, hml, hown, hts, hK, hA, hX, hXs⟩, rfl⟩ := C
  intro H locs ls hP hD hS hl
  have h0 := cE_4 (ar := ar) ha.2
  obtain ⟨q, hq⟩ := cW_get ha.1 h0
  refine va_put (D := D) (ci := 4) (v := .int v) (ty := .int) (C := RX4) (T := TX4) (N := 11) hx hb hts gX4 tyX4 tyX4_ok nmX4 hown hK hP hD hS q hq rfl 7 (by decide) (hts _ hw) (fun _ h9 => h9) rfl (by decide +kernel) rfl rfl (Nat.le_of_ble_eq_true rfl) hd (fun H locs hP hD1 hS => ?_)
  rw [cW_set (S' := uI S 40 a v) hD ha.1 hq h0 rfl ((cE_4 (S := uI S 40 a v) ha.2).trans (by simp (decide := true) [up2_e, up2_n, va_rf])) (fun b hb => cE_oI hb)] at hP hD1
  exact kk H locs ls hP hD1 hS hl
theorem cgI_41 (C : Cx0 own cc nL D ar X R9 j) (pc : Nat) {ix a : Nat} (hw : Cond.fieldLink own ix "EggHouse" "driftNow" "I" ∈ gtbl) (ha : Is S a 4) (hd : decode cc pc = .ok (.getfield ix, 3)) (kk : j (cW ar S) k n (pc + 3) lv (.int (S.2.2.2.1 41 a) :: st)) : j (cW ar S) k n pc lv (.ref a :: st) := by
  obtain ⟨p, l, e, s, m, args, below, meth, c, A, Q, ⟨hx, hb, hml, hown, hts, hK, hA, hX, hXs⟩, rfl⟩ := C
  intro H locs ls hP hD hS hl
  obtain ⟨q, hq⟩ := cW_get ha.1 (cE_4 (ar := ar) ha.2)
  exact va_get (D := D) (ci := 4) (C := RX4) (T := TX4) (N := 11) hx hb hts gX4 hown hK hP q hq rfl 8 (by decide) (hts _ hw) (fun _ h9 => h9) rfl hd (kk H locs ls hP hD hS hl)
theorem cpI_41 (C : Cx0 own cc nL D ar X R9 j) (pc : Nat) {ix a : Nat} {v : Int32} (hw : Cond.fieldLink own ix "EggHouse" "driftNow" "I" ∈ gtbl) (ha : Is S a 4) (hd : decode cc pc = .ok (.putfield ix, 3)) (kk : j (cW ar (uI S 41 a v)) k n (pc + 3) lv st) : j (cW ar S) k n pc lv (.int v :: .ref a :: st) := by
  obtain ⟨p, l, e, s, m, args, below, meth, c, A, Q, ⟨hx, hb, hml, hown, hts, hK, hA, hX, hXs⟩, rfl⟩ := C
  intro H locs ls hP hD hS hl
  have h0 := cE_4 (ar := ar) ha.2
  obtain ⟨q, hq⟩ := cW_get ha.1 h0
  refine va_put (D := D) (ci := 4) (v := .int v) (ty := .int) (C := RX4) (T := TX4) (N := 11) hx hb hts gX4 tyX4 tyX4_ok nmX4 hown hK hP hD hS q hq rfl 8 (by decide) (hts _ hw) (fun _ h9 => h9) rfl (by decide +kernel) rfl rfl (Nat.le_of_ble_eq_true rfl) hd (fun H locs hP hD1 hS => ?_)
  rw [cW_set (S' := uI S 41 a v) hD ha.1 hq h0 rfl ((cE_4 (S := uI S 41 a v) ha.2).trans (by simp (decide := true) [up2_e, up2_n, va_rf])) (fun b hb => cE_oI hb)] at hP hD1
  exact kk H locs ls hP hD1 hS hl
theorem cgI_42 (C : Cx0 own cc nL D ar X R9 j) (pc : Nat) {ix a : Nat} (hw : Cond.fieldLink own ix "EggHouse" "washedEver" "I" ∈ gtbl) (ha : Is S a 4) (hd : decode cc pc = .ok (.getfield ix, 3)) (kk : j (cW ar S) k n (pc + 3) lv (.int (S.2.2.2.1 42 a) :: st)) : j (cW ar S) k n pc lv (.ref a :: st) := by
  obtain ⟨p, l, e, s, m, args, below, meth, c, A, Q, ⟨hx, hb, hml, hown, hts, hK, hA, hX, hXs⟩, rfl⟩ := C
  intro H locs ls hP hD hS hl
  obtain ⟨q, hq⟩ := cW_get ha.1 (cE_4 (ar := ar) ha.2)
  exact va_get (D := D) (ci := 4) (C := RX4) (T := TX4) (N := 11) hx hb hts gX4 hown hK hP q hq rfl 9 (by decide) (hts _ hw) (fun _ h9 => h9) rfl hd (kk H locs ls hP hD hS hl)
theorem cpI_42 (C : Cx0 own cc nL D ar X R9 j) (pc : Nat) {ix a : Nat} {v : Int32} (hw : Cond.fieldLink own ix "EggHouse" "washedEver" "I" ∈ gtbl) (ha : Is S a 4) (hd : decode cc pc = .ok (.putfield ix, 3)) (kk : j (cW ar (uI S 42 a v)) k n (pc + 3) lv st) : j (cW ar S) k n pc lv (.int v :: .ref a :: st) := by
  obtain ⟨p, l, e, s, m, args, below, meth, c, A, Q, ⟨hx, hb, hml, hown, hts, hK, hA, hX, hXs⟩, rfl⟩ := C
  intro H locs ls hP hD hS hl
  have h0 := cE_4 (ar := ar) ha.2
  obtain ⟨q, hq⟩ := cW_get ha.1 h0
  refine va_put (D := D) (ci := 4) (v := .int v) (ty := .int) (C := RX4) (T := TX4) (N := 11) hx hb hts gX4 tyX4 tyX4_ok nmX4 hown hK hP hD hS q hq rfl 9 (by decide) (hts _ hw) (fun _ h9 => h9) rfl (by decide +kernel) rfl rfl (Nat.le_of_ble_eq_true rfl) hd (fun H locs hP hD1 hS => ?_)
  rw [cW_set (S' := uI S 42 a v) hD ha.1 hq h0 rfl ((cE_4 (S := uI S 42 a v) ha.2).trans (by simp (decide := true) [up2_e, up2_n, va_rf])) (fun b hb => cE_oI hb)] at hP hD1
  exact kk H locs ls hP hD1 hS hl
theorem cgJ (C : Cx0 own cc nL D ar X R9 j) (pc : Nat) {ix a : Nat} (hw : Cond.fieldLink own ix "EggHouse" "traceSum" "J" ∈ gtbl) (ha : Is S a 4) (hd : decode cc pc = .ok (.getfield ix, 3)) (kk : j (cW ar S) k n (pc + 3) lv (.long (S.2.2.2.2.2.1 a) :: st)) : j (cW ar S) k n pc lv (.ref a :: st) := by
  obtain ⟨p, l, e, s, m, args, below, meth, c, A, Q, ⟨hx, hb, hml, hown, hts, hK, hA, hX, hXs⟩, rfl⟩ := C
  intro H locs ls hP hD hS hl
  obtain ⟨q, hq⟩ := cW_get ha.1 (cE_4 (ar := ar) ha.2)
  exact va_get (D := D) (ci := 4) (C := RX4) (T := TX4) (N := 11) hx hb hts gX4 hown hK hP q hq rfl 10 (by decide) (hts _ hw) (fun _ h9 => h9) rfl hd (kk H locs ls hP hD hS hl)
theorem cpJ (C : Cx0 own cc nL D ar X R9 j) (pc : Nat) {ix a : Nat} {v : Int64} (hw : Cond.fieldLink own ix "EggHouse" "traceSum" "J" ∈ gtbl) (ha : Is S a 4) (hd : decode cc pc = .ok (.putfield ix, 3)) (kk : j (cW ar (uJ S a v)) k n (pc + 3) lv st) : j (cW ar S) k n pc lv (.long v :: .ref a :: st) := by
  obtain ⟨p, l, e, s, m, args, below, meth, c, A, Q, ⟨hx, hb, hml, hown, hts, hK, hA, hX, hXs⟩, rfl⟩ := C
  intro H locs ls hP hD hS hl
  have h0 := cE_4 (ar := ar) ha.2
  obtain ⟨q, hq⟩ := cW_get ha.1 h0
  refine va_put (D := D) (ci := 4) (v := .long v) (ty := .long) (C := RX4) (T := TX4) (N := 11) hx hb hts gX4 tyX4 tyX4_ok nmX4 hown hK hP hD hS q hq rfl 10 (by decide) (hts _ hw) (fun _ h9 => h9) rfl (by decide +kernel) rfl rfl (Nat.le_of_ble_eq_true rfl) hd (fun H locs hP hD1 hS => ?_)
  rw [cW_set (S' := uJ S a v) hD ha.1 hq h0 rfl ((cE_4 (S := uJ S a v) ha.2).trans (by simp (decide := true) [va_up_self, va_up, va_rf])) (fun b hb => cE_oJ hb)] at hP hD1
  exact kk H locs ls hP hD1 hS hl
theorem cgI_50 (C : Cx0 own cc nL D ar X R9 j) (pc : Nat) {ix a : Nat} {ref : String} (hsm : ref = "java/util/AbstractList" ∨ ref = "java/util/ArrayList") (hw : Cond.fieldLink own ix ref "modCount" "I" ∈ gtbl) (ha : Is S a 6) (hd : decode cc pc = .ok (.getfield ix, 3)) (kk : j (cW ar S) k n (pc + 3) lv (.int (S.2.2.2.1 50 a) :: st)) : j (cW ar S) k n pc lv (.ref a :: st) := by
  obtain ⟨p, l, e, s, m, args, below, meth, c, A, Q, ⟨hx, hb, hml, hown, hts, hK, hA, hX, hXs⟩, rfl⟩ := C
  intro H locs ls hP hD hS hl
  obtain ⟨q, hq⟩ := cW_get ha.1 (cE_6 (ar := ar) ha.2)
  exact va_get (D := D) (ci := 6) (C := RJx4a65c) (T := TJx4a65c) (N := 3) hx hb hts gJx4a65c hown hK hP q hq rfl 0 (by decide) (hts _ hw) (by rcases hsm with rfl | rfl; exact fun _ h9 => h9; exact fun x9 h9 => u_same (hts _ sf_modCount) x9 h9) rfl hd (kk H locs ls hP hD hS hl)
theorem cpI_50 (C : Cx0 own cc nL D ar X R9 j) (pc : Nat) {ix a : Nat} {ref : String} (hsm : ref = "java/util/AbstractList" ∨ ref = "java/util/ArrayList") {v : Int32} (hw : Cond.fieldLink own ix ref "modCount" "I" ∈ gtbl) (ha : Is S a 6) (hd : decode cc pc = .ok (.putfield ix, 3)) (kk : j (cW ar (uI S 50 a v)) k n (pc + 3) lv st) : j (cW ar S) k n pc lv (.int v :: .ref a :: st) := by
  obtain ⟨p, l, e, s, m, args, below, meth, c, A, Q, ⟨hx, hb, hml, hown, hts, hK, hA, hX, hXs⟩, rfl⟩ := C
  intro H locs ls hP hD hS hl
  have h0 := cE_6 (ar := ar) ha.2
  obtain ⟨q, hq⟩ := cW_get ha.1 h0
  refine va_put (D := D) (ci := 6) (v := .int v) (ty := .int) (C := RJx4a65c) (T := TJx4a65c) (N := 3) hx hb hts gJx4a65c tyJx4a65c tyJx4a65c_ok nmJx4a65c hown hK hP hD hS q hq rfl 0 (by decide) (hts _ hw) (by rcases hsm with rfl | rfl; exact fun _ h9 => h9; exact fun x9 h9 => u_same (hts _ sf_modCount) x9 h9) rfl (by decide +kernel) rfl rfl (Nat.le_of_ble_eq_true rfl) hd (fun H locs hP hD1 hS => ?_)
  rw [cW_set (S' := uI S 50 a v) hD ha.1 hq h0 rfl ((cE_6 (S := uI S 50 a v) ha.2).trans (by simp (decide := true) [up2_e, up2_n, va_rf])) (fun b hb => cE_oI hb)] at hP hD1
  exact kk H locs ls hP hD1 hS hl
theorem cgR_8 (C : Cx0 own cc nL D ar X R9 j) (pc : Nat) {ix a : Nat} {v : Nat} (hv : S.2.2.2.2.1 8 a = some v) (hw : Cond.fieldLink own ix "java/util/ArrayList" "elementData" "[Ljava/lang/Object;" ∈ gtbl) (ha : Is S a 6) (hd : decode cc pc = .ok (.getfield ix, 3)) (kk : j (cW ar S) k n (pc + 3) lv (.ref v :: st)) : j (cW ar S) k n pc lv (.ref a :: st) := by
  obtain ⟨p, l, e, s, m, args, below, meth, c, A, Q, ⟨hx, hb, hml, hown, hts, hK, hA, hX, hXs⟩, rfl⟩ := C
  intro H locs ls hP hD hS hl
  obtain ⟨q, hq⟩ := cW_get ha.1 (cE_6 (ar := ar) ha.2)
  exact va_get (D := D) (ci := 6) (C := RJx4a65c) (T := TJx4a65c) (N := 3) hx hb hts gJx4a65c hown hK hP q hq rfl 1 (by decide) (hts _ hw) (fun _ h9 => h9) (by show some (va_rf (S.2.2.2.2.1 8 a)) = _; rw [hv]; rfl) hd (kk H locs ls hP hD hS hl)
theorem cpR_8 (C : Cx0 own cc nL D ar X R9 j) (pc : Nat) {ix a : Nat} {v : Nat} (hw : Cond.fieldLink own ix "java/util/ArrayList" "elementData" "[Ljava/lang/Object;" ∈ gtbl) (ha : Is S a 6) (hd : decode cc pc = .ok (.putfield ix, 3)) (kk : j (cW ar (uR S 8 a (some v))) k n (pc + 3) lv st) : j (cW ar S) k n pc lv (.ref v :: .ref a :: st) := by
  obtain ⟨p, l, e, s, m, args, below, meth, c, A, Q, ⟨hx, hb, hml, hown, hts, hK, hA, hX, hXs⟩, rfl⟩ := C
  intro H locs ls hP hD hS hl
  have h0 := cE_6 (ar := ar) ha.2
  obtain ⟨q, hq⟩ := cW_get ha.1 h0
  refine va_put (D := D) (ci := 6) (v := .ref v) (ty := .array (.object "java/lang/Object")) (C := RJx4a65c) (T := TJx4a65c) (N := 3) hx hb hts gJx4a65c tyJx4a65c tyJx4a65c_ok nmJx4a65c hown hK hP hD hS q hq rfl 1 (by decide) (hts _ hw) (fun _ h9 => h9) rfl (by decide +kernel) rfl rfl (Nat.le_of_ble_eq_true rfl) hd (fun H locs hP hD1 hS => ?_)
  rw [cW_set (S' := uR S 8 a (some v)) hD ha.1 hq h0 rfl ((cE_6 (S := uR S 8 a (some v)) ha.2).trans (by simp (decide := true) [upr_e, upr_n, va_rf])) (fun b hb => cE_oR hb)] at hP hD1
  exact kk H locs ls hP hD1 hS hl
theorem cgI_51 (C : Cx0 own cc nL D ar X R9 j) (pc : Nat) {ix a : Nat} (hw : Cond.fieldLink own ix "java/util/ArrayList" "size" "I" ∈ gtbl) (ha : Is S a 6) (hd : decode cc pc = .ok (.getfield ix, 3)) (kk : j (cW ar S) k n (pc + 3) lv (.int (S.2.2.2.1 51 a) :: st)) : j (cW ar S) k n pc lv (.ref a :: st) := by
  obtain ⟨p, l, e, s, m, args, below, meth, c, A, Q, ⟨hx, hb, hml, hown, hts, hK, hA, hX, hXs⟩, rfl⟩ := C
  intro H locs ls hP hD hS hl
  obtain ⟨q, hq⟩ := cW_get ha.1 (cE_6 (ar := ar) ha.2)
  exact va_get (D := D) (ci := 6) (C := RJx4a65c) (T := TJx4a65c) (N := 3) hx hb hts gJx4a65c hown hK hP q hq rfl 2 (by decide) (hts _ hw) (fun _ h9 => h9) rfl hd (kk H locs ls hP hD hS hl)
theorem cpI_51 (C : Cx0 own cc nL D ar X R9 j) (pc : Nat) {ix a : Nat} {v : Int32} (hw : Cond.fieldLink own ix "java/util/ArrayList" "size" "I" ∈ gtbl) (ha : Is S a 6) (hd : decode cc pc = .ok (.putfield ix, 3)) (kk : j (cW ar (uI S 51 a v)) k n (pc + 3) lv st) : j (cW ar S) k n pc lv (.int v :: .ref a :: st) := by
  obtain ⟨p, l, e, s, m, args, below, meth, c, A, Q, ⟨hx, hb, hml, hown, hts, hK, hA, hX, hXs⟩, rfl⟩ := C
  intro H locs ls hP hD hS hl
  have h0 := cE_6 (ar := ar) ha.2
  obtain ⟨q, hq⟩ := cW_get ha.1 h0
  refine va_put (D := D) (ci := 6) (v := .int v) (ty := .int) (C := RJx4a65c) (T := TJx4a65c) (N := 3) hx hb hts gJx4a65c tyJx4a65c tyJx4a65c_ok nmJx4a65c hown hK hP hD hS q hq rfl 2 (by decide) (hts _ hw) (fun _ h9 => h9) rfl (by decide +kernel) rfl rfl (Nat.le_of_ble_eq_true rfl) hd (fun H locs hP hD1 hS => ?_)
  rw [cW_set (S' := uI S 51 a v) hD ha.1 hq h0 rfl ((cE_6 (S := uI S 51 a v) ha.2).trans (by simp (decide := true) [up2_e, up2_n, va_rf])) (fun b hb => cE_oI hb)] at hP hD1
  exact kk H locs ls hP hD1 hS hl
end CR
end
section
/-! the class: what of the start its methods use (statics, links in a nest, castable), its arrays, new, calls -/
def va_AOA (ty : FieldType) (U : State) : Prop := (Cond.arrayOver (.array ty)).before #[] U = true
theorem va_AOA.use {ty : FieldType} {A : Array Value} {U : State} (h : va_AOA ty U) : (Cond.arrayOver (.array ty)).before A U = true := h
theorem va_AOA.spec {ty : FieldType} {s : State} (h : va_AOA ty s) : ∃ comp c k, s.vm.findClass (FieldType.array ty).toString = some comp ∧ (s.vm.classes.findIdx? fun x => match x.kind with | .array component _ => component == comp | _ => false) = some c ∧ s.vm.classes[c]? = some k ∧ k.kind = .array comp (.array ty) ∧ s.vm.findClass ("[" ++ (FieldType.array ty).toString) = some c := by
  unfold va_AOA Cond.before at h
  simp only [Cond.holds, Cond.value, beq_iff_eq] at h
  cases hc : s.vm.findClass (FieldType.array ty).toString with
  | none => simp [hc] at h
  | some comp =>
    simp only [hc, Option.bind_some, Option.bind_eq_some_iff, Option.map_eq_some_iff] at h
    obtain ⟨c, hi, k, hk, hb⟩ := h
    obtain ⟨hlt, hp, -⟩ := Array.findIdx?_eq_some_iff_getElem.mp hi
    have hkk : s.vm.classes[c] = k := (Array.getElem?_eq_some_iff.mp hk).2
    rw [hkk] at hp
    cases hkind : k.kind with
    | array component ty2 =>
      rw [hkind] at hb hp
      simp at hb hp
      exact ⟨comp, c, k, rfl, hi, hk, by rw [hkind, hp, hb.1], hb.2⟩
    | _ => rw [hkind] at hb; simp at hb
theorem va_AOA.moved {ty : FieldType} {u U : State} (hvm : u.vm.Alike U.vm) (h : va_AOA ty u) : va_AOA ty U := by
  obtain ⟨comp, c, k, h1, h2, h3, h4, h5⟩ := va_AOA.spec h
  obtain ⟨k', hk', he⟩ := hvm.2.2 _ _ h3
  have hi : (U.vm.classes.findIdx? fun (x : Class) => match x.kind with | .array component _ => component == comp | _ => false) = some c := by
    have e1 := (va_idx_bare U.vm comp).symm
    have hbe : U.vm.bare = u.vm.bare := by first | exact hvm.bare_eq | exact hvm.bare_eq.symm
    rw [hbe] at e1
    exact (e1.trans (va_idx_bare u.vm comp)).trans h2
  have hkind : k'.kind = .array comp (.array ty) := by rw [he]; exact h4
  have f1 : U.vm.findClass (FieldType.array ty).toString = some comp := by rw [hvm.findClass]; exact h1
  have f2 : U.vm.findClass ("[" ++ (FieldType.array ty).toString) = some c := by rw [hvm.findClass]; exact h5
  unfold va_AOA Cond.before Cond.holds
  simp only [Cond.value]
  rw [f1, Option.bind_some]
  refine (congrArg (fun o : Option Nat => (o.bind (fun c => (U.vm.classes[c]?).map fun (k : Class) => match k.kind with | .array _ ty2 => decide (ty2 = FieldType.array ty) && decide (U.vm.findClass ("[" ++ (FieldType.array ty).toString) = some c) | _ => false) == some true)) hi).trans ?_
  simp [hk', hkind, f2]
def geN : Nat → Int32
  | 0 => 43
  | 1 => 48
  | 2 => 53
  | 3 => 58
  | _ => 63
def XC (tg te mi : Nat) : XT := fun A U H =>
  (va_Z "EggHouse" "GRADE_ENDS" "[I" (.ref tg) A U H ∧ va_T .int tg 5 (fun j => .int (geN j)) A U H ∧ va_Z "java/util/ArrayList" "DEFAULTCAPACITY_EMPTY_ELEMENTDATA" "[Ljava/lang/Object;" (.ref te) A U H ∧ va_T (.object "java/lang/Object") te 0 (fun _ => .null) A U H) ∧
  (va_Nw (.methodLinkNest RX3 15 yX2_init "EggHouse") U ∧ va_Nw (.methodLinkNest RX4 280 yX2_init "EggHouse") U) ∧ (va_Nw (.castable RX0 "java/lang/Object") U ∧ va_Nw (.castable RX1 "java/lang/Object") U ∧ va_Nw (.castable RX2 "java/lang/Object") U) ∧
  va_AO "EggHouse$Egg" U ∧ va_AO "EggHouse$Packer" U ∧ va_AO "java/lang/Object" U ∧ va_AOA .int U ∧ va_Mi "[Ljava/lang/Object;" mi U ∧ va_Dc U
theorem xz_lt {C n d : String} {v : Value} {A B : Nat → Prop} {U : State} {H : Heap} (hAB : ∀ q : Nat, q < H.size → B q → A q) (h : va_Z C n d v A U H) : va_Z C n d v B U H := by
  obtain ⟨cf, kf, fi, f, a, cell, h1, h2, h3, h4, h5, h6, h7, h8⟩ := h
  exact ⟨cf, kf, fi, f, a, cell, h1, h2, h3, h4, h5, h6, h7, fun z => h8 (hAB a (Array.getElem?_eq_some_iff.mp h5).1 z)⟩
theorem xt_lt {ty : FieldType} {t N : Nat} {f : Nat → Value} {A B : Nat → Prop} {U : State} {H : Heap} (hAB : ∀ q : Nat, q < H.size → B q → A q) (h : va_T ty t N f A U H) : va_T ty t N f B U H := by
  obtain ⟨cell, h1, h2, h3, h4, h5, h6, h7⟩ := h
  exact ⟨cell, h1, h2, h3, h4, h5, h6, fun z => h7 (hAB t (Array.getElem?_eq_some_iff.mp h1).1 z)⟩
theorem XC_ok {tg te mi : Nat} : Xok (XC tg te mi) := by
  refine ⟨fun A U V H e h => ?_, fun A U V H hW h => ?_, fun A U H H1 hz hk h => ?_, fun A B U H hAB h => ?_⟩
  · have al : U.vm.Alike V.vm := by rw [e]; exact Vm.Alike.refl _
    obtain ⟨⟨a1, a2, a3, a4⟩, ⟨b1, b2⟩, ⟨c1, c2, c3⟩, d1, d2, d3, d4, d5, d6⟩ := h
    exact ⟨⟨a1.moved al, a2.moved al, a3.moved al, a4.moved al⟩, ⟨va_Nw.same rfl e b1, va_Nw.same rfl e b2⟩, ⟨va_Nw.same rfl e c1, va_Nw.same rfl e c2, va_Nw.same rfl e c3⟩, d1.moved al, d2.moved al, d3.moved al, d4.moved al, d5.moved al, d6.moved al⟩
  · have al : U.vm.Alike V.vm := hW.alike
    obtain ⟨⟨a1, a2, a3, a4⟩, ⟨b1, b2⟩, ⟨c1, c2, c3⟩, d1, d2, d3, d4, d5, d6⟩ := h
    exact ⟨⟨a1.moved al, a2.moved al, a3.moved al, a4.moved al⟩, ⟨va_Nw.warmM hW b1, va_Nw.warmM hW b2⟩, ⟨va_Nw.warmC hW c1, va_Nw.warmC hW c2, va_Nw.warmC hW c3⟩, d1.moved al, d2.moved al, d3.moved al, d4.moved al, d5.moved al, d6.moved al⟩
  · obtain ⟨⟨a1, a2, a3, a4⟩, b, c, d⟩ := h
    exact ⟨⟨a1.kept hk, a2.kept hk, a3.kept hk, a4.kept hk⟩, b, c, d⟩
  · obtain ⟨⟨a1, a2, a3, a4⟩, b, c, d⟩ := h
    exact ⟨⟨xz_lt hAB a1, xt_lt hAB a2, xz_lt hAB a3, xt_lt hAB a4⟩, b, c, d⟩
section CA
variable {own : String} {cc : ByteArray} {nL : Nat} {D : va_G} {ar : Nat → ClassId} {tg te mi : Nat} {X : XT} {R : Room} {j : jT}
variable {S : CS} {k n : Nat} {lv : List (Nat × Value)} {st : List Value}
theorem Is.new {S : CS} {q kd : Nat} : Is (nO S q kd) q kd := ⟨List.mem_append_right _ (List.mem_singleton.mpr rfl), va_up_self _ _ _⟩
theorem Is.newA {S : CS} {q kd n : Nat} : Is (nA S q kd n) q kd := ⟨List.mem_append_right _ (List.mem_singleton.mpr rfl), va_up_self _ _ _⟩
theorem Is.ne {S : CS} {a q kd : Nat} (h : Is S a kd) (hq : q ∉ S.1) : a ≠ q := fun e => hq (e ▸ h.1)
theorem Is.old {S : CS} {a q kd kd2 : Nat} (h : Is S a kd) (hq : q ∉ S.1) : Is (nO S q kd2) a kd := ⟨List.mem_append_left _ h.1, (va_up_ne _ _ (h.ne hq)).trans h.2⟩
theorem Is.oldA {S : CS} {a q kd kd2 n : Nat} (h : Is S a kd) (hq : q ∉ S.1) : Is (nA S q kd2 n) a kd := ⟨List.mem_append_left _ h.1, (va_up_ne _ _ (h.ne hq)).trans h.2⟩
/-- arrays of numbers -/
theorem ca_ild (C : Cx0 own cc nL D ar X R j) (pc x : Nat) {a : Nat} {i : Int32} (ha : Is S a 7) (hi : i = nI x) (hlt : x < S.2.2.1 a) (hN : S.2.2.1 a < 2 ^ 31) (hd : decode cc pc = .ok (.iaload, 1)) (kk : j (cW ar S) k n (pc + 1) lv (.int (S.2.2.2.2.2.2.1 a x) :: st)) : j (cW ar S) k n pc lv (.int i :: .ref a :: st) := by
  obtain ⟨p, l, e, s, m, args, below, meth, c, A, Q, ⟨hx, hb, hml, hown, hts, hK, hA, hX, hXs⟩, rfl⟩ := C
  intro H locs ls hP hD hS hl
  obtain ⟨h8, h9⟩ := nI_vp hi hlt hN
  obtain ⟨q, hq⟩ := cW_get ha.1 (cE_7 (ar := ar) ha.2)
  refine va_iald hx hb hK hP q 0 hq rfl h8 hd ?_
  rw [h9]
  exact kk H locs ls hP hD hS hl
theorem ca_ist (C : Cx0 own cc nL D ar X R j) (pc x : Nat) {a : Nat} {i v : Int32} (ha : Is S a 7) (hi : i = nI x) (hlt : x < S.2.2.1 a) (hN : S.2.2.1 a < 2 ^ 31) (hd : decode cc pc = .ok (.iastore, 1)) (kk : j (cW ar (uA S a x v)) k n (pc + 1) lv st) : j (cW ar S) k n pc lv (.int v :: .int i :: .ref a :: st) := by
  obtain ⟨p, l, e, s, m, args, below, meth, c, A, Q, ⟨hx, hb, hml, hown, hts, hK, hA, hX, hXs⟩, rfl⟩ := C
  intro H locs ls hP hD hS hl
  obtain ⟨h8, h9⟩ := nI_vp hi hlt hN
  have h0 := cE_7 (ar := ar) ha.2
  obtain ⟨q, hq⟩ := cW_get ha.1 h0
  refine va_iast hx hb hK hP hD hS q 0 hq rfl h8 hd (fun H locs hP hD1 hS => ?_)
  rw [h9, cW_set (S' := uA S a x v) hD ha.1 hq h0 rfl ((cE_7 (S := uA S a x v) ha.2).trans (by simp [up2_s])) (fun b hb => cE_oA hb)] at hP hD1
  exact kk H locs ls hP hD1 hS hl
theorem ca_len (C : Cx0 own cc nL D ar X R j) (pc : Nat) {a kd : Nat} (hkd : kd = 7 ∨ kd = 8 ∨ kd = 9 ∨ kd = 10 ∨ kd = 11) (ha : Is S a kd) (hd : decode cc pc = .ok (.arraylength, 1)) (kk : j (cW ar S) k n (pc + 1) lv (.int (nI (S.2.2.1 a)) :: st)) : j (cW ar S) k n pc lv (.ref a :: st) := by
  obtain ⟨p, l, e, s, m, args, below, meth, c, A, Q, ⟨hx, hb, hml, hown, hts, hK, hA, hX, hXs⟩, rfl⟩ := C
  intro H locs ls hP hD hS hl
  rcases hkd with rfl | rfl | rfl | rfl | rfl
  · obtain ⟨q, hq⟩ := cW_get ha.1 (cE_7 (ar := ar) ha.2)
    exact va_alen hx hb hK hP q 0 hq rfl rfl hd (kk H locs ls hP hD hS hl)
  · obtain ⟨q, hq⟩ := cW_get ha.1 (cE_8 (ar := ar) ha.2)
    exact va_alen hx hb hK hP q 2 hq rfl rfl hd (kk H locs ls hP hD hS hl)
  · obtain ⟨q, hq⟩ := cW_get ha.1 (cE_9 (ar := ar) ha.2)
    exact va_alen hx hb hK hP q 3 hq rfl rfl hd (kk H locs ls hP hD hS hl)
  · obtain ⟨q, hq⟩ := cW_get ha.1 (cE_10 (ar := ar) ha.2)
    exact va_alen hx hb hK hP q 4 hq rfl rfl hd (kk H locs ls hP hD hS hl)
  · obtain ⟨q, hq⟩ := cW_get ha.1 (cE_11 (ar := ar) ha.2)
    exact va_alen hx hb hK hP q 5 hq rfl rfl hd (kk H locs ls hP hD hS hl)
/-- arrays of references: what stands at a place -/
theorem ca_ald (C : Cx0 own cc nL D ar X R j) (pc x : Nat) {a kd : Nat} {i : Int32} {v : Option Nat} (hkd : kd = 8 ∨ kd = 9 ∨ kd = 10 ∨ kd = 11) (ha : Is S a kd) (hi : i = nI x) (hlt : x < S.2.2.1 a) (hN : S.2.2.1 a < 2 ^ 31) (hv : S.2.2.2.2.2.2.2 a x = v) (hd : decode cc pc = .ok (.aaload, 1)) (kk : j (cW ar S) k n (pc + 1) lv (va_rf v :: st)) : j (cW ar S) k n pc lv (.int i :: .ref a :: st) := by
  obtain ⟨p, l, e, s, m, args, below, meth, c, A, Q, ⟨hx, hb, hml, hown, hts, hK, hA, hX, hXs⟩, rfl⟩ := C
  intro H locs ls hP hD hS hl
  obtain ⟨h8, h9⟩ := nI_vp hi hlt hN
  subst hv
  rcases hkd with rfl | rfl | rfl | rfl
  · obtain ⟨q, hq⟩ := cW_get ha.1 (cE_8 (ar := ar) ha.2)
    refine va_aldq hx hb hK hP q 2 hq rfl h8 hd ?_
    rw [h9]
    exact kk H locs ls hP hD hS hl
  · obtain ⟨q, hq⟩ := cW_get ha.1 (cE_9 (ar := ar) ha.2)
    refine va_aldq hx hb hK hP q 3 hq rfl h8 hd ?_
    rw [h9]
    exact kk H locs ls hP hD hS hl
  · obtain ⟨q, hq⟩ := cW_get ha.1 (cE_10 (ar := ar) ha.2)
    refine va_aldq hx hb hK hP q 4 hq rfl h8 hd ?_
    rw [h9]
    exact kk H locs ls hP hD hS hl
  · obtain ⟨q, hq⟩ := cW_get ha.1 (cE_11 (ar := ar) ha.2)
    have hlt9 : i.toNatClampNeg < S.2.2.1 a := Nat.not_le.mp fun q => h8 (Or.inr q)
    refine W.aald (v := va_rf (S.2.2.2.2.2.2.2 a i.toNatClampNeg)) (ty := .array .int) hx hb (hP q _ hq) ((hK.2 5 _ rfl).1 (S.2.2.1 a) (fun j => va_rf (S.2.2.2.2.2.2.2 a j))) rfl (fun q => by cases q) (by show ¬ (i < 0 ∨ (arrV _ _ _).slots.size ≤ _); rw [arrV_size]; exact h8) (by show (arrV _ _ _).slots[_]? = _; rw [arrV_read _ _ hlt9]) rfl rfl hd ?_
    rw [h9]
    exact kk H locs ls hP hD hS hl
/-- line[x] = an egg; packers[x] = a packer -/
theorem ca_astE (C : Cx0 own cc nL D ar X R j) (pc x : Nat) {a v : Nat} {i : Int32} (ha : Is S a 8) (hv : Is S v 0) (hi : i = nI x) (hlt : x < S.2.2.1 a) (hN : S.2.2.1 a < 2 ^ 31) (hd : decode cc pc = .ok (.aastore, 1)) (kk : j (cW ar (uB S a (va_up (S.2.2.2.2.2.2.2 a) x (some v)))) k n (pc + 1) lv st) : j (cW ar S) k n pc lv (.ref v :: .int i :: .ref a :: st) := by
  obtain ⟨p, l, e, s, m, args, below, meth, c, A, Q, ⟨hx, hb, hml, hown, hts, hK, hA, hX, hXs⟩, rfl⟩ := C
  intro H locs ls hP hD hS hl
  obtain ⟨h8, h9⟩ := nI_vp hi hlt hN
  have h0 := cE_8 (ar := ar) ha.2
  obtain ⟨q, hq⟩ := cW_get ha.1 h0
  obtain ⟨q2, hq2⟩ := cW_get hv.1 (cE_0 (ar := ar) hv.2)
  refine va_astq (r := (RX0, TX0, 9)) hx hb hK hP hD hS q 2 q2 0 hq rfl hq2 rfl h8 hd (fun H locs hP hD1 hS => ?_)
  rw [h9, cW_set (S' := uB S a (va_up (S.2.2.2.2.2.2.2 a) x (some v))) hD ha.1 hq h0 rfl ((cE_8 (S := uB S a _) ha.2).trans (by simp [va_up_self])) (fun b hb => cE_oB hb)] at hP hD1
  exact kk H locs ls hP hD1 hS hl
theorem ca_astP (C : Cx0 own cc nL D ar X R j) (pc x : Nat) {a v : Nat} {i : Int32} (ha : Is S a 9) (hv : Is S v 3) (hi : i = nI x) (hlt : x < S.2.2.1 a) (hN : S.2.2.1 a < 2 ^ 31) (hd : decode cc pc = .ok (.aastore, 1)) (kk : j (cW ar (uB S a (va_up (S.2.2.2.2.2.2.2 a) x (some v)))) k n (pc + 1) lv st) : j (cW ar S) k n pc lv (.ref v :: .int i :: .ref a :: st) := by
  obtain ⟨p, l, e, s, m, args, below, meth, c, A, Q, ⟨hx, hb, hml, hown, hts, hK, hA, hX, hXs⟩, rfl⟩ := C
  intro H locs ls hP hD hS hl
  obtain ⟨h8, h9⟩ := nI_vp hi hlt hN
  have h0 := cE_9 (ar := ar) ha.2
  obtain ⟨q, hq⟩ := cW_get ha.1 h0
  obtain ⟨q2, hq2⟩ := cW_get hv.1 (cE_3 (ar := ar) hv.2)
  refine va_astq (r := (RX3, TX3, 5)) hx hb hK hP hD hS q 3 q2 3 hq rfl hq2 rfl h8 hd (fun H locs hP hD1 hS => ?_)
  rw [h9, cW_set (S' := uB S a (va_up (S.2.2.2.2.2.2.2 a) x (some v))) hD ha.1 hq h0 rfl ((cE_9 (S := uB S a _) ha.2).trans (by simp [va_up_self])) (fun b hb => cE_oB hb)] at hP hD1
  exact kk H locs ls hP hD1 hS hl
/-- line[x] = null; a list's place = null -/
theorem ca_astN (C : Cx0 own cc nL D ar X R j) (pc x : Nat) {a kd : Nat} {i : Int32} (hkd : kd = 8 ∨ kd = 10) (ha : Is S a kd) (hi : i = nI x) (hlt : x < S.2.2.1 a) (hN : S.2.2.1 a < 2 ^ 31) (hd : decode cc pc = .ok (.aastore, 1)) (kk : j (cW ar (uB S a (va_up (S.2.2.2.2.2.2.2 a) x none))) k n (pc + 1) lv st) : j (cW ar S) k n pc lv (.null :: .int i :: .ref a :: st) := by
  obtain ⟨p, l, e, s, m, args, below, meth, c, A, Q, ⟨hx, hb, hml, hown, hts, hK, hA, hX, hXs⟩, rfl⟩ := C
  intro H locs ls hP hD hS hl
  obtain ⟨h8, h9⟩ := nI_vp hi hlt hN
  rcases hkd with rfl | rfl
  · have h0 := cE_8 (ar := ar) ha.2
    obtain ⟨q, hq⟩ := cW_get ha.1 h0
    refine va_astqN hx hb hK hP hD hS q 2 hq rfl h8 hd (fun H locs hP hD1 hS => ?_)
    rw [h9, cW_set (S' := uB S a (va_up (S.2.2.2.2.2.2.2 a) x none)) hD ha.1 hq h0 rfl ((cE_8 (S := uB S a _) ha.2).trans (by simp [va_up_self])) (fun b hb => cE_oB hb)] at hP hD1
    exact kk H locs ls hP hD1 hS hl
  · have h0 := cE_10 (ar := ar) ha.2
    obtain ⟨q, hq⟩ := cW_get ha.1 h0
    refine va_astqN hx hb hK hP hD hS q 4 hq rfl h8 hd (fun H locs hP hD1 hS => ?_)
    rw [h9, cW_set (S' := uB S a (va_up (S.2.2.2.2.2.2.2 a) x none)) hD ha.1 hq h0 rfl ((cE_10 (S := uB S a _) ha.2).trans (by simp [va_up_self])) (fun b hb => cE_oB hb)] at hP hD1
    exact kk H locs ls hP hD1 hS hl
/-- an element of a list: an egg, an order, a pack -/
def El (S : CS) (v : Nat) : Prop := Is S v 0 ∨ Is S v 1 ∨ Is S v 2
theorem El.any {s : State} {H : Heap} {A : Nat → Prop} {v : Nat} (h : El S v) (hK : va_K D cls7 (tys6 ar) s) (hP : va_P D cls7 (cW ar S) H) (hXs : XC tg te mi A s s.heap) : va_Any "java/lang/Object" s H v := by
  have key : ∀ {C : String}, va_Nw (.castable C "java/lang/Object") s → ∀ comp c0 : ClassId, s.vm.findClass "java/lang/Object" = some comp → s.vm.findClass C = some c0 → s.vm.assignable c0 comp = true := fun hc comp c0 e1 e2 => by
    obtain ⟨c1, t1, f1, f2, f3⟩ := Cond.castable_spec (va_Nw.use (A := #[]) rfl hc)
    cases f1.symm.trans e2
    cases f2.symm.trans e1
    exact f3
  rcases h with h | h | h
  · obtain ⟨q, hq⟩ := cW_get h.1 (cE_0 (ar := ar) h.2)
    exact va_rAny (r := (RX0, TX0, 9)) hK hP hq rfl (key hXs.2.2.1.1)
  · obtain ⟨q, hq⟩ := cW_get h.1 (cE_1 (ar := ar) h.2)
    exact va_rAny (r := (RX1, TX1, 4)) hK hP hq rfl (key hXs.2.2.1.2.1)
  · obtain ⟨q, hq⟩ := cW_get h.1 (cE_2 (ar := ar) h.2)
    exact va_rAny (r := (RX2, TX2, 9)) hK hP hq rfl (key hXs.2.2.1.2.2)
theorem ca_astO (C : Cx0 own cc nL D ar (XC tg te mi) R j) (pc x : Nat) {a v : Nat} {i : Int32} (ha : Is S a 10) (hv : El S v) (hi : i = nI x) (hlt : x < S.2.2.1 a) (hN : S.2.2.1 a < 2 ^ 31) (hd : decode cc pc = .ok (.aastore, 1)) (kk : j (cW ar (uB S a (va_up (S.2.2.2.2.2.2.2 a) x (some v)))) k n (pc + 1) lv st) : j (cW ar S) k n pc lv (.ref v :: .int i :: .ref a :: st) := by
  obtain ⟨p, l, e, s, m, args, below, meth, c, A, Q, ⟨hx, hb, hml, hown, hts, hK, hA, hX, hXs⟩, rfl⟩ := C
  intro H locs ls hP hD hS hl
  obtain ⟨h8, h9⟩ := nI_vp hi hlt hN
  have h0 := cE_10 (ar := ar) ha.2
  obtain ⟨q, hq⟩ := cW_get ha.1 h0
  refine va_astqM hx hb hK hP hD hS q 4 hq rfl (hv.any hK hP hXs) h8 hd (fun H locs hP hD1 hS => ?_)
  rw [h9, cW_set (S' := uB S a (va_up (S.2.2.2.2.2.2.2 a) x (some v))) hD ha.1 hq h0 rfl ((cE_10 (S := uB S a _) ha.2).trans (by simp [va_up_self])) (fun b hb => cE_oB hb)] at hP hD1
  exact kk H locs ls hP hD1 hS hl
/-- new Object[N] -/
theorem ca_newO (C : Cx0 own cc nL D ar (XC tg te mi) R j) (pc N' : Nat) {ix : Nat} {i : Int32} (hw : Cond.classLink own ix "java/lang/Object" ∈ gtbl) (hi : i = nI N') (hN : N' < 2 ^ 20) (hc : k + 1 ≤ R.cells) (hs : n + N' ≤ R.slots) (hd : decode cc pc = .ok (.anewarray ix, 3)) (kk : ∀ q, q ∉ S.1 → j (cW ar (nA S q 10 N')) (k + 1) (n + N') (pc + 3) lv (.ref q :: st)) : j (cW ar S) k n pc lv (.int i :: st) := by
  obtain ⟨p, l, e, s, m, args, below, meth, c, A, Q, ⟨hx, hb, hml, hown, hts, hK, hA, hX, hXs⟩, rfl⟩ := C
  intro H locs ls hP hD hS hl
  subst hi
  refine va_newq (C := "java/lang/Object") hx hb hown (hts _ hw) hXs.2.2.2.2.2.1 hK hP hD hS hA (nI_pos (by omega)) (nI_clamp (by omega)) (by omega) hc hs hd (fun q cA H1 hK1 hP1 hD1 hS1 => ?_)
  have hq := cW_fresh hD1
  have e1 : cA = ar 4 := by
    have r1 := (hK1.2 6 _ rfl).2
    have r2 := (hK.2 4 _ rfl).2
    obtain ⟨-, -, -, -, -, f1⟩ := r1
    obtain ⟨-, -, -, -, -, f2⟩ := r2
    exact Option.some.inj (f1.symm.trans f2)
  subst e1
  rw [cW_push (S' := nA S q 10 N') hq rfl ((cE_10 (va_up_self _ _ _)).trans (by simp [va_up_self])) (fun b hb => cE_oN hb)] at hP1 hD1
  exact kk q hq H1 locs ls hP1 hD1 hS1 hl
theorem ca_newI (C : Cx0 own cc nL D ar X R j) (pc N' : Nat) {i : Int32} (hi : i = nI N') (hN : N' < 2 ^ 20) (hc : k + 1 ≤ R.cells) (hs : n + N' ≤ R.slots) (hd : decode cc pc = .ok (.newarray .int, 2)) (kk : ∀ q, q ∉ S.1 → j (cW ar (nA S q 7 N')) (k + 1) (n + N') (pc + 2) lv (.ref q :: st)) : j (cW ar S) k n pc lv (.int i :: st) := by
  obtain ⟨p, l, e, s, m, args, below, meth, c, A, Q, ⟨hx, hb, hml, hown, hts, hK, hA, hX, hXs⟩, rfl⟩ := C
  intro H locs ls hP hD hS hl
  subst hi
  refine va_newa (atype := .int) (a0 := (N', .inl (fun _ => 0))) hx hb (hts _ ac_I) rfl hK hP hD hS hA (fun cA => rfl) (nI_pos (by omega)) (nI_clamp (by omega)) (by show N' * 4 ≤ _; omega) hc hs hd (fun q cA H1 hK1 hP1 hD1 hS1 => ?_)
  have hq := cW_fresh hD1
  have e1 : cA = ar 0 := by
    have r1 := (hK1.2 6 _ rfl).2
    have r2 := (hK.2 0 _ rfl).2
    exact Option.some.inj (r1.symm.trans r2)
  subst e1
  rw [cW_push (S' := nA S q 7 N') hq rfl ((cE_7 (va_up_self _ _ _)).trans (by simp [va_up_self])) (fun b hb => cE_oN hb)] at hP1 hD1
  exact kk q hq H1 locs ls hP1 hD1 hS1 hl
/-- the two statics -/
theorem ca_ge (C : Cx0 own cc nL D ar (XC tg te mi) R j) (pc : Nat) {ix : Nat} (hw : Cond.fieldLink own ix "EggHouse" "GRADE_ENDS" "[I" ∈ gtbl) (hd : decode cc pc = .ok (.getstatic ix, 3)) {ws : va_W} (kk : j ws k n (pc + 3) lv (.ref tg :: st)) : j ws k n pc lv st := by
  obtain ⟨p, l, e, s, m, args, below, meth, c, A, Q, ⟨hx, hb, hml, hown, hts, hK, hA, hX, hXs⟩, rfl⟩ := C
  intro H locs ls hP hD hS hl
  exact va_gets hx hb hXs.1.1 hS hown (hts _ hw) (fun _ h => h) hd (kk H locs ls hP hD hS hl)
theorem ca_gel (C : Cx0 own cc nL D ar (XC tg te mi) R j) (pc : Nat) {ws : va_W} (hd : decode cc pc = .ok (.arraylength, 1)) (kk : j ws k n (pc + 1) lv (.int 5 :: st)) : j ws k n pc lv (.ref tg :: st) := by
  obtain ⟨p, l, e, s, m, args, below, meth, c, A, Q, ⟨hx, hb, hml, hown, hts, hK, hA, hX, hXs⟩, rfl⟩ := C
  intro H locs ls hP hD hS hl
  exact va_tlen hx hb hXs.1.2.1 hS rfl hd (kk H locs ls hP hD hS hl)
theorem ca_gei (C : Cx0 own cc nL D ar (XC tg te mi) R j) (pc x : Nat) {i : Int32} {ws : va_W} (hi : i = nI x) (hlt : x < 5) (hd : decode cc pc = .ok (.iaload, 1)) (kk : j ws k n (pc + 1) lv (.int (geN x) :: st)) : j ws k n pc lv (.int i :: .ref tg :: st) := by
  obtain ⟨p, l, e, s, m, args, below, meth, c, A, Q, ⟨hx, hb, hml, hown, hts, hK, hA, hX, hXs⟩, rfl⟩ := C
  intro H locs ls hP hD hS hl
  obtain ⟨h8, h9⟩ := nI_vp hi hlt (by decide)
  exact va_ti hx hb hXs.1.2.1 hS h8 (by show Value.int (geN i.toNatClampNeg) = _; rw [h9]) hd (kk H locs ls hP hD hS hl)
theorem ca_em (C : Cx0 own cc nL D ar (XC tg te mi) R j) (pc : Nat) {ix : Nat} (hw : Cond.fieldLink own ix "java/util/ArrayList" "DEFAULTCAPACITY_EMPTY_ELEMENTDATA" "[Ljava/lang/Object;" ∈ gtbl) (hd : decode cc pc = .ok (.getstatic ix, 3)) {ws : va_W} (kk : j ws k n (pc + 3) lv (.ref te :: st)) : j ws k n pc lv st := by
  obtain ⟨p, l, e, s, m, args, below, meth, c, A, Q, ⟨hx, hb, hml, hown, hts, hK, hA, hX, hXs⟩, rfl⟩ := C
  intro H locs ls hP hD hS hl
  exact va_gets hx hb hXs.1.2.2.1 hS hown (hts _ hw) (fun _ h => h) hd (kk H locs ls hP hD hS hl)
theorem ca_eml (C : Cx0 own cc nL D ar (XC tg te mi) R j) (pc : Nat) {ws : va_W} (hd : decode cc pc = .ok (.arraylength, 1)) (kk : j ws k n (pc + 1) lv (.int 0 :: st)) : j ws k n pc lv (.ref te :: st) := by
  obtain ⟨p, l, e, s, m, args, below, meth, c, A, Q, ⟨hx, hb, hml, hown, hts, hK, hA, hX, hXs⟩, rfl⟩ := C
  intro H locs ls hP hD hS hl
  exact va_tlen hx hb hXs.1.2.2.2 hS rfl hd (kk H locs ls hP hD hS hl)
/-- the empty array isn't one of ours -/
theorem ca_teN (C : Cx0 own cc nL D ar (XC tg te mi) R j) {pc : Nat} (kk : te ∉ S.1 → j (cW ar S) k n pc lv st) : j (cW ar S) k n pc lv st := by
  obtain ⟨p, l, e, s, m, args, below, meth, c, A, Q, ⟨hx, hb, hml, hown, hts, hK, hA, hX, hXs⟩, rfl⟩ := C
  intro H locs ls hP hD hS hl
  refine kk (fun hm => ?_) H locs ls hP hD hS hl
  obtain ⟨q, hq⟩ := cW_get (ar := ar) hm rfl
  exact hXs.1.2.2.2.out (hD.2 q _ hq)
end CA
end
section
/-! the class: new, calls, casts, the library's natives -/
theorem cE_inr {ar : Nat → ClassId} {S : CS} {a kd : Nat} (hk : kd = 0 ∨ kd = 1 ∨ kd = 2 ∨ kd = 3 ∨ kd = 4 ∨ kd = 6) (h : S.2.1 a = kd) : ∃ fs, cE ar S a = .inr (kd, fs) := by
  rcases hk with rfl | rfl | rfl | rfl | rfl | rfl
  · exact ⟨_, cE_0 h⟩
  · exact ⟨_, cE_1 h⟩
  · exact ⟨_, cE_2 h⟩
  · exact ⟨_, cE_3 h⟩
  · exact ⟨_, cE_4 h⟩
  · exact ⟨_, cE_6 h⟩
section CC
variable {own : String} {cc : ByteArray} {nL : Nat} {D : va_G} {ar : Nat → ClassId} {tg te mi : Nat} {X : XT} {R : Room} {j : jT}
variable {S : CS} {k n : Nat} {lv : List (Nat × Value)} {st rest : List Value}
variable {y : MethodName} {bytes : ByteArray} {maxL fr lo mc ms index : Nat} {ret : Option FieldType} {As : List Value} {Ret : Option Value → va_W → Prop} {b : Nat}
theorem c_call (C : Cx0 own cc nL D ar X R j) (pc np : Nat) {kd : Nat} {CC : String} {T9 : u_T} {N9 : Nat} (hM : Cn D ar X y bytes maxL ret fr lo mc ms (.ref b :: As) (cW ar S) Ret) (hR : Rm R k n y bytes maxL ret fr lo mc ms np) (hl1 : Cond.methodLink own index y ∈ gtbl) (hl2 : Cond.instanceMethod y ∈ gtbl) (hl3 : Cond.selects CC y y ∈ gtbl)
    (hk : kd = 0 ∨ kd = 1 ∨ kd = 2 ∨ kd = 3 ∨ kd = 4 ∨ kd = 6) (hc : cls7[kd]? = some (CC, T9, N9)) (hb0 : Is S b kd) (hn : As.length = np) (hr : (rest.map fun v => v.category).sum ≤ 8) (hd : decode cc pc = .ok (.invokevirtual index, 3))
    (kk : ∀ (r : Option Value) (wc' : va_W), Ret r wc' → j wc' (k + mc) (n + ms) (pc + 3) lv (r.toList ++ rest)) : j (cW ar S) k n pc lv (As.reverse ++ .ref b :: rest) := by
  obtain ⟨fs, he⟩ := cE_inr (ar := ar) hk hb0.2
  obtain ⟨q, hq⟩ := cW_get hb0.1 he
  exact r_callV (wl := []) C pc np hM hR hl1 hl2 hl3 q kd hq hc hn hr hd kk
theorem c_init (C : Cx0 own cc nL D ar X R j) (pc np : Nat) {ws : va_W} (hM : Cn D ar X y bytes maxL none fr lo mc ms (.ref b :: As) ws Ret) (hR : Rm R k n y bytes maxL none fr lo mc ms np) (hl1 : Cond.methodLink own index y ∈ gtbl) (hl2 : Cond.instanceMethod y ∈ gtbl) (hy1 : y.name = "<init>")
    (hn : As.length = np) (hr : (rest.map fun v => v.category).sum ≤ 8) (hd : decode cc pc = .ok (.invokespecial index, 3))
    (kk : ∀ (r : Option Value) (wc' : va_W), Ret r wc' → j wc' (k + mc) (n + ms) (pc + 3) lv (r.toList ++ rest)) : j ws k n pc lv (As.reverse ++ .ref b :: rest) :=
  r_callI (wl := []) C pc np hM hR hl1 hl2 hy1 hn hr hd kk
/-- a private constructor of a nest mate -/
theorem c_initN (C : Cx0 own cc nL D ar X R j) (pc np : Nat) {ws : va_W} {host : String} (hM : Cn D ar X y bytes maxL none fr lo mc ms (.ref b :: As) ws Ret) (hR : Rm R k n y bytes maxL none fr lo mc ms np) (hl1 : ∀ A s, X A s s.heap → va_Nw (.methodLinkNest own index y host) s) (hl2 : Cond.instanceMethod y ∈ gtbl) (hy1 : y.name = "<init>")
    (hn : As.length = np) (hr : (rest.map fun v => v.category).sum ≤ 8) (hd : decode cc pc = .ok (.invokespecial index, 3))
    (kk : ∀ (r : Option Value) (wc' : va_W), Ret r wc' → j wc' (k + mc) (n + ms) (pc + 3) lv (r.toList ++ rest)) : j ws k n pc lv (As.reverse ++ .ref b :: rest) := by
  obtain ⟨p, l, e, s, m, args, below, meth, c, A, Q, ⟨hx, hb, hml, hown, hts, hK, hA, hX, hXs⟩, rfl⟩ := C
  intro H locs ls hP hD hS hl
  refine xx_behind (wl := []) (va_runIN (As := As) (rest := rest) ⟨hx, hb, hml, hown, hts⟩ (hM l H.size) ⟨va_cnB np hts (gtbl_cons hR.2.2.1) rfl rfl rfl (hl1 A s hXs) (hts _ hR.2.2.2.1) hR.2.2.2.2 hR.1, hy1, hts _ hl2⟩ ⟨xx_blind hX, fun U hU hW => ⟨rfl, xx_pre hX hXs hK hA hP hD hS U hU hW⟩⟩ rfl hn hl.1 rfl (lv_room hr) hd hR.2.1) hA hP hD hS hl kk
/-- checkcast of an object of ours to its own class -/
theorem ca_cast (C : Cx0 own cc nL D ar X R j) (pc : Nat) {ix a kd : Nat} {CC : String} {T9 : u_T} {N9 : Nat} (hk : kd = 0 ∨ kd = 1 ∨ kd = 2 ∨ kd = 3 ∨ kd = 4 ∨ kd = 6) (hc : cls7[kd]? = some (CC, T9, N9)) (hw : Cond.classLink own ix CC ∈ gtbl) (ha : Is S a kd) (hd : decode cc pc = .ok (.checkcast ix, 3)) (kk : j (cW ar S) k n (pc + 3) lv (.ref a :: st)) : j (cW ar S) k n pc lv (.ref a :: st) := by
  obtain ⟨p, l, e, s, m, args, below, meth, c, A, Q, ⟨hx, hb, hml, hown, hts, hK, hA, hX, hXs⟩, rfl⟩ := C
  intro H locs ls hP hD hS hl
  obtain ⟨fs, he⟩ := cE_inr (ar := ar) hk ha.2
  obtain ⟨q, hq⟩ := cW_get ha.1 he
  exact va_castS hx hb hown (hts _ hw) (hK.1 kd _ hc).2 (va_recv hK hP hc hq) hd (kk H locs ls hP hD hS hl)
theorem ca_castA (C : Cx0 own cc nL D ar X R j) (pc : Nat) {ix a : Nat} (hw : Cond.classLink own ix "[Ljava/lang/Object;" ∈ gtbl) (ha : Is S a 10) (hd : decode cc pc = .ok (.checkcast ix, 3)) (kk : j (cW ar S) k n (pc + 3) lv (.ref a :: st)) : j (cW ar S) k n pc lv (.ref a :: st) := by
  obtain ⟨p, l, e, s, m, args, below, meth, c, A, Q, ⟨hx, hb, hml, hown, hts, hK, hA, hX, hXs⟩, rfl⟩ := C
  intro H locs ls hP hD hS hl
  obtain ⟨q, hq⟩ := cW_get ha.1 (cE_10 (ar := ar) ha.2)
  exact va_castA hx hb hown (hts _ hw) hP q hq (va_nmO (hK.2 4 _ rfl).2 rfl) hd (kk H locs ls hP hD hS hl)
theorem ca_getC (C : Cx0 own cc nL D ar (XC tg te mi) R j) (pc : Nat) {ix a : Nat} (hw : Cond.methodLink own ix ⟨"java/lang/Object", "getClass", "()Ljava/lang/Class;"⟩ ∈ gtbl) (ha : Is S a 10) (hf : 1 ≤ R.frames) (hlo : (st.map fun v => v.category).sum + 14 ≤ R.locals) (hd : decode cc pc = .ok (.invokevirtual ix, 3)) (kk : j (cW ar S) k n (pc + 3) lv (.ref mi :: st)) : j (cW ar S) k n pc lv (.ref a :: st) := by
  obtain ⟨p, l, e, s, m, args, below, meth, c, A, Q, ⟨hx, hb, hml, hown, hts, hK, hA, hX, hXs⟩, rfl⟩ := C
  intro H locs ls hP hD hS hl
  obtain ⟨q, hq⟩ := cW_get ha.1 (cE_10 (ar := ar) ha.2)
  have hcell := hP q _ hq
  exact va_getC hx hb (by rw [hml, hl.1]) hown (hts _ hw) (va_Dc.use hXs.2.2.2.2.2.2.2.2) (hts _ se_gc) (hts _ im_gc) (hts _ nat_gc) hXs.2.2.2.2.2.2.2.1 ⟨_, hcell, rfl, va_nmO (hK.2 4 _ rfl).2 rfl⟩ hf hlo hd (kk H locs ls hP hD hS hl)
theorem ca_ldcM (C : Cx0 own cc nL D ar (XC tg te mi) R j) (pc : Nat) {ix : Nat} {ws : va_W} (hw : Cond.classLink own ix "[Ljava/lang/Object;" ∈ gtbl) (hd : decode cc pc = .ok (.ldc ix, 2)) (kk : j ws k n (pc + 2) lv (.ref mi :: st)) : j ws k n pc lv st := by
  obtain ⟨p, l, e, s, m, args, below, meth, c, A, Q, ⟨hx, hb, hml, hown, hts, hK, hA, hX, hXs⟩, rfl⟩ := C
  intro H locs ls hP hD hS hl
  exact va_ldcM hx hb hown (hts _ hw) hXs.2.2.2.2.2.2.2.1 hd (kk H locs ls hP hD hS hl)
theorem r_acmp_eq (C : Cx0 own cc nL D ar X R j) (pc : Nat) {ws : va_W} {x y : Nat} {off : Int} (tgt : Nat) (hd : decode cc pc = .ok (.if_acmp .eq off, 3)) (ht : (pc : Int) + off = (tgt : Int)) (kt : x = y → j ws k n tgt lv st) (kf : ¬ x = y → j ws k n (pc + 3) lv st) : j ws k n pc lv (.ref y :: .ref x :: st) := by
  obtain ⟨p, l, e, s, m, args, below, meth, c, A, Q, ⟨hx, hb, hml, hown, hts, hK, hA, hX, hXs⟩, rfl⟩ := C
  intro H locs ls hP hD hS hl
  exact lv_acmp_eq (rx := some x) (ry := some y) hx hb hd ht (fun h => kt (Option.some.inj h) H locs ls hP hD hS hl) (fun h => kf (fun q => h (by rw [q])) H locs ls hP hD hS hl)
theorem r_acmp_ne (C : Cx0 own cc nL D ar X R j) (pc : Nat) {ws : va_W} {x y : Nat} {off : Int} (tgt : Nat) (hd : decode cc pc = .ok (.if_acmp .ne off, 3)) (ht : (pc : Int) + off = (tgt : Int)) (kt : ¬ x = y → j ws k n tgt lv st) (kf : x = y → j ws k n (pc + 3) lv st) : j ws k n pc lv (.ref y :: .ref x :: st) := by
  obtain ⟨p, l, e, s, m, args, below, meth, c, A, Q, ⟨hx, hb, hml, hown, hts, hK, hA, hX, hXs⟩, rfl⟩ := C
  intro H locs ls hP hD hS hl
  exact lv_acmp_ne (rx := some x) (ry := some y) hx hb hd ht (fun h => kt (fun q => h (by rw [q])) H locs ls hP hD hS hl) (fun h => kf (Option.some.inj h) H locs ls hP hD hS hl)
theorem ca_copy (C : Cx0 own cc nL D ar (XC tg te mi) R j) (pc u v z : Nat) {ix a a0 : Nat} {sp dp nn : Int32} (hw : Cond.methodLink own ix arraycopyName ∈ gtbl) (ha0 : Is S a0 10) (ha : Is S a 10) (e1 : sp = nI u) (e2 : dp = nI v) (e3 : nn = nI z) (h4 : u + z ≤ S.2.2.1 a0) (h5 : v + z ≤ S.2.2.1 a) (hN0 : S.2.2.1 a0 < 2 ^ 31) (hN : S.2.2.1 a < 2 ^ 31) (hel : ∀ i, i < z → ∀ y, S.2.2.2.2.2.2.2 a0 (u + i) = some y → El S y)
    (hf : 1 ≤ R.frames) (hlo : (st.map fun v => v.category).sum + (nativeFrameWords "java/lang/System" "arraycopy" 5 + 11) ≤ R.locals) (hd : decode cc pc = .ok (.invokestatic ix, 3)) (kk : j (cW ar (uB S a (va_cpy (S.2.2.2.2.2.2.2 a0) (S.2.2.2.2.2.2.2 a) u v z))) k n (pc + 3) lv st) : j (cW ar S) k n pc lv (.int nn :: .int dp :: .ref a :: .int sp :: .ref a0 :: st) := by
  obtain ⟨p, l, e, s, m, args, below, meth, c, A, Q, ⟨hx, hb, hml, hown, hts, hK, hA, hX, hXs⟩, rfl⟩ := C
  intro H locs ls hP hD hS hl
  subst e1; subst e2; subst e3
  have h0 := cE_10 (ar := ar) ha.2
  obtain ⟨q0, hq0⟩ := cW_get ha0.1 (cE_10 (ar := ar) ha0.2)
  obtain ⟨q, hq⟩ := cW_get ha.1 h0
  have cu : (nI u).toNatClampNeg = u := nI_clamp (by omega)
  have cv : (nI v).toNatClampNeg = v := nI_clamp (by omega)
  have cz : (nI z).toNatClampNeg = z := nI_clamp (by omega)
  refine va_copyM hx hb (by rw [hml, hl.1]) hown (hts _ hw) (hts _ nat_ac) (hts _ st_ac) (hts _ ini_System) hK hP hD hS q0 q 4 4 hq0 hq rfl rfl (nI_pos (by omega)) (nI_pos (by omega)) (nI_pos (by omega)) (by rw [cu, cz]; exact h4) (by rw [cv, cz]; exact h5) (fun i hi y hy => ?_) hf hlo hd (fun H locs hP hD1 hS => ?_)
  · rw [cz] at hi
    rw [cu] at hy
    exact (hel i hi y hy).any hK hP hXs
  · rw [cu, cv, cz, cW_set (S' := uB S a (va_cpy (S.2.2.2.2.2.2.2 a0) (S.2.2.2.2.2.2.2 a) u v z)) hD ha.1 hq h0 rfl ((cE_10 (S := uB S a _) ha.2).trans (by simp [va_up_self])) (fun b hb => cE_oB hb)] at hP hD1
    exact kk H locs ls hP hD1 hS hl
theorem r_mmax (C : Cx0 own cc nL D ar X R j) (pc : Nat) {ws : va_W} {ix : Nat} {x y : Int32} (hw : Cond.methodLink own ix Lib.Math.max.name ∈ gtbl) (hf : 1 ≤ R.frames) (hlo : (st.map fun v => v.category).sum + 13 ≤ R.locals) (hc : k ≤ R.cells) (hs : n ≤ R.slots) (hd : decode cc pc = .ok (.invokestatic ix, 3)) (kk : j ws k n (pc + 3) lv (.int (if x < y then y else x) :: st)) : j ws k n pc lv (.int y :: .int x :: st) := by
  obtain ⟨p, l, e, s, m, args, below, meth, c, A, Q, ⟨hx, hb, hml, hown, hts, hK, hA, hX, hXs⟩, rfl⟩ := C
  intro H locs ls hP hD hS hl
  exact va_mmax hx hb (by rw [hml, hl.1]) hown (hts _ hw) (hts _ st_max) (hts _ ini_Math) (hts _ co_max) hf hlo hc hs hd (kk H locs ls hP hD hS hl)
theorem r_mmin (C : Cx0 own cc nL D ar X R j) (pc : Nat) {ws : va_W} {ix : Nat} {x y : Int32} (hw : Cond.methodLink own ix Lib.Math.min.name ∈ gtbl) (hf : 1 ≤ R.frames) (hlo : (st.map fun v => v.category).sum + 13 ≤ R.locals) (hc : k ≤ R.cells) (hs : n ≤ R.slots) (hd : decode cc pc = .ok (.invokestatic ix, 3)) (kk : j ws k n (pc + 3) lv (.int (if y < x then y else x) :: st)) : j ws k n pc lv (.int y :: .int x :: st) := by
  obtain ⟨p, l, e, s, m, args, below, meth, c, A, Q, ⟨hx, hb, hml, hown, hts, hK, hA, hX, hXs⟩, rfl⟩ := C
  intro H locs ls hP hD hS hl
  exact va_mmin hx hb (by rw [hml, hl.1]) hown (hts _ hw) (hts _ st_min) (hts _ ini_Math) (hts _ co_min) hf hlo hc hs hd (kk H locs ls hP hD hS hl)
theorem r_ldcw (C : Cx0 own cc nL D ar X R j) (pc : Nat) {ws : va_W} {ix : Nat} {v : Int32} (hw : Cond.constant own ix v ∈ gtbl) (hd : decode cc pc = .ok (.ldc_w ix, 3)) (kk : j ws k n (pc + 3) lv (.int v :: st)) : j ws k n pc lv st := by
  obtain ⟨p, l, e, s, m, args, below, meth, c, A, Q, ⟨hx, hb, hml, hown, hts, hK, hA, hX, hXs⟩, rfl⟩ := C
  intro H locs ls hP hD hS hl
  exact lv_ldcw hx hb hown (hts _ hw) hd (kk H locs ls hP hD hS hl)
theorem ca_new0 (C : Cx0 own cc nL D ar X R j) (pc : Nat) {ix : Nat} (hw : Cond.classLink own ix RX0 ∈ gtbl) (hc : k + 1 ≤ R.cells) (hs : n + 9 ≤ R.slots) (hd : decode cc pc = .ok (.new ix, 3)) (kk : ∀ q, q ∉ S.1 → j (cW ar (nO S q 0)) (k + 1) (n + 9) (pc + 3) lv (.ref q :: st)) : j (cW ar S) k n pc lv st := by
  obtain ⟨p, l, e, s, m, args, below, meth, c, A, Q, ⟨hx, hb, hml, hown, hts, hK, hA, hX, hXs⟩, rfl⟩ := C
  intro H locs ls hP hD hS hl
  refine va_new (ci := 0) (fs := [.int 0, .int 0, .int 0, .int 0, .int 0, .int 0, .int 0, .int 0, .int 0]) (C := RX0) (T := TX0) (N := 9) hx hb hts gX0 tyX0 tyX0_ok hown (hts _ hw) (hts _ in_X0) (hts _ ini_X0) hK hP hD hS hA rfl (fun i hi => by rcases (show i = 0 ∨ i = 1 ∨ i = 2 ∨ i = 3 ∨ i = 4 ∨ i = 5 ∨ i = 6 ∨ i = 7 ∨ i = 8 by omega) with rfl | rfl | rfl | rfl | rfl | rfl | rfl | rfl | rfl <;> rfl) hc hs hd (fun q H1 hP1 hD1 hS1 => ?_)
  have hq := cW_fresh hD1
  rw [cW_push (S' := nO S q 0) hq rfl ((cE_0 (va_up_self _ _ _)).trans (by simp [zI, zR, va_up_self, va_rf])) (fun b hb => cE_oO hb)] at hP1 hD1
  exact kk q hq H1 locs ls hP1 hD1 hS1 hl
theorem ca_new1 (C : Cx0 own cc nL D ar X R j) (pc : Nat) {ix : Nat} (hw : Cond.classLink own ix RX1 ∈ gtbl) (hc : k + 1 ≤ R.cells) (hs : n + 4 ≤ R.slots) (hd : decode cc pc = .ok (.new ix, 3)) (kk : ∀ q, q ∉ S.1 → j (cW ar (nO S q 1)) (k + 1) (n + 4) (pc + 3) lv (.ref q :: st)) : j (cW ar S) k n pc lv st := by
  obtain ⟨p, l, e, s, m, args, below, meth, c, A, Q, ⟨hx, hb, hml, hown, hts, hK, hA, hX, hXs⟩, rfl⟩ := C
  intro H locs ls hP hD hS hl
  refine va_new (ci := 1) (fs := [.int 0, .int 0, .int 0, .int 0]) (C := RX1) (T := TX1) (N := 4) hx hb hts gX1 tyX1 tyX1_ok hown (hts _ hw) (hts _ in_X1) (hts _ ini_X1) hK hP hD hS hA rfl (fun i hi => by rcases (show i = 0 ∨ i = 1 ∨ i = 2 ∨ i = 3 by omega) with rfl | rfl | rfl | rfl <;> rfl) hc hs hd (fun q H1 hP1 hD1 hS1 => ?_)
  have hq := cW_fresh hD1
  rw [cW_push (S' := nO S q 1) hq rfl ((cE_1 (va_up_self _ _ _)).trans (by simp [zI, zR, va_up_self, va_rf])) (fun b hb => cE_oO hb)] at hP1 hD1
  exact kk q hq H1 locs ls hP1 hD1 hS1 hl
theorem ca_new2 (C : Cx0 own cc nL D ar X R j) (pc : Nat) {ix : Nat} (hw : Cond.classLink own ix RX2 ∈ gtbl) (hc : k + 1 ≤ R.cells) (hs : n + 9 ≤ R.slots) (hd : decode cc pc = .ok (.new ix, 3)) (kk : ∀ q, q ∉ S.1 → j (cW ar (nO S q 2)) (k + 1) (n + 9) (pc + 3) lv (.ref q :: st)) : j (cW ar S) k n pc lv st := by
  obtain ⟨p, l, e, s, m, args, below, meth, c, A, Q, ⟨hx, hb, hml, hown, hts, hK, hA, hX, hXs⟩, rfl⟩ := C
  intro H locs ls hP hD hS hl
  refine va_new (ci := 2) (fs := [.int 0, .int 0, .int 0, .int 0, .int 0, .int 0, .int 0, .int 0, .int 0]) (C := RX2) (T := TX2) (N := 9) hx hb hts gX2 tyX2 tyX2_ok hown (hts _ hw) (hts _ in_X2) (hts _ ini_X2) hK hP hD hS hA rfl (fun i hi => by rcases (show i = 0 ∨ i = 1 ∨ i = 2 ∨ i = 3 ∨ i = 4 ∨ i = 5 ∨ i = 6 ∨ i = 7 ∨ i = 8 by omega) with rfl | rfl | rfl | rfl | rfl | rfl | rfl | rfl | rfl <;> rfl) hc hs hd (fun q H1 hP1 hD1 hS1 => ?_)
  have hq := cW_fresh hD1
  rw [cW_push (S' := nO S q 2) hq rfl ((cE_2 (va_up_self _ _ _)).trans (by simp [zI, zR, va_up_self, va_rf])) (fun b hb => cE_oO hb)] at hP1 hD1
  exact kk q hq H1 locs ls hP1 hD1 hS1 hl
theorem ca_new3 (C : Cx0 own cc nL D ar X R j) (pc : Nat) {ix : Nat} (hw : Cond.classLink own ix RX3 ∈ gtbl) (hc : k + 1 ≤ R.cells) (hs : n + 5 ≤ R.slots) (hd : decode cc pc = .ok (.new ix, 3)) (kk : ∀ q, q ∉ S.1 → j (cW ar (nO S q 3)) (k + 1) (n + 5) (pc + 3) lv (.ref q :: st)) : j (cW ar S) k n pc lv st := by
  obtain ⟨p, l, e, s, m, args, below, meth, c, A, Q, ⟨hx, hb, hml, hown, hts, hK, hA, hX, hXs⟩, rfl⟩ := C
  intro H locs ls hP hD hS hl
  refine va_new (ci := 3) (fs := [.int 0, .int 0, .int 0, .int 0, .null]) (C := RX3) (T := TX3) (N := 5) hx hb hts gX3 tyX3 tyX3_ok hown (hts _ hw) (hts _ in_X3) (hts _ ini_X3) hK hP hD hS hA rfl (fun i hi => by rcases (show i = 0 ∨ i = 1 ∨ i = 2 ∨ i = 3 ∨ i = 4 by omega) with rfl | rfl | rfl | rfl | rfl <;> rfl) hc hs hd (fun q H1 hP1 hD1 hS1 => ?_)
  have hq := cW_fresh hD1
  rw [cW_push (S' := nO S q 3) hq rfl ((cE_3 (va_up_self _ _ _)).trans (by simp [zI, zR, va_up_self, va_rf])) (fun b hb => cE_oO hb)] at hP1 hD1
  exact kk q hq H1 locs ls hP1 hD1 hS1 hl
theorem ca_new4 (C : Cx0 own cc nL D ar X R j) (pc : Nat) {ix : Nat} (hw : Cond.classLink own ix RX4 ∈ gtbl) (hc : k + 1 ≤ R.cells) (hs : n + 11 ≤ R.slots) (hd : decode cc pc = .ok (.new ix, 3)) (kk : ∀ q, q ∉ S.1 → j (cW ar (nO S q 4)) (k + 1) (n + 11) (pc + 3) lv (.ref q :: st)) : j (cW ar S) k n pc lv st := by
  obtain ⟨p, l, e, s, m, args, below, meth, c, A, Q, ⟨hx, hb, hml, hown, hts, hK, hA, hX, hXs⟩, rfl⟩ := C
  intro H locs ls hP hD hS hl
  refine va_new (ci := 4) (fs := [.null, .null, .null, .null, .null, .null, .null, .int 0, .int 0, .int 0, .long 0]) (C := RX4) (T := TX4) (N := 11) hx hb hts gX4 tyX4 tyX4_ok hown (hts _ hw) (hts _ in_X4) (hts _ ini_X4) hK hP hD hS hA rfl (fun i hi => by rcases (show i = 0 ∨ i = 1 ∨ i = 2 ∨ i = 3 ∨ i = 4 ∨ i = 5 ∨ i = 6 ∨ i = 7 ∨ i = 8 ∨ i = 9 ∨ i = 10 by omega) with rfl | rfl | rfl | rfl | rfl | rfl | rfl | rfl | rfl | rfl | rfl <;> rfl) hc hs hd (fun q H1 hP1 hD1 hS1 => ?_)
  have hq := cW_fresh hD1
  rw [cW_push (S' := nO S q 4) hq rfl ((cE_4 (va_up_self _ _ _)).trans (by simp [zI, zR, va_up_self, va_rf])) (fun b hb => cE_oO hb)] at hP1 hD1
  exact kk q hq H1 locs ls hP1 hD1 hS1 hl
theorem ca_new6 (C : Cx0 own cc nL D ar X R j) (pc : Nat) {ix : Nat} (hw : Cond.classLink own ix RJx4a65c ∈ gtbl) (hc : k + 1 ≤ R.cells) (hs : n + 3 ≤ R.slots) (hd : decode cc pc = .ok (.new ix, 3)) (kk : ∀ q, q ∉ S.1 → j (cW ar (nO S q 6)) (k + 1) (n + 3) (pc + 3) lv (.ref q :: st)) : j (cW ar S) k n pc lv st := by
  obtain ⟨p, l, e, s, m, args, below, meth, c, A, Q, ⟨hx, hb, hml, hown, hts, hK, hA, hX, hXs⟩, rfl⟩ := C
  intro H locs ls hP hD hS hl
  refine va_new (ci := 6) (fs := [.int 0, .null, .int 0]) (C := RJx4a65c) (T := TJx4a65c) (N := 3) hx hb hts gJx4a65c tyJx4a65c tyJx4a65c_ok hown (hts _ hw) (hts _ in_Jx4a65c) (hts _ ini_Jx4a65c) hK hP hD hS hA rfl (fun i hi => by rcases (show i = 0 ∨ i = 1 ∨ i = 2 by omega) with rfl | rfl | rfl <;> rfl) hc hs hd (fun q H1 hP1 hD1 hS1 => ?_)
  have hq := cW_fresh hD1
  rw [cW_push (S' := nO S q 6) hq rfl ((cE_6 (va_up_self _ _ _)).trans (by simp [zI, zR, va_up_self, va_rf])) (fun b hb => cE_oO hb)] at hP1 hD1
  exact kk q hq H1 locs ls hP1 hD1 hS1 hl
end CC
end
section
/-! the library's list, over the class's heap -/
def ncap (c : Nat) : Nat := if c = 0 then 10 else c + (if 1 < c / 2 then c / 2 else 1)
/-- a list at p: n elements f, its array e of cap places (te the shared empty one) -/
def LsA (te : Nat) (S : CS) (p n e cap : Nat) (f : Nat → Nat) : Prop :=
  Is S p 6 ∧ S.2.2.2.1 51 p = nI n ∧ S.2.2.2.2.1 8 p = some e ∧ (n ≤ cap ∧ cap ≤ 1000) ∧ ((e = te ∧ cap = 0) ∨ (Is S e 10 ∧ S.2.2.1 e = cap ∧ 0 < cap)) ∧ ∀ i, i < n → S.2.2.2.2.2.2.2 e i = some (f i) ∧ El S (f i)
theorem LsA.arr {te : Nat} {S : CS} {p n e cap : Nat} {f : Nat → Nat} (h : LsA te S p n e cap f) (hn : 0 < n) : Is S e 10 ∧ S.2.2.1 e = cap := by
  rcases h.2.2.2.2.1 with ⟨-, q⟩ | q
  · have := h.2.2.2.1.1; omega
  · exact ⟨q.1, q.2.1⟩
/-- behind add(x) -/
def AddP (te : Nat) (S S' : CS) (p n e cap x e' cap' : Nat) : Prop :=
  (∀ a, a ∈ S.1 → a ∈ S'.1 ∧ S'.2.1 a = S.2.1 a ∧ S'.2.2.1 a = S.2.2.1 a ∧ S'.2.2.2.2.2.2.1 a = S.2.2.2.2.2.2.1 a) ∧
  ((∀ f, f ≠ 50 → f ≠ 51 → S'.2.2.2.1 f = S.2.2.2.1 f) ∧ S'.2.2.2.1 51 = upd (S.2.2.2.1 51) p (nI (n + 1))) ∧
  ((∀ f, f ≠ 8 → S'.2.2.2.2.1 f = S.2.2.2.2.1 f) ∧ S'.2.2.2.2.1 8 = va_up (S.2.2.2.2.1 8) p (some e')) ∧ S'.2.2.2.2.2.1 = S.2.2.2.2.2.1 ∧
  (∀ a, a ∈ S.1 → a ≠ e → S'.2.2.2.2.2.2.2 a = S.2.2.2.2.2.2.2 a) ∧
  (Is S' e' 10 ∧ S'.2.2.1 e' = cap') ∧ ((e' = e ∧ cap' = cap ∧ n < cap) ∨ (e' ∉ S.1 ∧ n = cap ∧ cap' = ncap cap)) ∧
  (∀ i, i < n → S'.2.2.2.2.2.2.2 e' i = S.2.2.2.2.2.2.2 e i) ∧ S'.2.2.2.2.2.2.2 e' n = some x
/-- behind remove(0) -/
def RemP (S S' : CS) (p n e : Nat) : Prop :=
  S'.1 = S.1 ∧ S'.2.1 = S.2.1 ∧ S'.2.2.1 = S.2.2.1 ∧ ((∀ f, f ≠ 50 → f ≠ 51 → S'.2.2.2.1 f = S.2.2.2.1 f) ∧ S'.2.2.2.1 51 = upd (S.2.2.2.1 51) p (nI (n - 1))) ∧
  S'.2.2.2.2.1 = S.2.2.2.2.1 ∧ S'.2.2.2.2.2.1 = S.2.2.2.2.2.1 ∧ S'.2.2.2.2.2.2.1 = S.2.2.2.2.2.2.1 ∧ (∀ a, a ≠ e → S'.2.2.2.2.2.2.2 a = S.2.2.2.2.2.2.2 a) ∧ ∀ i, i < n - 1 → S'.2.2.2.2.2.2.2 e i = S.2.2.2.2.2.2.2 e (i + 1)

section C18
variable {D : va_G} {ar : Nat → ClassId} {tg te mi : Nat} {S : CS}
set_option maxRecDepth 100000 in
theorem k_J3_checkIndex_8e157 {X : XT} (hX : Xok X) (ws : va_W) {x m : Nat} (hx : x < m) (hm : m < 2 ^ 31)  : Cn D ar X yJ3_checkIndex_8e157 cJ3_checkIndex_8e157 3 (some .int) 0 0 0 0 [.int (nI x), .int (nI m), .null] ws (fun r w => r = some (.int (nI x)) ∧ w = ws) := by
  refine Cn.of (own := RJ3) hX (by decide) rfl (Nat.le_of_ble_eq_true rfl) (fun j C => ?_)
  have C0 := C.to
  show j _ 0 0 0 [(0, _), (1, _), (2, _)] []
  refine r_iload_n C0 0 0 dJ3_checkIndex_8e157_0 rfl rfl ?_
  refine r_if_lt C0 1 9 dJ3_checkIndex_8e157_1 (by decide) (fun c_1 => ?_) (fun c_1 => ?_)
  · exact absurd c_1 (nI_pos (by omega))
  · refine r_iload_n C0 4 0 dJ3_checkIndex_8e157_4 rfl rfl ?_
    refine r_iload_n C0 5 1 dJ3_checkIndex_8e157_5 rfl rfl ?_
    refine r_icmp_lt C0 6 16 dJ3_checkIndex_8e157_6 (by decide) (fun c_6 => ?_) (fun c_6 => ?_)
    · refine r_iload_n C0 16 0 dJ3_checkIndex_8e157_16 rfl rfl ?_
      refine r_iret C 17 dJ3_checkIndex_8e157_17 (Nat.le_refl _) (Nat.le_refl _) ?_
      exact ⟨rfl, rfl⟩
    · exact absurd (nI_lt hx hm) c_6
set_option maxRecDepth 100000 in
theorem k_J15_checkIndex_7cf53 {X : XT} (hX : Xok X) (ws : va_W) {x m : Nat} (hx : x < m) (hm : m < 2 ^ 31)  : Cn D ar X yJ15_checkIndex_7cf53 cJ15_checkIndex_7cf53 2 (some .int) 1 22 0 0 [.int (nI x), .int (nI m)] ws (fun r w => r = some (.int (nI x)) ∧ w = ws) := by
  refine Cn.of (own := RJ15) hX (by decide) rfl (Nat.le_of_ble_eq_true rfl) (fun j C => ?_)
  have C0 := C.to
  show j _ 0 0 0 [(0, _), (1, _)] []
  refine r_iload_n C0 0 0 dJ15_checkIndex_7cf53_0 rfl rfl ?_
  refine r_iload_n C0 1 1 dJ15_checkIndex_7cf53_1 rfl rfl ?_
  refine r_null C0 2 dJ15_checkIndex_7cf53_2 ?_
  refine s_call (As := [.int _, .int _, .null]) C0 3 3 (k_J3_checkIndex_8e157 hX ws hx hm) (rm_J3_checkIndex_8e157 (by decide) (by decide) (Nat.le_refl _) (Nat.le_refl _)) mlJ15_105 st_J3_checkIndex_8e157 rfl (Nat.le_of_ble_eq_true rfl) dJ15_checkIndex_7cf53_3 ?_
  rintro _ _ ⟨rfl, rfl⟩
  refine r_iret C 6 dJ15_checkIndex_7cf53_6 (Nat.le_refl _) (Nat.le_refl _) ?_
  exact ⟨rfl, rfl⟩
set_option maxRecDepth 100000 in
theorem k_Jx4a65c_size_8abf5 {X : XT} (hX : Xok X) {p : Nat} (hp : Is S p 6)  : Cn D ar X yJx4a65c_size_8abf5 cJx4a65c_size_8abf5 1 (some .int) 0 0 0 0 [.ref p] (cW ar S) (fun r w => r = some (.int (S.2.2.2.1 51 p)) ∧ w = cW ar S) := by
  refine Cn.of (own := RJx4a65c) hX (by decide) rfl (Nat.le_of_ble_eq_true rfl) (fun j C => ?_)
  have C0 := C.to
  show j _ 0 0 0 [(0, _)] []
  refine r_aload_n C0 0 0 dJx4a65c_size_8abf5_0 rfl rfl ?_
  refine cgI_51 C0 1 flJx4a65c_48 hp dJx4a65c_size_8abf5_1 ?_
  refine r_iret C 4 dJx4a65c_size_8abf5_4 (Nat.le_refl _) (Nat.le_refl _) ?_
  exact ⟨rfl, rfl⟩
set_option maxRecDepth 100000 in
theorem k_Jx4a65c_isEmpty_aae02 {X : XT} (hX : Xok X) {p : Nat} (hp : Is S p 6)  : Cn D ar X yJx4a65c_isEmpty_aae02 cJx4a65c_isEmpty_aae02 1 (some .boolean) 0 0 0 0 [.ref p] (cW ar S) (fun r w => r = some (.int (if S.2.2.2.1 51 p = 0 then 1 else 0)) ∧ w = cW ar S) := by
  refine Cn.of (own := RJx4a65c) hX (by decide) rfl (Nat.le_of_ble_eq_true rfl) (fun j C => ?_)
  have C0 := C.to
  show j _ 0 0 0 [(0, _)] []
  refine r_aload_n C0 0 0 dJx4a65c_isEmpty_aae02_0 rfl rfl ?_
  refine cgI_51 C0 1 flJx4a65c_48 hp dJx4a65c_isEmpty_aae02_1 ?_
  refine r_if_ne C0 4 11 dJx4a65c_isEmpty_aae02_4 (by decide) (fun c_4 => ?_) (fun c_4 => ?_)
  · refine r_iconst C0 11 0 dJx4a65c_isEmpty_aae02_11 (by decide) ?_
    refine r_zret C 12 rfl dJx4a65c_isEmpty_aae02_12 (Nat.le_refl _) (Nat.le_refl _) ?_
    exact ⟨by rw [if_neg c_4], rfl⟩
  · refine r_iconst C0 7 1 dJx4a65c_isEmpty_aae02_7 (by decide) ?_
    refine r_goto C0 8 12 dJx4a65c_isEmpty_aae02_8 (by decide) ?_
    refine r_zret C 12 rfl dJx4a65c_isEmpty_aae02_12 (Nat.le_refl _) (Nat.le_refl _) ?_
    exact ⟨by rw [if_pos c_4], rfl⟩
set_option maxRecDepth 100000 in
theorem k_Jx4a65c_elementData_915e3 {X : XT} (hX : Xok X) {p n e cap x : Nat} {f : Nat → Nat} (h : LsA te S p n e cap f) (hx : x < n)  : Cn D ar X yJx4a65c_elementData_915e3 cJx4a65c_elementData_915e3 2 (some (.object "java/lang/Object")) 0 0 0 0 [.ref p, .int (nI x)] (cW ar S) (fun r w => r = some (.ref (f x)) ∧ w = cW ar S) := by
  refine Cn.of (own := RJx4a65c) hX (by decide) rfl (Nat.le_of_ble_eq_true rfl) (fun j C => ?_)
  have C0 := C.to
  show j _ 0 0 0 [(0, _), (1, _)] []
  have he := h.arr (by omega)
  have hcap := h.2.2.2.1
  refine r_aload_n C0 0 0 dJx4a65c_elementData_915e3_0 rfl rfl ?_
  refine cgR_8 C0 1 h.2.2.1 flJx4a65c_9 h.1 dJx4a65c_elementData_915e3_1 ?_
  refine r_iload_n C0 4 1 dJx4a65c_elementData_915e3_4 rfl rfl ?_
  refine ca_ald C0 5 x (by decide) he.1 rfl (by rw [he.2]; omega) (by rw [he.2]; omega) (h.2.2.2.2.2 x hx).1 dJx4a65c_elementData_915e3_5 ?_
  refine r_aret C 6 (by first | exact Or.inl ⟨_, rfl⟩ | exact Or.inr ⟨_, rfl⟩) (by first | exact Or.inr ⟨_, rfl⟩ | exact Or.inl rfl) dJx4a65c_elementData_915e3_6 (Nat.le_refl _) (Nat.le_refl _) ?_
  exact ⟨rfl, rfl⟩
set_option maxRecDepth 100000 in
theorem k_Jx4a65c_get_915e3 {X : XT} (hX : Xok X) {p n e cap x : Nat} {f : Nat → Nat} (h : LsA te S p n e cap f) (hx : x < n)  : Cn D ar X yJx4a65c_get_915e3 cJx4a65c_get_915e3 2 (some (.object "java/lang/Object")) 2 43 0 0 [.ref p, .int (nI x)] (cW ar S) (fun r w => r = some (.ref (f x)) ∧ w = cW ar S) := by
  refine Cn.of (own := RJx4a65c) hX (by decide) rfl (Nat.le_of_ble_eq_true rfl) (fun j C => ?_)
  have C0 := C.to
  show j _ 0 0 0 [(0, _), (1, _)] []
  have hcap := h.2.2.2.1
  refine r_iload_n C0 0 1 dJx4a65c_get_915e3_0 rfl rfl ?_
  refine r_aload_n C0 1 0 dJx4a65c_get_915e3_1 rfl rfl ?_
  refine cgI_51 C0 2 flJx4a65c_48 h.1 dJx4a65c_get_915e3_2 ?_
  rw [h.2.1]
  refine s_call (As := [.int _, .int _]) C0 5 2 (k_J15_checkIndex_7cf53 hX _ hx (by omega)) (rm_J15_checkIndex_7cf53 (by decide) (by decide) (Nat.le_refl _) (Nat.le_refl _)) mlJx4a65c_118 st_J15_checkIndex_7cf53 rfl (Nat.le_of_ble_eq_true rfl) dJx4a65c_get_915e3_5 ?_
  rintro _ _ ⟨rfl, rfl⟩
  refine r_pop C0 8 dJx4a65c_get_915e3_8 rfl ?_
  refine r_aload_n C0 9 0 dJx4a65c_get_915e3_9 rfl rfl ?_
  refine r_iload_n C0 10 1 dJx4a65c_get_915e3_10 rfl rfl ?_
  refine c_call (As := [.int _]) C0 11 1 (k_Jx4a65c_elementData_915e3 hX h hx) (rm_Jx4a65c_elementData_915e3 (by decide) (by decide) (Nat.le_refl _) (Nat.le_refl _)) mlJx4a65c_123 im_Jx4a65c_elementData_915e3 se_Jx4a65c_elementData_915e3 (by decide) rfl h.1 rfl (Nat.le_of_ble_eq_true rfl) dJx4a65c_get_915e3_11 ?_
  rintro _ _ ⟨rfl, rfl⟩
  refine r_aret C 14 (by first | exact Or.inl ⟨_, rfl⟩ | exact Or.inr ⟨_, rfl⟩) (by first | exact Or.inr ⟨_, rfl⟩ | exact Or.inl rfl) dJx4a65c_get_915e3_14 (Nat.le_refl _) (Nat.le_refl _) ?_
  exact ⟨rfl, rfl⟩
set_option maxRecDepth 100000 in
theorem k_J8_newLength_cabcc {X : XT} (hX : Xok X) (ws : va_W) {c : Nat} (h0 : 0 < c) (hc : c ≤ 1000)  : Cn D ar X yJ8_newLength_cabcc cJ8_newLength_cabcc 4 (some .int) 1 14 0 0 [.int (nI c), .int 1, .int (nI (c / 2))] ws (fun r w => r = some (.int (nI (ncap c))) ∧ w = ws) := by
  refine Cn.of (own := RJ8) hX (by decide) rfl (Nat.le_of_ble_eq_true rfl) (fun j C => ?_)
  have C0 := C.to
  show j _ 0 0 0 [(0, _), (1, _), (2, _)] []
  have hnc : ncap c = c + (if 1 < c / 2 then c / 2 else 1) := if_neg (by omega)
  have hmx : (if (1 : Int32) < nI (c / 2) then nI (c / 2) else 1) = nI (if 1 < c / 2 then c / 2 else 1) := by
    by_cases q : 1 < c / 2
    · rw [if_pos q, if_pos (show (1 : Int32) < nI (c / 2) from (nI_ltI (a := 1) (by omega) (by omega)).mpr q)]
    · rw [if_neg q, if_neg (show ¬ (1 : Int32) < nI (c / 2) from fun z => q ((nI_ltI (a := 1) (by omega) (by omega)).mp z))]; rfl
  have hle : ncap c ≤ 2000 := by rw [hnc]; split <;> omega
  have hpos : 0 < ncap c := by rw [hnc]; omega
  refine r_iload_n C0 0 0 dJ8_newLength_cabcc_0 rfl rfl ?_
  refine r_iload_n C0 1 1 dJ8_newLength_cabcc_1 rfl rfl ?_
  refine r_iload_n C0 2 2 dJ8_newLength_cabcc_2 rfl rfl ?_
  refine r_mmax C0 3 mlJ8_194 (by decide) (Nat.le_of_ble_eq_true rfl) (Nat.zero_le _) (Nat.zero_le _) dJ8_newLength_cabcc_3 ?_
  refine r_iadd C0 6 dJ8_newLength_cabcc_6 ?_
  rw [hmx, nI_add, ← hnc]
  refine r_istore_n (lv' := [(0, _), (1, _), (2, _), (3, _)]) C0 7 3 dJ8_newLength_cabcc_7 rfl rfl (by decide) rfl ?_
  refine r_iconst C0 8 0 dJ8_newLength_cabcc_8 (by decide) ?_
  refine r_iload_n C0 9 3 dJ8_newLength_cabcc_9 rfl rfl ?_
  refine r_icmp_ge C0 10 21 dJ8_newLength_cabcc_10 (by decide) (fun c_10 => ?_) (fun c_10 => ?_)
  · exact absurd c_10 (nI_nle (n := ncap c) hpos (by omega))
  · refine r_iload_n C0 13 3 dJ8_newLength_cabcc_13 rfl rfl ?_
    refine r_ldc C0 14 ldJ8_200 dJ8_newLength_cabcc_14 ?_
    refine r_icmp_gt C0 16 21 dJ8_newLength_cabcc_16 (by decide) (fun c_16 => ?_) (fun c_16 => ?_)
    · exact absurd c_16 (Int32.not_lt.mpr (by have := nI_le (a := ncap c) (b := 2147483639) (by omega) (by decide); exact this))
    · refine r_iload_n C0 19 3 dJ8_newLength_cabcc_19 rfl rfl ?_
      refine r_iret C 20 dJ8_newLength_cabcc_20 (Nat.le_refl _) (Nat.le_refl _) ?_
      exact ⟨rfl, rfl⟩
/-- a longer copy of the array e at a new address q -/
def GrP (S : CS) (e c m q : Nat) : CS := (S.1 ++ [q], va_up S.2.1 q 10, va_up S.2.2.1 q m, S.2.2.2.1, S.2.2.2.2.1, S.2.2.2.2.2.1, va_up S.2.2.2.2.2.2.1 q (fun _ => 0), va_up S.2.2.2.2.2.2.2 q (fun i => if i < c then S.2.2.2.2.2.2.2 e i else none))
set_option maxRecDepth 100000 in
theorem k_J7_copyOf_6403c {e c m : Nat} (he : Is S e 10) (hNe : S.2.2.1 e = c) (hcm : c ≤ m) (hm : m ≤ 2000) (hel : ∀ i, i < c → ∀ y, S.2.2.2.2.2.2.2 e i = some y → El S y)  : Cn D ar (XC tg te mi) yJ7_copyOf_6403c cJ7_copyOf_6403c 4 (some (.array (.object "java/lang/Object"))) 1 50 1 m [.ref e, .int (nI m), .ref mi] (cW ar S) (fun r w => ∃ q, q ∉ S.1 ∧ r = some (.ref q) ∧ w = cW ar (GrP S e c m q)) := by
  refine Cn.of (own := RJ7) XC_ok (by decide) rfl (Nat.le_of_ble_eq_true rfl) (fun j C => ?_)
  have C0 := C.to
  show j _ 0 0 0 [(0, _), (1, _), (2, _)] []
  refine r_aload_n C0 0 2 dJ7_copyOf_6403c_0 rfl rfl ?_
  refine ca_ldcM C0 1 clJ7_110 dJ7_copyOf_6403c_1 ?_
  refine r_acmp_ne C0 3 13 dJ7_copyOf_6403c_3 (by decide) (fun c_3 => absurd rfl c_3) (fun _ => ?_)
  refine r_iload_n C0 6 1 dJ7_copyOf_6403c_6 rfl rfl ?_
  refine ca_newO C0 7 m clJ7_2 rfl (by omega) (Nat.le_refl _) (by show 0 + m ≤ m; omega) dJ7_copyOf_6403c_7 (fun q hq => ?_)
  refine r_goto C0 10 24 dJ7_copyOf_6403c_10 (by decide) ?_
  refine r_astore_n (lv' := [(0, _), (1, _), (2, _), (3, _)]) C0 24 3 dJ7_copyOf_6403c_24 rfl rfl (by decide) rfl ?_
  refine r_aload_n C0 25 0 dJ7_copyOf_6403c_25 rfl rfl ?_
  refine r_iconst C0 26 0 dJ7_copyOf_6403c_26 (by decide) ?_
  refine r_aload_n C0 27 3 dJ7_copyOf_6403c_27 rfl rfl ?_
  refine r_iconst C0 28 0 dJ7_copyOf_6403c_28 (by decide) ?_
  refine r_aload_n C0 29 0 dJ7_copyOf_6403c_29 rfl rfl ?_
  have hne := he.ne hq
  have hN1 : (nA S q 10 m).2.2.1 e = c := (va_up_ne _ _ hne).trans hNe
  have hN2 : (nA S q 10 m).2.2.1 q = m := va_up_self _ _ _
  have hB1 : (nA S q 10 m).2.2.2.2.2.2.2 e = S.2.2.2.2.2.2.2 e := va_up_ne _ _ hne
  have hel2 : ∀ i, i < c → ∀ y, (nA S q 10 m).2.2.2.2.2.2.2 e (0 + i) = some y → El (nA S q 10 m) y := fun i hi y hy => by
    rw [hB1, Nat.zero_add] at hy
    rcases hel i hi y hy with z | z | z
    · exact Or.inl (z.oldA hq)
    · exact Or.inr (Or.inl (z.oldA hq))
    · exact Or.inr (Or.inr (z.oldA hq))
  refine ca_len C0 30 (by decide) (he.oldA hq) dJ7_copyOf_6403c_30 ?_
  rw [hN1]
  refine r_iload_n C0 31 1 dJ7_copyOf_6403c_31 rfl rfl ?_
  refine r_mmin C0 32 mlJ7_304 (Nat.le_of_ble_eq_true rfl) (Nat.le_of_ble_eq_true rfl) (Nat.le_refl _) (by show 0 + m ≤ m; omega) dJ7_copyOf_6403c_32 ?_
  rw [show (if nI m < nI c then nI m else nI c) = nI c by rw [if_neg (nI_nlt hcm (by omega))]]
  refine ca_copy (S := nA S q 10 m) C0 35 0 0 c mlJ7_150 (he.oldA hq) Is.newA rfl rfl rfl (by rw [hN1]; omega) (by rw [hN2]; omega) (by rw [hN1]; omega) (by rw [hN2]; omega) hel2 (Nat.le_of_ble_eq_true rfl) (Nat.le_of_ble_eq_true rfl) dJ7_copyOf_6403c_35 ?_
  refine r_aload_n C0 38 3 dJ7_copyOf_6403c_38 rfl rfl ?_
  refine r_aret C 39 (by first | exact Or.inl ⟨_, rfl⟩ | exact Or.inr ⟨_, rfl⟩) (by first | exact Or.inr ⟨_, rfl⟩ | exact Or.inl rfl) dJ7_copyOf_6403c_39 (Nat.le_refl _) (by show 0 + m ≤ m; omega) ?_
  refine ⟨q, hq, rfl, ?_⟩
  rw [hB1]
  refine congrArg (cW ar) ?_
  unfold GrP
  refine congrArg _ (congrArg _ (congrArg _ (congrArg _ (congrArg _ (congrArg _ (congrArg _ ?_))))))
  rw [bx_uu]
  refine congrArg (va_up _ q) (funext fun i => ?_)
  show va_cpy (S.2.2.2.2.2.2.2 e) (va_up S.2.2.2.2.2.2.2 q (fun _ => none) q) 0 0 c i = _
  unfold va_cpy
  by_cases hi : i < c
  · rw [if_pos (by omega), if_pos hi]
    simp
  · rw [if_neg (by omega), if_neg hi, va_up_self]
end C18
end
section
/-! the library's list: growing, add, remove, a new one -/
section C19
variable {D : va_G} {ar : Nat → ClassId} {tg te mi : Nat} {S : CS}
theorem ncap_le {c : Nat} (h : c ≤ 1000) : c < ncap c ∧ ncap c ≤ 2000 := by
  unfold ncap
  split
  · omega
  · split <;> omega
theorem GrP_is {S : CS} {e c m q a kd : Nat} (h : Is S a kd) (hq : q ∉ S.1) : Is (GrP S e c m q) a kd := ⟨List.mem_append_left _ h.1, (va_up_ne _ _ (h.ne hq)).trans h.2⟩
theorem GrP_new {S : CS} {e c m q : Nat} : Is (GrP S e c m q) q 10 := ⟨List.mem_append_right _ (List.mem_singleton.mpr rfl), va_up_self _ _ _⟩
theorem El.old {S S' : CS} {x : Nat} (h : El S x) (hs : ∀ a kd, Is S a kd → Is S' a kd) : El S' x := by
  rcases h with z | z | z
  · exact Or.inl (hs _ _ z)
  · exact Or.inr (Or.inl (hs _ _ z))
  · exact Or.inr (Or.inr (hs _ _ z))
set_option maxRecDepth 100000 in
theorem k_J7_copyOf_1904c {e c m : Nat} (he : Is S e 10) (hNe : S.2.2.1 e = c) (hcm : c ≤ m) (hm : m ≤ 2000) (hel : ∀ i, i < c → ∀ y, S.2.2.2.2.2.2.2 e i = some y → El S y)  : Cn D ar (XC tg te mi) yJ7_copyOf_1904c cJ7_copyOf_1904c 2 (some (.array (.object "java/lang/Object"))) 2 73 1 m [.ref e, .int (nI m)] (cW ar S) (fun r w => ∃ q, q ∉ S.1 ∧ r = some (.ref q) ∧ w = cW ar (GrP S e c m q)) := by
  refine Cn.of (own := RJ7) XC_ok (by decide) rfl (Nat.le_of_ble_eq_true rfl) (fun j C => ?_)
  have C0 := C.to
  show j _ 0 0 0 [(0, _), (1, _)] []
  refine r_aload_n C0 0 0 dJ7_copyOf_1904c_0 rfl rfl ?_
  refine r_iload_n C0 1 1 dJ7_copyOf_1904c_1 rfl rfl ?_
  refine r_aload_n C0 2 0 dJ7_copyOf_1904c_2 rfl rfl ?_
  refine ca_getC C0 3 mlJ7_86 he (Nat.le_of_ble_eq_true rfl) (Nat.le_of_ble_eq_true rfl) dJ7_copyOf_1904c_3 ?_
  refine s_call (As := [.ref _, .int _, .ref _]) C0 6 3 (k_J7_copyOf_6403c he hNe hcm hm hel) (rm_J7_copyOf_6403c (Nat.le_of_ble_eq_true rfl) (Nat.le_of_ble_eq_true rfl) (Nat.le_refl _) (by show 0 + m ≤ m; omega)) mlJ7_300 st_J7_copyOf_6403c rfl (Nat.le_of_ble_eq_true rfl) dJ7_copyOf_1904c_6 ?_
  rintro _ _ ⟨q, hq, rfl, rfl⟩
  refine r_aret C 9 (by first | exact Or.inl ⟨_, rfl⟩ | exact Or.inr ⟨_, rfl⟩) (by first | exact Or.inr ⟨_, rfl⟩ | exact Or.inl rfl) dJ7_copyOf_1904c_9 (Nat.le_refl _) (by show 0 + m ≤ m; omega) ?_
  exact ⟨q, hq, rfl, rfl⟩
set_option maxRecDepth 100000 in
theorem k_Jx4a65c_grow_92f84 {p e cap : Nat} {f : Nat → Nat} (h : LsA te S p cap e cap f)  : Cn D ar (XC tg te mi) yJx4a65c_grow_92f84 cJx4a65c_grow_92f84 4 (some (.array (.object "java/lang/Object"))) 3 94 1 (ncap cap) [.ref p, .int (nI (cap + 1))] (cW ar S) (fun r w => ∃ q, q ∉ S.1 ∧ r = some (.ref q) ∧ w = cW ar (uR (GrP S e cap (ncap cap) q) 8 p (some q))) := by
  refine Cn.of (own := RJx4a65c) XC_ok (by decide) rfl (Nat.le_of_ble_eq_true rfl) (fun j C => ?_)
  have C0 := C.to
  show j _ 0 0 0 [(0, _), (1, _)] []
  have hcap := h.2.2.2.1
  have hnc := ncap_le hcap.2
  rcases h.2.2.2.2.1 with ⟨rfl, rfl⟩ | ⟨he, hNe, h0⟩
  · refine r_aload_n C0 0 0 dJx4a65c_grow_92f84_0 rfl rfl ?_
    refine cgR_8 C0 1 h.2.2.1 flJx4a65c_9 h.1 dJx4a65c_grow_92f84_1 ?_
    refine ca_eml C0 4 dJx4a65c_grow_92f84_4 ?_
    refine r_istore_n (lv' := [(0, _), (1, _), (2, _)]) C0 5 2 dJx4a65c_grow_92f84_5 rfl rfl (by decide) rfl ?_
    refine r_iload_n C0 6 2 dJx4a65c_grow_92f84_6 rfl rfl ?_
    refine r_if_gt C0 7 20 dJx4a65c_grow_92f84_7 (by decide) (fun c_7 => ?_) (fun c_7 => ?_)
    · exact absurd c_7 (by decide)
    · refine r_aload_n C0 10 0 dJx4a65c_grow_92f84_10 rfl rfl ?_
      refine cgR_8 C0 11 h.2.2.1 flJx4a65c_9 h.1 dJx4a65c_grow_92f84_11 ?_
      refine ca_em C0 14 flJx4a65c_39 dJx4a65c_grow_92f84_14 ?_
      refine r_acmp_eq C0 17 45 dJx4a65c_grow_92f84_17 (by decide) (fun _ => ?_) (fun c_17 => absurd rfl c_17)
      refine r_aload_n C0 45 0 dJx4a65c_grow_92f84_45 rfl rfl ?_
      refine r_bipush C0 46 10 dJx4a65c_grow_92f84_46 (by decide) ?_
      refine r_iload_n C0 48 1 dJx4a65c_grow_92f84_48 rfl rfl ?_
      refine r_mmax C0 49 mlJx4a65c_79 (Nat.le_of_ble_eq_true rfl) (Nat.le_of_ble_eq_true rfl) (Nat.le_of_ble_eq_true rfl) (Nat.le_of_ble_eq_true rfl) dJx4a65c_grow_92f84_49 ?_
      rw [show (if (10 : Int32) < nI (0 + 1) then nI (0 + 1) else 10) = nI 10 by decide]
      refine ca_newO C0 52 10 clJx4a65c_7 rfl (by omega) (Nat.le_refl _) (Nat.le_of_ble_eq_true rfl) dJx4a65c_grow_92f84_52 (fun q hq => ?_)
      refine r_dup_x1 C0 55 dJx4a65c_grow_92f84_55 rfl rfl ?_
      refine cpR_8 C0 56 flJx4a65c_9 (h.1.oldA hq) dJx4a65c_grow_92f84_56 ?_
      refine r_aret C 59 (by first | exact Or.inl ⟨_, rfl⟩ | exact Or.inr ⟨_, rfl⟩) (by first | exact Or.inr ⟨_, rfl⟩ | exact Or.inl rfl) dJx4a65c_grow_92f84_59 (Nat.le_refl _) (Nat.le_of_ble_eq_true rfl) ?_
      refine ⟨q, hq, rfl, ?_⟩
      refine congrArg (cW ar) ?_
      unfold GrP
      simp
      rfl
  · refine r_aload_n C0 0 0 dJx4a65c_grow_92f84_0 rfl rfl ?_
    refine cgR_8 C0 1 h.2.2.1 flJx4a65c_9 h.1 dJx4a65c_grow_92f84_1 ?_
    refine ca_len C0 4 (by decide) he dJx4a65c_grow_92f84_4 ?_
    rw [hNe]
    refine r_istore_n (lv' := [(0, _), (1, _), (2, _)]) C0 5 2 dJx4a65c_grow_92f84_5 rfl rfl (by decide) rfl ?_
    refine r_iload_n C0 6 2 dJx4a65c_grow_92f84_6 rfl rfl ?_
    refine r_if_gt C0 7 20 dJx4a65c_grow_92f84_7 (by decide) (fun c_7 => ?_) (fun c_7 => ?_)
    · refine r_iload_n C0 20 2 dJx4a65c_grow_92f84_20 rfl rfl ?_
      refine r_iload_n C0 21 1 dJx4a65c_grow_92f84_21 rfl rfl ?_
      refine r_iload_n C0 22 2 dJx4a65c_grow_92f84_22 rfl rfl ?_
      refine r_isub C0 23 dJx4a65c_grow_92f84_23 ?_
      rw [show nI (cap + 1) - nI cap = 1 by rw [pk_sub (by omega), show cap + 1 - cap = 1 by omega]; rfl]
      refine r_iload_n C0 24 2 dJx4a65c_grow_92f84_24 rfl rfl ?_
      refine r_iconst C0 25 1 dJx4a65c_grow_92f84_25 (by decide) ?_
      refine r_ishr C0 26 dJx4a65c_grow_92f84_26 ?_
      rw [pk_shrN (n := cap) (by omega) ((1 : Int32) &&& 31) 1 (by decide), show cap / 2 ^ 1 = cap / 2 by simp]
      refine s_call (As := [.int _, .int _, .int _]) C0 27 3 (k_J8_newLength_cabcc XC_ok _ h0 hcap.2) (rm_J8_newLength_cabcc (Nat.le_of_ble_eq_true rfl) (Nat.le_of_ble_eq_true rfl) (Nat.zero_le _) (Nat.zero_le _)) mlJx4a65c_73 st_J8_newLength_cabcc rfl (Nat.le_of_ble_eq_true rfl) dJx4a65c_grow_92f84_27 ?_
      rintro _ _ ⟨rfl, rfl⟩
      refine r_istore_n (lv' := [(0, _), (1, _), (2, _), (3, _)]) C0 30 3 dJx4a65c_grow_92f84_30 rfl rfl (by decide) rfl ?_
      refine r_aload_n C0 31 0 dJx4a65c_grow_92f84_31 rfl rfl ?_
      refine r_aload_n C0 32 0 dJx4a65c_grow_92f84_32 rfl rfl ?_
      refine cgR_8 C0 33 h.2.2.1 flJx4a65c_9 h.1 dJx4a65c_grow_92f84_33 ?_
      refine r_iload_n C0 36 3 dJx4a65c_grow_92f84_36 rfl rfl ?_
      refine s_call (As := [.ref _, .int _]) C0 37 2 (k_J7_copyOf_1904c he hNe (Nat.le_of_lt hnc.1) hnc.2 (fun i hi y hy => by have := h.2.2.2.2.2 i hi; rw [this.1] at hy; cases hy; exact this.2)) (rm_J7_copyOf_1904c (Nat.le_of_ble_eq_true rfl) (Nat.le_of_ble_eq_true rfl) (Nat.le_refl _) (by show 0 + 0 + ncap cap ≤ ncap cap; omega)) mlJx4a65c_66 st_J7_copyOf_1904c rfl (Nat.le_of_ble_eq_true rfl) dJx4a65c_grow_92f84_37 ?_
      rintro _ _ ⟨q, hq, rfl, rfl⟩
      refine r_dup_x1 C0 40 dJx4a65c_grow_92f84_40 rfl rfl ?_
      refine cpR_8 C0 41 flJx4a65c_9 (GrP_is h.1 hq) dJx4a65c_grow_92f84_41 ?_
      refine r_aret C 44 (by first | exact Or.inl ⟨_, rfl⟩ | exact Or.inr ⟨_, rfl⟩) (by first | exact Or.inr ⟨_, rfl⟩ | exact Or.inl rfl) dJx4a65c_grow_92f84_44 (Nat.le_refl _) (by show 0 + 0 + ncap cap ≤ ncap cap; omega) ?_
      exact ⟨q, hq, rfl, rfl⟩
    · exact absurd ((nI_ltI (a := 0) (by omega) (by omega)).mpr h0) c_7
set_option maxRecDepth 100000 in
theorem k_Jx4a65c_grow_d5877 {p e cap : Nat} {f : Nat → Nat} (h : LsA te S p cap e cap f)  : Cn D ar (XC tg te mi) yJx4a65c_grow_d5877 cJx4a65c_grow_d5877 1 (some (.array (.object "java/lang/Object"))) 4 117 1 (ncap cap) [.ref p] (cW ar S) (fun r w => ∃ q, q ∉ S.1 ∧ r = some (.ref q) ∧ w = cW ar (uR (GrP S e cap (ncap cap) q) 8 p (some q))) := by
  refine Cn.of (own := RJx4a65c) XC_ok (by decide) rfl (Nat.le_of_ble_eq_true rfl) (fun j C => ?_)
  have C0 := C.to
  show j _ 0 0 0 [(0, _)] []
  refine r_aload_n C0 0 0 dJx4a65c_grow_d5877_0 rfl rfl ?_
  refine r_aload_n C0 1 0 dJx4a65c_grow_d5877_1 rfl rfl ?_
  refine cgI_51 C0 2 flJx4a65c_48 h.1 dJx4a65c_grow_d5877_2 ?_
  refine r_iconst C0 5 1 dJx4a65c_grow_d5877_5 (by decide) ?_
  refine r_iadd C0 6 dJx4a65c_grow_d5877_6 ?_
  rw [h.2.1, nI_1]
  refine c_call (As := [.int _]) C0 7 1 (k_Jx4a65c_grow_92f84 h) (rm_Jx4a65c_grow_92f84 (Nat.le_of_ble_eq_true rfl) (Nat.le_of_ble_eq_true rfl) (Nat.le_refl _) (by show 0 + ncap cap ≤ ncap cap; omega)) mlJx4a65c_69 im_Jx4a65c_grow_92f84 se_Jx4a65c_grow_92f84 (by decide) rfl h.1 rfl (Nat.le_of_ble_eq_true rfl) dJx4a65c_grow_d5877_7 ?_
  rintro _ _ ⟨q, hq, rfl, rfl⟩
  refine r_aret C 10 (by first | exact Or.inl ⟨_, rfl⟩ | exact Or.inr ⟨_, rfl⟩) (by first | exact Or.inr ⟨_, rfl⟩ | exact Or.inl rfl) dJx4a65c_grow_d5877_10 (Nat.le_refl _) (by show 0 + ncap cap ≤ ncap cap; omega) ?_
  exact ⟨q, hq, rfl, rfl⟩
set_option maxRecDepth 100000 in
theorem k_add3R {p n e cap x : Nat} {f : Nat → Nat} (h : LsA te S p n e cap f) (hlt : n < cap) (hx : El S x)  : Cn D ar (XC tg te mi) yJx4a65c_add_72be8 cJx4a65c_add_72be8 4 none 5 137 0 0 [.ref p, .ref x, .ref e, .int (nI n)] (cW ar S) (fun r w => r = none ∧ w = cW ar (uI (uB S e (va_up (S.2.2.2.2.2.2.2 e) n (some x))) 51 p (nI (n + 1)))) := by
  refine Cn.of (own := RJx4a65c) XC_ok (by decide) rfl (Nat.le_of_ble_eq_true rfl) (fun j C => ?_)
  have C0 := C.to
  show j _ 0 0 0 [(0, _), (1, _), (2, _), (3, _)] []
  have hcap := h.2.2.2.1
  have he : Is S e 10 ∧ S.2.2.1 e = cap := by
    rcases h.2.2.2.2.1 with ⟨-, q⟩ | q
    · omega
    · exact ⟨q.1, q.2.1⟩
  refine r_iload_n C0 0 3 dJx4a65c_add_72be8_0 rfl rfl ?_
  refine r_aload_n C0 1 2 dJx4a65c_add_72be8_1 rfl rfl ?_
  refine ca_len C0 2 (by decide) he.1 dJx4a65c_add_72be8_2 ?_
  rw [he.2]
  refine r_icmp_ne C0 3 11 dJx4a65c_add_72be8_3 (by decide) (fun c_3 => ?_) (fun c_3 => ?_)
  · refine r_aload_n C0 11 2 dJx4a65c_add_72be8_11 rfl rfl ?_
    refine r_iload_n C0 12 3 dJx4a65c_add_72be8_12 rfl rfl ?_
    refine r_aload_n C0 13 1 dJx4a65c_add_72be8_13 rfl rfl ?_
    refine ca_astO C0 14 n he.1 hx rfl (by rw [he.2]; omega) (by rw [he.2]; omega) dJx4a65c_add_72be8_14 ?_
    refine r_aload_n C0 15 0 dJx4a65c_add_72be8_15 rfl rfl ?_
    refine r_iload_n C0 16 3 dJx4a65c_add_72be8_16 rfl rfl ?_
    refine r_iconst C0 17 1 dJx4a65c_add_72be8_17 (by decide) ?_
    refine r_iadd C0 18 dJx4a65c_add_72be8_18 ?_
    rw [nI_1]
    refine cpI_51 C0 19 flJx4a65c_48 h.1 dJx4a65c_add_72be8_19 ?_
    refine r_vret C 22 dJx4a65c_add_72be8_22 (Nat.le_refl _) (Nat.le_refl _) ?_
    exact ⟨rfl, rfl⟩
  · exact absurd ((nI_eq (by omega) (by omega)).mp c_3) (by omega)
set_option maxRecDepth 100000 in
theorem k_add3F {p e cap x : Nat} {f : Nat → Nat} (h : LsA te S p cap e cap f) (hx : El S x)  : Cn D ar (XC tg te mi) yJx4a65c_add_72be8 cJx4a65c_add_72be8 4 none 5 137 1 (ncap cap) [.ref p, .ref x, .ref e, .int (nI cap)] (cW ar S) (fun r w => ∃ q, q ∉ S.1 ∧ r = none ∧ w = cW ar (uI (uB (uR (GrP S e cap (ncap cap) q) 8 p (some q)) q (va_up ((GrP S e cap (ncap cap) q).2.2.2.2.2.2.2 q) cap (some x))) 51 p (nI (cap + 1)))) := by
  refine Cn.of (own := RJx4a65c) XC_ok (by decide) rfl (Nat.le_of_ble_eq_true rfl) (fun j C => ?_)
  have C0 := C.to
  show j _ 0 0 0 [(0, _), (1, _), (2, _), (3, _)] []
  have hcap := h.2.2.2.1
  have hnc := ncap_le hcap.2
  have key : ∀ l2 : List (Nat × Value), l2 = [(0, .ref p), (1, .ref x), (2, .ref e), (3, .int (nI cap))] → j (cW ar S) 0 0 6 l2 [] := by
    intro l2 hl2
    subst hl2
    refine r_aload_n C0 6 0 dJx4a65c_add_72be8_6 rfl rfl ?_
    refine c_call (As := []) C0 7 0 (k_Jx4a65c_grow_d5877 h) (rm_Jx4a65c_grow_d5877 (Nat.le_of_ble_eq_true rfl) (Nat.le_of_ble_eq_true rfl) (Nat.le_refl _) (by show 0 + ncap cap ≤ ncap cap; omega)) mlJx4a65c_129 im_Jx4a65c_grow_d5877 se_Jx4a65c_grow_d5877 (by decide) rfl h.1 rfl (Nat.le_of_ble_eq_true rfl) dJx4a65c_add_72be8_7 ?_
    rintro _ _ ⟨q, hq, rfl, rfl⟩
    have hNq : (GrP S e cap (ncap cap) q).2.2.1 q = ncap cap := va_up_self _ _ _
    have hx2 : El (GrP S e cap (ncap cap) q) x := hx.old (fun a kd z => GrP_is z hq)
    refine r_astore_n (lv' := [(0, _), (1, _), (2, _), (3, _)]) C0 10 2 dJx4a65c_add_72be8_10 rfl rfl (by decide) rfl ?_
    refine r_aload_n C0 11 2 dJx4a65c_add_72be8_11 rfl rfl ?_
    refine r_iload_n C0 12 3 dJx4a65c_add_72be8_12 rfl rfl ?_
    refine r_aload_n C0 13 1 dJx4a65c_add_72be8_13 rfl rfl ?_
    refine ca_astO C0 14 cap (GrP_new (S := S) (e := e) (c := cap) (m := ncap cap)) hx2 rfl (by show cap < (GrP S e cap (ncap cap) q).2.2.1 q; rw [hNq]; omega) (by show (GrP S e cap (ncap cap) q).2.2.1 q < _; rw [hNq]; omega) dJx4a65c_add_72be8_14 ?_
    refine r_aload_n C0 15 0 dJx4a65c_add_72be8_15 rfl rfl ?_
    refine r_iload_n C0 16 3 dJx4a65c_add_72be8_16 rfl rfl ?_
    refine r_iconst C0 17 1 dJx4a65c_add_72be8_17 (by decide) ?_
    refine r_iadd C0 18 dJx4a65c_add_72be8_18 ?_
    rw [nI_1]
    refine cpI_51 C0 19 flJx4a65c_48 (GrP_is (S := S) (e := e) (c := cap) (m := ncap cap) h.1 hq) dJx4a65c_add_72be8_19 ?_
    refine r_vret C 22 dJx4a65c_add_72be8_22 (Nat.le_refl _) (by show 0 + ncap cap ≤ ncap cap; omega) ?_
    exact ⟨q, hq, rfl, rfl⟩
  rcases h.2.2.2.2.1 with ⟨he, h0⟩ | ⟨he, hNe, h0⟩
  · subst he
    refine r_iload_n C0 0 3 dJx4a65c_add_72be8_0 rfl rfl ?_
    refine r_aload_n C0 1 2 dJx4a65c_add_72be8_1 rfl rfl ?_
    refine ca_eml C0 2 dJx4a65c_add_72be8_2 ?_
    refine r_icmp_ne C0 3 11 dJx4a65c_add_72be8_3 (by decide) (fun c_3 => ?_) (fun c_3 => ?_)
    · exact absurd (by rw [h0]; rfl) c_3
    · exact key _ rfl
  · refine r_iload_n C0 0 3 dJx4a65c_add_72be8_0 rfl rfl ?_
    refine r_aload_n C0 1 2 dJx4a65c_add_72be8_1 rfl rfl ?_
    refine ca_len C0 2 (by decide) he dJx4a65c_add_72be8_2 ?_
    rw [hNe]
    refine r_icmp_ne C0 3 11 dJx4a65c_add_72be8_3 (by decide) (fun c_3 => ?_) (fun c_3 => ?_)
    · exact absurd rfl c_3
    · exact key _ rfl
theorem AddP.R {te : Nat} {S : CS} {p n e cap x : Nat} {f : Nat → Nat} {v : Int32} (h : LsA te S p n e cap f) (hlt : n < cap) : AddP te S (uI (uB (uI S 50 p v) e (va_up (S.2.2.2.2.2.2.2 e) n (some x))) 51 p (nI (n + 1))) p n e cap x e cap := by
  have he : Is S e 10 ∧ S.2.2.1 e = cap := by
    have hcap := h.2.2.2.1
    rcases h.2.2.2.2.1 with ⟨-, q⟩ | q
    · omega
    · exact ⟨q.1, q.2.1⟩
  refine ⟨fun a ha => ⟨ha, rfl, rfl, rfl⟩, ⟨fun g h1 h2 => ?_, ?_⟩, ⟨fun g hg => rfl, ?_⟩, rfl, fun a ha hne => va_up_ne _ _ hne, he, Or.inl ⟨rfl, rfl, hlt⟩, fun i hi => ?_, ?_⟩
  · show up2 (up2 S.2.2.2.1 50 p v) 51 p _ g = _
    rw [up2_n h2, up2_n h1]
  · show up2 (up2 S.2.2.2.1 50 p v) 51 p _ 51 = _
    rw [up2_s, up2_n (by decide)]
  · funext a
    show S.2.2.2.2.1 8 a = va_up (S.2.2.2.2.1 8) p (some e) a
    unfold va_up
    by_cases q : a = p
    · rw [if_pos q, q]; exact h.2.2.1
    · rw [if_neg q]
  · show va_up S.2.2.2.2.2.2.2 e _ e i = _
    rw [va_up_self, va_up_ne _ _ (by omega)]
  · show va_up S.2.2.2.2.2.2.2 e _ e n = _
    rw [va_up_self, va_up_self]
theorem AddP.F {te : Nat} {S : CS} {p e cap x q : Nat} {f : Nat → Nat} {v : Int32} (h : LsA te S p cap e cap f) (hq : q ∉ S.1) : AddP te S (uI (uB (uR (GrP (uI S 50 p v) e cap (ncap cap) q) 8 p (some q)) q (va_up ((GrP (uI S 50 p v) e cap (ncap cap) q).2.2.2.2.2.2.2 q) cap (some x))) 51 p (nI (cap + 1))) p cap e cap x q (ncap cap) := by
  refine ⟨fun a ha => ?_, ⟨fun g h1 h2 => ?_, ?_⟩, ⟨fun g hg => ?_, ?_⟩, rfl, fun a ha hne => ?_, ⟨GrP_new (S := uI S 50 p v) (e := e) (c := cap) (m := ncap cap), va_up_self _ _ _⟩, Or.inr ⟨hq, rfl, rfl⟩, fun i hi => ?_, ?_⟩
  · have hne : a ≠ q := fun z => hq (z ▸ ha)
    exact ⟨List.mem_append_left _ ha, va_up_ne _ _ hne, va_up_ne _ _ hne, va_up_ne _ _ hne⟩
  · show up2 (up2 S.2.2.2.1 50 p v) 51 p _ g = _
    rw [up2_n h2, up2_n h1]
  · show up2 (up2 S.2.2.2.1 50 p v) 51 p _ 51 = _
    rw [up2_s, up2_n (by decide)]
  · show upr S.2.2.2.2.1 8 p _ g = _
    rw [upr_n hg]
  · show upr S.2.2.2.2.1 8 p _ 8 = _
    exact if_pos rfl
  · have hne2 : a ≠ q := fun z => hq (z ▸ ha)
    show va_up (va_up S.2.2.2.2.2.2.2 q _) q _ a = _
    rw [va_up_ne _ _ hne2, va_up_ne _ _ hne2]
  · show va_up (va_up S.2.2.2.2.2.2.2 q _) q (va_up (va_up S.2.2.2.2.2.2.2 q _ q) cap (some x)) q i = _
    rw [va_up_self, va_up_ne _ _ (by omega), va_up_self, if_pos hi]
  · show va_up (va_up S.2.2.2.2.2.2.2 q _) q _ q cap = _
    rw [va_up_self, va_up_self]
set_option maxRecDepth 100000 in
theorem k_addR {p n e cap x : Nat} {f : Nat → Nat} (h : LsA te S p n e cap f) (hlt : n < cap) (hx : El S x)  : Cn D ar (XC tg te mi) yJx4a65c_add_9ea2d cJx4a65c_add_9ea2d 2 (some .boolean) 6 160 0 0 [.ref p, .ref x] (cW ar S) (fun r w => r = some (.int 1) ∧ ∃ (S' : CS) (e' cap' : Nat), w = cW ar S' ∧ AddP te S S' p n e cap x e' cap') := by
  refine Cn.of (own := RJx4a65c) XC_ok (by decide) rfl (Nat.le_of_ble_eq_true rfl) (fun j C => ?_)
  have C0 := C.to
  show j _ 0 0 0 [(0, _), (1, _)] []
  refine r_aload_n C0 0 0 dJx4a65c_add_9ea2d_0 rfl rfl ?_
  refine r_dup C0 1 dJx4a65c_add_9ea2d_1 rfl ?_
  refine cgI_50 C0 2 (Or.inr rfl) flJx4a65c_63 h.1 dJx4a65c_add_9ea2d_2 ?_
  refine r_iconst C0 5 1 dJx4a65c_add_9ea2d_5 (by decide) ?_
  refine r_iadd C0 6 dJx4a65c_add_9ea2d_6 ?_
  refine cpI_50 C0 7 (Or.inr rfl) flJx4a65c_63 h.1 dJx4a65c_add_9ea2d_7 ?_
  refine r_aload_n C0 10 0 dJx4a65c_add_9ea2d_10 rfl rfl ?_
  refine r_aload_n C0 11 1 dJx4a65c_add_9ea2d_11 rfl rfl ?_
  refine r_aload_n C0 12 0 dJx4a65c_add_9ea2d_12 rfl rfl ?_
  refine cgR_8 C0 13 h.2.2.1 flJx4a65c_9 h.1 dJx4a65c_add_9ea2d_13 ?_
  refine r_aload_n C0 16 0 dJx4a65c_add_9ea2d_16 rfl rfl ?_
  refine cgI_51 C0 17 flJx4a65c_48 h.1 dJx4a65c_add_9ea2d_17 ?_
  rw [show (uI S 50 p (S.2.2.2.1 50 p + 1)).2.2.2.1 51 p = S.2.2.2.1 51 p from rfl, h.2.1]
  refine c_call (As := [.ref _, .ref _, .int _]) C0 20 3 (k_add3R (S := uI S 50 p _) h hlt hx) (rm_Jx4a65c_add_72be8 (Nat.le_of_ble_eq_true rfl) (Nat.le_of_ble_eq_true rfl) (Nat.le_refl _) (Nat.le_refl _)) mlJx4a65c_131 im_Jx4a65c_add_72be8 se_Jx4a65c_add_72be8 (by decide) rfl h.1 rfl (Nat.le_of_ble_eq_true rfl) dJx4a65c_add_9ea2d_20 ?_
  rintro _ _ ⟨rfl, rfl⟩
  refine r_iconst C0 23 1 dJx4a65c_add_9ea2d_23 (by decide) ?_
  refine r_zret C 24 rfl dJx4a65c_add_9ea2d_24 (Nat.le_refl _) (Nat.le_refl _) ?_
  exact ⟨rfl, _, e, cap, rfl, AddP.R h hlt⟩
set_option maxRecDepth 100000 in
theorem k_addF {p e cap x : Nat} {f : Nat → Nat} (h : LsA te S p cap e cap f) (hx : El S x)  : Cn D ar (XC tg te mi) yJx4a65c_add_9ea2d cJx4a65c_add_9ea2d 2 (some .boolean) 6 160 1 (ncap cap) [.ref p, .ref x] (cW ar S) (fun r w => r = some (.int 1) ∧ ∃ (S' : CS) (e' cap' : Nat), w = cW ar S' ∧ AddP te S S' p cap e cap x e' cap') := by
  refine Cn.of (own := RJx4a65c) XC_ok (by decide) rfl (Nat.le_of_ble_eq_true rfl) (fun j C => ?_)
  have C0 := C.to
  show j _ 0 0 0 [(0, _), (1, _)] []
  refine r_aload_n C0 0 0 dJx4a65c_add_9ea2d_0 rfl rfl ?_
  refine r_dup C0 1 dJx4a65c_add_9ea2d_1 rfl ?_
  refine cgI_50 C0 2 (Or.inr rfl) flJx4a65c_63 h.1 dJx4a65c_add_9ea2d_2 ?_
  refine r_iconst C0 5 1 dJx4a65c_add_9ea2d_5 (by decide) ?_
  refine r_iadd C0 6 dJx4a65c_add_9ea2d_6 ?_
  refine cpI_50 C0 7 (Or.inr rfl) flJx4a65c_63 h.1 dJx4a65c_add_9ea2d_7 ?_
  refine r_aload_n C0 10 0 dJx4a65c_add_9ea2d_10 rfl rfl ?_
  refine r_aload_n C0 11 1 dJx4a65c_add_9ea2d_11 rfl rfl ?_
  refine r_aload_n C0 12 0 dJx4a65c_add_9ea2d_12 rfl rfl ?_
  refine cgR_8 C0 13 h.2.2.1 flJx4a65c_9 h.1 dJx4a65c_add_9ea2d_13 ?_
  refine r_aload_n C0 16 0 dJx4a65c_add_9ea2d_16 rfl rfl ?_
  refine cgI_51 C0 17 flJx4a65c_48 h.1 dJx4a65c_add_9ea2d_17 ?_
  rw [show (uI S 50 p (S.2.2.2.1 50 p + 1)).2.2.2.1 51 p = S.2.2.2.1 51 p from rfl, h.2.1]
  refine c_call (As := [.ref _, .ref _, .int _]) C0 20 3 (k_add3F (S := uI S 50 p _) h hx) (rm_Jx4a65c_add_72be8 (Nat.le_of_ble_eq_true rfl) (Nat.le_of_ble_eq_true rfl) (Nat.le_refl _) (by show 0 + ncap cap ≤ ncap cap; omega)) mlJx4a65c_131 im_Jx4a65c_add_72be8 se_Jx4a65c_add_72be8 (by decide) rfl h.1 rfl (Nat.le_of_ble_eq_true rfl) dJx4a65c_add_9ea2d_20 ?_
  rintro _ _ ⟨q, hq, rfl, rfl⟩
  refine r_iconst C0 23 1 dJx4a65c_add_9ea2d_23 (by decide) ?_
  refine r_zret C 24 rfl dJx4a65c_add_9ea2d_24 (Nat.le_refl _) (by show 0 + ncap cap ≤ ncap cap; omega) ?_
  exact ⟨rfl, _, q, ncap cap, rfl, AddP.F h hq⟩
def fRem (S : CS) (p e n : Nat) (g : Nat → Option Nat) (v : Int32) : CS := uB (uI (uI S 50 p v) 51 p (nI (n - 1))) e (va_up g (n - 1) none)
theorem RemP.of {S : CS} {p e n : Nat} {g : Nat → Option Nat} {v : Int32} (hg : ∀ i, i < n - 1 → g i = S.2.2.2.2.2.2.2 e (i + 1)) : RemP S (fRem S p e n g v) p n e := by
  refine ⟨rfl, rfl, rfl, ⟨fun f h1 h2 => ?_, ?_⟩, rfl, rfl, rfl, fun a hne => va_up_ne _ _ hne, fun i hi => ?_⟩
  · show up2 (up2 S.2.2.2.1 50 p v) 51 p _ f = _
    rw [up2_n h2, up2_n h1]
  · show up2 (up2 S.2.2.2.1 50 p v) 51 p _ 51 = _
    rw [up2_s, up2_n (by decide)]
  · show va_up S.2.2.2.2.2.2.2 e _ e i = _
    rw [va_up_self, va_up_ne _ _ (by omega)]
    exact hg i hi
set_option maxRecDepth 100000 in
theorem k_Jx4a65c_fastRemove_b59b0 {p n e cap : Nat} {f : Nat → Nat} (h : LsA te S p n e cap f) (hn : 0 < n)  : Cn D ar (XC tg te mi) yJx4a65c_fastRemove_b59b0 cJx4a65c_fastRemove_b59b0 4 none 1 40 0 0 [.ref p, .ref e, .int 0] (cW ar S) (fun r w => r = none ∧ ∃ (S' : CS), w = cW ar S' ∧ RemP S S' p n e) := by
  refine Cn.of (own := RJx4a65c) XC_ok (by decide) rfl (Nat.le_of_ble_eq_true rfl) (fun j C => ?_)
  have C0 := C.to
  show j _ 0 0 0 [(0, _), (1, _), (2, _)] []
  have hcap := h.2.2.2.1
  have he := h.arr hn
  have hsz : up2 S.2.2.2.1 50 p (S.2.2.2.1 50 p + 1) 51 p - 1 = nI (n - 1) := nI_pr h.2.1 hn
  refine r_aload_n C0 0 0 dJx4a65c_fastRemove_b59b0_0 rfl rfl ?_
  refine r_dup C0 1 dJx4a65c_fastRemove_b59b0_1 rfl ?_
  refine cgI_50 C0 2 (Or.inr rfl) flJx4a65c_63 h.1 dJx4a65c_fastRemove_b59b0_2 ?_
  refine r_iconst C0 5 1 dJx4a65c_fastRemove_b59b0_5 (by decide) ?_
  refine r_iadd C0 6 dJx4a65c_fastRemove_b59b0_6 ?_
  refine cpI_50 C0 7 (Or.inr rfl) flJx4a65c_63 h.1 dJx4a65c_fastRemove_b59b0_7 ?_
  refine r_aload_n C0 10 0 dJx4a65c_fastRemove_b59b0_10 rfl rfl ?_
  refine cgI_51 C0 11 flJx4a65c_48 h.1 dJx4a65c_fastRemove_b59b0_11 ?_
  refine r_iconst C0 14 1 dJx4a65c_fastRemove_b59b0_14 (by decide) ?_
  refine r_isub C0 15 dJx4a65c_fastRemove_b59b0_15 ?_
  rw [hsz]
  refine r_dup C0 16 dJx4a65c_fastRemove_b59b0_16 rfl ?_
  refine r_istore_n (lv' := [(0, _), (1, _), (2, _), (3, _)]) C0 17 3 dJx4a65c_fastRemove_b59b0_17 rfl rfl (by decide) rfl ?_
  refine r_iload_n C0 18 2 dJx4a65c_fastRemove_b59b0_18 rfl rfl ?_
  refine r_icmp_le C0 19 34 dJx4a65c_fastRemove_b59b0_19 (by decide) (fun c_19 => ?_) (fun c_19 => ?_)
  · refine r_aload_n C0 34 1 dJx4a65c_fastRemove_b59b0_34 rfl rfl ?_
    refine r_aload_n C0 35 0 dJx4a65c_fastRemove_b59b0_35 rfl rfl ?_
    refine r_iload_n C0 36 3 dJx4a65c_fastRemove_b59b0_36 rfl rfl ?_
    refine r_dup_x1 C0 37 dJx4a65c_fastRemove_b59b0_37 rfl rfl ?_
    refine cpI_51 C0 38 flJx4a65c_48 h.1 dJx4a65c_fastRemove_b59b0_38 ?_
    refine r_null C0 41 dJx4a65c_fastRemove_b59b0_41 ?_
    refine ca_astN C0 42 (n - 1) (by decide) he.1 rfl (by show n - 1 < S.2.2.1 e; rw [he.2]; omega) (by show S.2.2.1 e < _; rw [he.2]; omega) dJx4a65c_fastRemove_b59b0_42 ?_
    refine r_vret C 43 dJx4a65c_fastRemove_b59b0_43 (Nat.le_refl _) (Nat.le_refl _) ?_
    refine ⟨rfl, fRem S p e n (S.2.2.2.2.2.2.2 e) (S.2.2.2.1 50 p + 1), rfl, RemP.of (fun i hi => ?_)⟩
    have : n - 1 = 0 := Classical.byContradiction (fun z => nI_nle (n := n - 1) (by omega) (by omega) c_19)
    omega
  · refine r_aload_n C0 22 1 dJx4a65c_fastRemove_b59b0_22 rfl rfl ?_
    refine r_iload_n C0 23 2 dJx4a65c_fastRemove_b59b0_23 rfl rfl ?_
    refine r_iconst C0 24 1 dJx4a65c_fastRemove_b59b0_24 (by decide) ?_
    refine r_iadd C0 25 dJx4a65c_fastRemove_b59b0_25 ?_
    refine r_aload_n C0 26 1 dJx4a65c_fastRemove_b59b0_26 rfl rfl ?_
    refine r_iload_n C0 27 2 dJx4a65c_fastRemove_b59b0_27 rfl rfl ?_
    refine r_iload_n C0 28 3 dJx4a65c_fastRemove_b59b0_28 rfl rfl ?_
    refine r_iload_n C0 29 2 dJx4a65c_fastRemove_b59b0_29 rfl rfl ?_
    refine r_isub C0 30 dJx4a65c_fastRemove_b59b0_30 ?_
    rw [show nI (n - 1) - 0 = nI (n - 1) by simp]
    refine ca_copy (S := uI S 50 p (S.2.2.2.1 50 p + 1)) C0 31 1 0 (n - 1) mlJx4a65c_112 he.1 he.1 rfl rfl rfl (by show 1 + (n - 1) ≤ S.2.2.1 e; rw [he.2]; omega) (by show 0 + (n - 1) ≤ S.2.2.1 e; rw [he.2]; omega) (by show S.2.2.1 e < _; rw [he.2]; omega) (by show S.2.2.1 e < _; rw [he.2]; omega) (fun i hi y hy => by have h9 := h.2.2.2.2.2 (1 + i) (by omega); rw [show (uI S 50 p (S.2.2.2.1 50 p + 1)).2.2.2.2.2.2.2 e (1 + i) = some (f (1 + i)) from h9.1] at hy; cases hy; exact h9.2) (Nat.le_of_ble_eq_true rfl) (Nat.le_of_ble_eq_true rfl) dJx4a65c_fastRemove_b59b0_31 ?_
    refine r_aload_n C0 34 1 dJx4a65c_fastRemove_b59b0_34 rfl rfl ?_
    refine r_aload_n C0 35 0 dJx4a65c_fastRemove_b59b0_35 rfl rfl ?_
    refine r_iload_n C0 36 3 dJx4a65c_fastRemove_b59b0_36 rfl rfl ?_
    refine r_dup_x1 C0 37 dJx4a65c_fastRemove_b59b0_37 rfl rfl ?_
    refine cpI_51 C0 38 flJx4a65c_48 h.1 dJx4a65c_fastRemove_b59b0_38 ?_
    refine r_null C0 41 dJx4a65c_fastRemove_b59b0_41 ?_
    refine ca_astN C0 42 (n - 1) (by decide) he.1 rfl (by show n - 1 < S.2.2.1 e; rw [he.2]; omega) (by show S.2.2.1 e < _; rw [he.2]; omega) dJx4a65c_fastRemove_b59b0_42 ?_
    refine r_vret C 43 dJx4a65c_fastRemove_b59b0_43 (Nat.le_refl _) (Nat.le_refl _) ?_
    refine ⟨rfl, fRem S p e n (va_cpy (S.2.2.2.2.2.2.2 e) (S.2.2.2.2.2.2.2 e) 1 0 (n - 1)) (S.2.2.2.1 50 p + 1), ?_, RemP.of (fun i hi => ?_)⟩
    · refine congrArg (cW ar) ?_
      unfold fRem
      refine congrArg _ (congrArg _ (congrArg _ (congrArg _ (congrArg _ (congrArg _ (congrArg _ ?_))))))
      show va_up (va_up S.2.2.2.2.2.2.2 e _) e (va_up (va_up S.2.2.2.2.2.2.2 e _ e) (n - 1) none) = _
      rw [bx_uu, va_up_self]
    · unfold va_cpy
      rw [if_pos (by omega)]
      rw [show 1 + (i - 0) = i + 1 by omega]
set_option maxRecDepth 100000 in
theorem k_Jx4a65c_remove_915e3 {p n e cap : Nat} {f : Nat → Nat} (h : LsA te S p n e cap f) (hn : 0 < n)  : Cn D ar (XC tg te mi) yJx4a65c_remove_915e3 cJx4a65c_remove_915e3 4 (some (.object "java/lang/Object")) 2 63 0 0 [.ref p, .int 0] (cW ar S) (fun r w => r = some (.ref (f 0)) ∧ ∃ (S' : CS), w = cW ar S' ∧ RemP S S' p n e) := by
  refine Cn.of (own := RJx4a65c) XC_ok (by decide) rfl (Nat.le_of_ble_eq_true rfl) (fun j C => ?_)
  have C0 := C.to
  show j _ 0 0 0 [(0, _), (1, _)] []
  have hcap := h.2.2.2.1
  have he := h.arr hn
  refine r_iload_n C0 0 1 dJx4a65c_remove_915e3_0 rfl rfl ?_
  refine r_aload_n C0 1 0 dJx4a65c_remove_915e3_1 rfl rfl ?_
  refine cgI_51 C0 2 flJx4a65c_48 h.1 dJx4a65c_remove_915e3_2 ?_
  rw [h.2.1]
  refine s_call (As := [.int _, .int _]) C0 5 2 (k_J15_checkIndex_7cf53 (x := 0) XC_ok _ hn (by omega)) (rm_J15_checkIndex_7cf53 (by decide) (by decide) (Nat.le_refl _) (Nat.le_refl _)) mlJx4a65c_118 st_J15_checkIndex_7cf53 rfl (Nat.le_of_ble_eq_true rfl) dJx4a65c_remove_915e3_5 ?_
  rintro _ _ ⟨rfl, rfl⟩
  refine r_pop C0 8 dJx4a65c_remove_915e3_8 rfl ?_
  refine r_aload_n C0 9 0 dJx4a65c_remove_915e3_9 rfl rfl ?_
  refine cgR_8 C0 10 h.2.2.1 flJx4a65c_9 h.1 dJx4a65c_remove_915e3_10 ?_
  refine r_astore_n (lv' := [(0, _), (1, _), (2, _)]) C0 13 2 dJx4a65c_remove_915e3_13 rfl rfl (by decide) rfl ?_
  refine r_aload_n C0 14 2 dJx4a65c_remove_915e3_14 rfl rfl ?_
  refine r_iload_n C0 15 1 dJx4a65c_remove_915e3_15 rfl rfl ?_
  refine ca_ald C0 16 0 (by decide) he.1 rfl (by rw [he.2]; omega) (by rw [he.2]; omega) (h.2.2.2.2.2 0 hn).1 dJx4a65c_remove_915e3_16 ?_
  refine r_astore_n (lv' := [(0, _), (1, _), (2, _), (3, _)]) C0 17 3 dJx4a65c_remove_915e3_17 rfl rfl (by decide) rfl ?_
  refine r_aload_n C0 18 0 dJx4a65c_remove_915e3_18 rfl rfl ?_
  refine r_aload_n C0 19 2 dJx4a65c_remove_915e3_19 rfl rfl ?_
  refine r_iload_n C0 20 1 dJx4a65c_remove_915e3_20 rfl rfl ?_
  refine c_call (As := [.ref _, .int _]) C0 21 2 (k_Jx4a65c_fastRemove_b59b0 h hn) (rm_Jx4a65c_fastRemove_b59b0 (by decide) (by decide) (Nat.le_refl _) (Nat.le_refl _)) mlJx4a65c_144 im_Jx4a65c_fastRemove_b59b0 se_Jx4a65c_fastRemove_b59b0 (by decide) rfl h.1 rfl (Nat.le_of_ble_eq_true rfl) dJx4a65c_remove_915e3_21 ?_
  rintro _ _ ⟨rfl, S', rfl, hR⟩
  refine r_aload_n C0 24 3 dJx4a65c_remove_915e3_24 rfl rfl ?_
  refine r_aret C 25 (by first | exact Or.inl ⟨_, rfl⟩ | exact Or.inr ⟨_, rfl⟩) (by first | exact Or.inr ⟨_, rfl⟩ | exact Or.inl rfl) dJx4a65c_remove_915e3_25 (Nat.le_refl _) (Nat.le_refl _) ?_
  exact ⟨rfl, S', rfl, hR⟩
set_option maxRecDepth 100000 in
theorem k_Jxa1e45_init_da8c8 {X : XT} (hX : Xok X) {p : Nat} (ws : va_W)  : Cn D ar X yJxa1e45_init_da8c8 cJxa1e45_init_da8c8 1 none 1 12 0 0 [.ref p] ws (fun r w => r = none ∧ w = ws) := by
  refine Cn.of (own := RJxa1e45) hX (by decide) rfl (Nat.le_of_ble_eq_true rfl) (fun j C => ?_)
  have C0 := C.to
  show j _ 0 0 0 [(0, _)] []
  refine r_aload_n C0 0 0 dJxa1e45_init_da8c8_0 rfl rfl ?_
  refine r_objInit C0 1 mlJxa1e45_1 im_oi co_oi dJxa1e45_init_da8c8_1 (Nat.le_of_ble_eq_true rfl) (Nat.le_of_ble_eq_true rfl) ?_
  refine r_vret C 4 dJxa1e45_init_da8c8_4 (Nat.le_refl _) (Nat.le_refl _) ?_
  exact ⟨rfl, rfl⟩
set_option maxRecDepth 100000 in
theorem k_Jxc12de_init_da8c8 {X : XT} (hX : Xok X) {p : Nat} (hp : Is S p 6)  : Cn D ar X yJxc12de_init_da8c8 cJxc12de_init_da8c8 1 none 2 32 0 0 [.ref p] (cW ar S) (fun r w => r = none ∧ w = cW ar (uI S 50 p 0)) := by
  refine Cn.of (own := RJxc12de) hX (by decide) rfl (Nat.le_of_ble_eq_true rfl) (fun j C => ?_)
  have C0 := C.to
  show j _ 0 0 0 [(0, _)] []
  refine r_aload_n C0 0 0 dJxc12de_init_da8c8_0 rfl rfl ?_
  refine c_init (As := []) C0 1 0 (k_Jxa1e45_init_da8c8 hX _) (rm_Jxa1e45_init_da8c8 (by decide) (by decide) (Nat.le_refl _) (Nat.le_refl _)) mlJxc12de_1 im_Jxa1e45_init_da8c8 rfl rfl (Nat.le_of_ble_eq_true rfl) dJxc12de_init_da8c8_1 ?_
  rintro _ _ ⟨rfl, rfl⟩
  refine r_aload_n C0 4 0 dJxc12de_init_da8c8_4 rfl rfl ?_
  refine r_iconst C0 5 0 dJxc12de_init_da8c8_5 (by decide) ?_
  refine cpI_50 C0 6 (Or.inl rfl) flJxc12de_7 hp dJxc12de_init_da8c8_6 ?_
  refine r_vret C 9 dJxc12de_init_da8c8_9 (Nat.le_refl _) (Nat.le_refl _) ?_
  exact ⟨rfl, rfl⟩
set_option maxRecDepth 100000 in
theorem k_Jx4a65c_init_da8c8 {p : Nat} (hp : Is S p 6)  : Cn D ar (XC tg te mi) yJx4a65c_init_da8c8 cJx4a65c_init_da8c8 1 none 3 52 0 0 [.ref p] (cW ar S) (fun r w => r = none ∧ w = cW ar (uR (uI S 50 p 0) 8 p (some te))) := by
  refine Cn.of (own := RJx4a65c) XC_ok (by decide) rfl (Nat.le_of_ble_eq_true rfl) (fun j C => ?_)
  have C0 := C.to
  show j _ 0 0 0 [(0, _)] []
  refine r_aload_n C0 0 0 dJx4a65c_init_da8c8_0 rfl rfl ?_
  refine c_init (As := []) C0 1 0 (k_Jxc12de_init_da8c8 XC_ok hp) (rm_Jxc12de_init_da8c8 (by decide) (by decide) (Nat.le_refl _) (Nat.le_refl _)) mlJx4a65c_1 im_Jxc12de_init_da8c8 rfl rfl (Nat.le_of_ble_eq_true rfl) dJx4a65c_init_da8c8_1 ?_
  rintro _ _ ⟨rfl, rfl⟩
  refine r_aload_n C0 4 0 dJx4a65c_init_da8c8_4 rfl rfl ?_
  refine ca_em C0 5 flJx4a65c_39 dJx4a65c_init_da8c8_5 ?_
  refine cpR_8 C0 8 flJx4a65c_9 hp dJx4a65c_init_da8c8_8 ?_
  refine r_vret C 11 dJx4a65c_init_da8c8_11 (Nat.le_refl _) (Nat.le_refl _) ?_
  exact ⟨rfl, rfl⟩
end C19
end
section
/-! the class: its small methods and its constructors -/
def hbN (b i : Int32) : Int32 := if (b >>> (i &&& 31)) &&& 1 = 1 then 1 else 0
def bcN (t : Int32) : Int32 :=
  let a := t - ((t.toUInt32 >>> ((1 : Int32).toUInt32 &&& Int32.toUInt32 31)).toInt32 &&& 1431655765)
  let b := (a &&& 858993459) + ((a.toUInt32 >>> ((2 : Int32).toUInt32 &&& Int32.toUInt32 31)).toInt32 &&& 858993459)
  let c := (b + (b.toUInt32 >>> ((4 : Int32).toUInt32 &&& Int32.toUInt32 31)).toInt32) &&& 252645135
  let d := c + (c.toUInt32 >>> ((8 : Int32).toUInt32 &&& Int32.toUInt32 31)).toInt32
  (d + (d.toUInt32 >>> ((16 : Int32).toUInt32 &&& Int32.toUInt32 31)).toInt32) &&& 63
theorem bcN_dull : ∀ {x : Nat}, x < 16 → bcN (nI x) = dullN (nI x)
  | 0, _ => by decide +kernel
  | 1, _ => by decide +kernel
  | 2, _ => by decide +kernel
  | 3, _ => by decide +kernel
  | 4, _ => by decide +kernel
  | 5, _ => by decide +kernel
  | 6, _ => by decide +kernel
  | 7, _ => by decide +kernel
  | 8, _ => by decide +kernel
  | 9, _ => by decide +kernel
  | 10, _ => by decide +kernel
  | 11, _ => by decide +kernel
  | 12, _ => by decide +kernel
  | 13, _ => by decide +kernel
  | 14, _ => by decide +kernel
  | 15, _ => by decide +kernel
  | _ + 16, h => absurd h (by omega)
theorem geN_grade {v : Int32} : ∀ {g : Nat}, g ≤ 5 → (∀ k, k < g → geN k ≤ v) → (g < 5 → ¬ geN g ≤ v) → nI g = gradeN v
  | 0, _, h1, h2 => by
    have a0 : ¬ (43 : Int32) ≤ v := h2 (by decide)
    simp only [gradeN, if_neg a0]; rfl
  | 1, _, h1, h2 => by
    have a0 : (43 : Int32) ≤ v := h1 0 (by decide)
    have a1 : ¬ (48 : Int32) ≤ v := h2 (by decide)
    simp only [gradeN, if_pos a0, if_neg a1]; rfl
  | 2, _, h1, h2 => by
    have a0 : (43 : Int32) ≤ v := h1 0 (by decide)
    have a1 : (48 : Int32) ≤ v := h1 1 (by decide)
    have a2 : ¬ (53 : Int32) ≤ v := h2 (by decide)
    simp only [gradeN, if_pos a0, if_pos a1, if_neg a2]; rfl
  | 3, _, h1, h2 => by
    have a0 : (43 : Int32) ≤ v := h1 0 (by decide)
    have a1 : (48 : Int32) ≤ v := h1 1 (by decide)
    have a2 : (53 : Int32) ≤ v := h1 2 (by decide)
    have a3 : ¬ (58 : Int32) ≤ v := h2 (by decide)
    simp only [gradeN, if_pos a0, if_pos a1, if_pos a2, if_neg a3]; rfl
  | 4, _, h1, h2 => by
    have a0 : (43 : Int32) ≤ v := h1 0 (by decide)
    have a1 : (48 : Int32) ≤ v := h1 1 (by decide)
    have a2 : (53 : Int32) ≤ v := h1 2 (by decide)
    have a3 : (58 : Int32) ≤ v := h1 3 (by decide)
    have a4 : ¬ (63 : Int32) ≤ v := h2 (by decide)
    simp only [gradeN, if_pos a0, if_pos a1, if_pos a2, if_pos a3, if_neg a4]; rfl
  | 5, _, h1, h2 => by
    have a0 : (43 : Int32) ≤ v := h1 0 (by decide)
    have a1 : (48 : Int32) ≤ v := h1 1 (by decide)
    have a2 : (53 : Int32) ≤ v := h1 2 (by decide)
    have a3 : (58 : Int32) ≤ v := h1 3 (by decide)
    have a4 : (63 : Int32) ≤ v := h1 4 (by decide)
    simp only [gradeN, if_pos a0, if_pos a1, if_pos a2, if_pos a3, if_pos a4]; rfl
  | n + 6, h, _, _ => absurd h (by omega)
/-- Pack.lay(egg): p the pack, x the egg -/
def layS (S : CS) (p x : Nat) : CS :=
  uI (uI (uI (uI (uI (uI S 23 p (if S.2.2.2.1 21 p = 0 then S.2.2.2.1 7 x else if S.2.2.2.1 7 x < S.2.2.2.1 23 p then S.2.2.2.1 7 x else S.2.2.2.1 23 p)) 24 p (if S.2.2.2.1 24 p < S.2.2.2.1 7 x then S.2.2.2.1 7 x else S.2.2.2.1 24 p)) 21 p (S.2.2.2.1 21 p + 1)) 22 p (S.2.2.2.1 22 p ||| (1 <<< (S.2.2.2.1 1 x &&& 31)))) 25 p (S.2.2.2.1 25 p + S.2.2.2.1 2 x)) 26 p (S.2.2.2.1 26 p + S.2.2.2.1 6 x)
def ifoN (S : CS) (p : Nat) (g : Int32) : Int32 := if S.2.2.2.1 20 p = g then if S.2.2.2.1 27 p = -9 then if S.2.2.2.1 28 p = 0 then 1 else 0 else 0 else 0
def hoiS (S : CS) (p : Nat) (z : Int32) : CS := if z = 0 then S else if S.2.2.2.1 27 p = -9 then uI S 28 p 1 else S
def eggS (S : CS) (p : Nat) (n b w t r d : Int32) : CS := uI (uI (uI (uI (uI (uI S 0 p n) 1 p b) 2 p w) 3 p t) 4 p r) 5 p d
def ordS (S : CS) (p : Nat) (g n w : Int32) : CS := uI (uI (uI S 10 p g) 11 p n) 12 p w
def pkrS (S : CS) (p q : Nat) (pl g : Int32) : CS := uI (uI (uR (uI (nO (uI S 32 p 1) q 2) 27 q (-9)) 0 p (some q)) 30 p pl) 31 p g

section C20
variable {D : va_G} {ar : Nat → ClassId} {tg te mi : Nat} {S : CS}
set_option maxRecDepth 100000 in
theorem k_X4_isWithin {X : XT} (hX : Xok X) (ws : va_W) (v a b : Int32)  : Cn D ar X yX4_isWithin cX4_isWithin 3 (some .boolean) 0 0 0 0 [.int v, .int a, .int b] ws (fun r w => r = some (.int (inR v a b)) ∧ w = ws) := by
  refine Cn.of (own := RX4) hX (by decide) rfl (Nat.le_of_ble_eq_true rfl) (fun j C => ?_)
  have C0 := C.to
  show j _ 0 0 0 [(0, _), (1, _), (2, _)] []
  refine r_iload_n C0 0 0 dX4_isWithin_0 rfl rfl ?_
  refine r_iload_n C0 1 1 dX4_isWithin_1 rfl rfl ?_
  refine r_icmp_lt C0 2 14 dX4_isWithin_2 (by decide) (fun c_2 => ?_) (fun c_2 => ?_)
  · refine r_iconst C0 14 0 dX4_isWithin_14 (by decide) ?_
    refine r_zret C 15 rfl dX4_isWithin_15 (Nat.le_refl _) (Nat.le_refl _) ?_
    first | exact ⟨by rw [inR_a c_2], rfl⟩ | exact ⟨by rw [inR_b c_7], rfl⟩ | exact ⟨by rw [inR_c c_2 c_7], rfl⟩
  · refine r_iload_n C0 5 0 dX4_isWithin_5 rfl rfl ?_
    refine r_iload_n C0 6 2 dX4_isWithin_6 rfl rfl ?_
    refine r_icmp_gt C0 7 14 dX4_isWithin_7 (by decide) (fun c_7 => ?_) (fun c_7 => ?_)
    · refine r_iconst C0 14 0 dX4_isWithin_14 (by decide) ?_
      refine r_zret C 15 rfl dX4_isWithin_15 (Nat.le_refl _) (Nat.le_refl _) ?_
      first | exact ⟨by rw [inR_a c_2], rfl⟩ | exact ⟨by rw [inR_b c_7], rfl⟩ | exact ⟨by rw [inR_c c_2 c_7], rfl⟩
    · refine r_iconst C0 10 1 dX4_isWithin_10 (by decide) ?_
      refine r_goto C0 11 15 dX4_isWithin_11 (by decide) ?_
      refine r_zret C 15 rfl dX4_isWithin_15 (Nat.le_refl _) (Nat.le_refl _) ?_
      first | exact ⟨by rw [inR_a c_2], rfl⟩ | exact ⟨by rw [inR_b c_7], rfl⟩ | exact ⟨by rw [inR_c c_2 c_7], rfl⟩
set_option maxRecDepth 100000 in
theorem k_X4_isBarn {X : XT} (hX : Xok X) (ws : va_W) (v : Int32)  : Cn D ar X yX4_isBarn cX4_isBarn 1 (some .boolean) 1 22 0 0 [.int v] ws (fun r w => r = some (.int (inR v 0 3)) ∧ w = ws) := by
  refine Cn.of (own := RX4) hX (by decide) rfl (Nat.le_of_ble_eq_true rfl) (fun j C => ?_)
  have C0 := C.to
  show j _ 0 0 0 [(0, _)] []
  refine r_iload_n C0 0 0 dX4_isBarn_0 rfl rfl ?_
  refine r_iconst C0 1 0 dX4_isBarn_1 (by decide) ?_
  refine r_iconst C0 2 3 dX4_isBarn_2 (by decide) ?_
  refine s_call (As := [.int _, .int _, .int _]) C0 3 3 (k_X4_isWithin hX _ _ _ _) (rm_X4_isWithin (by decide) (by decide) (Nat.le_refl _) (Nat.le_refl _)) mlX4_49 st_X4_isWithin rfl (Nat.le_of_ble_eq_true rfl) dX4_isBarn_3 ?_
  rintro _ _ ⟨rfl, rfl⟩
  refine r_zret C 6 inR_nar dX4_isBarn_6 (Nat.le_refl _) (Nat.le_refl _) ?_
  exact ⟨rfl, rfl⟩
set_option maxRecDepth 100000 in
theorem k_X4_isGrade {X : XT} (hX : Xok X) (ws : va_W) (v : Int32)  : Cn D ar X yX4_isGrade cX4_isGrade 1 (some .boolean) 1 22 0 0 [.int v] ws (fun r w => r = some (.int (inR v 0 5)) ∧ w = ws) := by
  refine Cn.of (own := RX4) hX (by decide) rfl (Nat.le_of_ble_eq_true rfl) (fun j C => ?_)
  have C0 := C.to
  show j _ 0 0 0 [(0, _)] []
  refine r_iload_n C0 0 0 dX4_isGrade_0 rfl rfl ?_
  refine r_iconst C0 1 0 dX4_isGrade_1 (by decide) ?_
  refine r_iconst C0 2 5 dX4_isGrade_2 (by decide) ?_
  refine s_call (As := [.int _, .int _, .int _]) C0 3 3 (k_X4_isWithin hX _ _ _ _) (rm_X4_isWithin (by decide) (by decide) (Nat.le_refl _) (Nat.le_refl _)) mlX4_49 st_X4_isWithin rfl (Nat.le_of_ble_eq_true rfl) dX4_isGrade_3 ?_
  rintro _ _ ⟨rfl, rfl⟩
  refine r_zret C 6 inR_nar dX4_isGrade_6 (Nat.le_refl _) (Nat.le_refl _) ?_
  exact ⟨rfl, rfl⟩
set_option maxRecDepth 100000 in
theorem k_X4_isPacker {X : XT} (hX : Xok X) (ws : va_W) (v : Int32)  : Cn D ar X yX4_isPacker cX4_isPacker 1 (some .boolean) 1 22 0 0 [.int v] ws (fun r w => r = some (.int (inR v 0 3)) ∧ w = ws) := by
  refine Cn.of (own := RX4) hX (by decide) rfl (Nat.le_of_ble_eq_true rfl) (fun j C => ?_)
  have C0 := C.to
  show j _ 0 0 0 [(0, _)] []
  refine r_iload_n C0 0 0 dX4_isPacker_0 rfl rfl ?_
  refine r_iconst C0 1 0 dX4_isPacker_1 (by decide) ?_
  refine r_iconst C0 2 3 dX4_isPacker_2 (by decide) ?_
  refine s_call (As := [.int _, .int _, .int _]) C0 3 3 (k_X4_isWithin hX _ _ _ _) (rm_X4_isWithin (by decide) (by decide) (Nat.le_refl _) (Nat.le_refl _)) mlX4_49 st_X4_isWithin rfl (Nat.le_of_ble_eq_true rfl) dX4_isPacker_3 ?_
  rintro _ _ ⟨rfl, rfl⟩
  refine r_zret C 6 inR_nar dX4_isPacker_6 (Nat.le_refl _) (Nat.le_refl _) ?_
  exact ⟨rfl, rfl⟩
set_option maxRecDepth 100000 in
theorem k_X4_hasBit {X : XT} (hX : Xok X) (ws : va_W) (b i : Int32)  : Cn D ar X yX4_hasBit cX4_hasBit 2 (some .boolean) 0 0 0 0 [.int b, .int i] ws (fun r w => r = some (.int (hbN b i)) ∧ w = ws) := by
  refine Cn.of (own := RX4) hX (by decide) rfl (Nat.le_of_ble_eq_true rfl) (fun j C => ?_)
  have C0 := C.to
  show j _ 0 0 0 [(0, _), (1, _)] []
  refine r_iload_n C0 0 0 dX4_hasBit_0 rfl rfl ?_
  refine r_iload_n C0 1 1 dX4_hasBit_1 rfl rfl ?_
  refine r_ishr C0 2 dX4_hasBit_2 ?_
  refine r_iconst C0 3 1 dX4_hasBit_3 (by decide) ?_
  refine r_iand C0 4 dX4_hasBit_4 ?_
  refine r_iconst C0 5 1 dX4_hasBit_5 (by decide) ?_
  refine r_icmp_ne C0 6 13 dX4_hasBit_6 (by decide) (fun c_6 => ?_) (fun c_6 => ?_)
  · refine r_iconst C0 13 0 dX4_hasBit_13 (by decide) ?_
    refine r_zret C 14 rfl dX4_hasBit_14 (Nat.le_refl _) (Nat.le_refl _) ?_
    exact ⟨by unfold hbN; rw [if_neg c_6], rfl⟩
  · refine r_iconst C0 9 1 dX4_hasBit_9 (by decide) ?_
    refine r_goto C0 10 14 dX4_hasBit_10 (by decide) ?_
    refine r_zret C 14 rfl dX4_hasBit_14 (Nat.le_refl _) (Nat.le_refl _) ?_
    exact ⟨by unfold hbN; rw [if_pos c_6], rfl⟩
set_option maxRecDepth 100000 in
theorem k_X4_asNumber {X : XT} (hX : Xok X) (ws : va_W) (z : Int32)  : Cn D ar X yX4_asNumber cX4_asNumber 1 (some .int) 0 0 0 0 [.int z] ws (fun r w => r = some (.int (if z = 0 then 0 else 1)) ∧ w = ws) := by
  refine Cn.of (own := RX4) hX (by decide) rfl (Nat.le_of_ble_eq_true rfl) (fun j C => ?_)
  have C0 := C.to
  show j _ 0 0 0 [(0, _)] []
  refine r_iload_n C0 0 0 dX4_asNumber_0 rfl rfl ?_
  refine r_if_eq C0 1 8 dX4_asNumber_1 (by decide) (fun c_1 => ?_) (fun c_1 => ?_)
  · refine r_iconst C0 8 0 dX4_asNumber_8 (by decide) ?_
    refine r_iret C 9 dX4_asNumber_9 (Nat.le_refl _) (Nat.le_refl _) ?_
    exact ⟨by rw [if_pos c_1], rfl⟩
  · refine r_iconst C0 4 1 dX4_asNumber_4 (by decide) ?_
    refine r_goto C0 5 9 dX4_asNumber_5 (by decide) ?_
    refine r_iret C 9 dX4_asNumber_9 (Nat.le_refl _) (Nat.le_refl _) ?_
    exact ⟨by rw [if_neg c_1], rfl⟩
set_option maxRecDepth 100000 in
theorem k_X4_gradeOf (ws : va_W) (v : Int32)  : Cn D ar (XC tg te mi) yX4_gradeOf cX4_gradeOf 2 (some .int) 0 0 0 0 [.int v] ws (fun r w => r = some (.int (gradeN v)) ∧ w = ws) := by
  refine Cn.of (own := RX4) XC_ok (by decide) rfl (Nat.le_of_ble_eq_true rfl) (fun j C => ?_)
  have C0 := C.to
  show j _ 0 0 0 [(0, _)] []
  suffices key : ∀ g, g ≤ 5 → (∀ k, k < g → geN k ≤ v) → j ws 0 0 2 [(0, .int v), (1, .int (nI g))] [] by
    refine r_iconst C0 0 0 dX4_gradeOf_0 (by decide) ?_
    refine r_istore_n (lv' := [(0, _), (1, _)]) C0 1 1 dX4_gradeOf_1 rfl rfl (by decide) rfl ?_
    exact key 0 (by decide) (fun k hk => absurd hk (by omega))
  refine loopUp (P := 5) (f := fun g => (∀ k, k < g → geN k ≤ v) → j ws 0 0 2 [(0, .int v), (1, .int (nI g))] []) (fun g hg ih hk => ?_)
  refine r_iload_n C0 2 1 dX4_gradeOf_2 rfl rfl ?_
  refine ca_ge C0 3 flX4_303 dX4_gradeOf_3 ?_
  refine ca_gel C0 6 dX4_gradeOf_6 ?_
  refine r_icmp_ge C0 7 25 dX4_gradeOf_7 (by decide) (fun c_7 => ?_) (fun c_7 => ?_)
  · have hge : 5 ≤ g := (nI_leI (a := 5) (by omega) (by omega)).mp c_7
    refine r_iload_n C0 25 1 dX4_gradeOf_25 rfl rfl ?_
    refine r_iret C 26 dX4_gradeOf_26 (Nat.le_refl _) (Nat.le_refl _) ?_
    exact ⟨by rw [geN_grade hg hk (fun q => by omega)], rfl⟩
  · have hlt : g < 5 := Nat.lt_of_not_le (fun q => c_7 (nI_le (a := 5) q (by omega)))
    refine r_iload_n C0 10 0 dX4_gradeOf_10 rfl rfl ?_
    refine ca_ge C0 11 flX4_303 dX4_gradeOf_11 ?_
    refine r_iload_n C0 14 1 dX4_gradeOf_14 rfl rfl ?_
    refine ca_gei C0 15 g rfl hlt dX4_gradeOf_15 ?_
    refine r_icmp_lt C0 16 25 dX4_gradeOf_16 (by decide) (fun c_16 => ?_) (fun c_16 => ?_)
    · refine r_iload_n C0 25 1 dX4_gradeOf_25 rfl rfl ?_
      refine r_iret C 26 dX4_gradeOf_26 (Nat.le_refl _) (Nat.le_refl _) ?_
      exact ⟨by rw [geN_grade hg hk (fun q => Int32.not_le.mpr c_16)], rfl⟩
    · refine r_iinc (lv' := [(0, _), (1, _)]) C0 19 _ dX4_gradeOf_19 rfl rfl rfl (by decide) rfl ?_
      refine r_goto C0 22 2 dX4_gradeOf_22 (by decide) ?_
      have h9 := ih hlt (fun k hk2 => by
        by_cases q : k = g
        · rw [q]; exact Int32.not_lt.mp c_16
        · exact hk k (by omega))
      rw [← nI_1 g] at h9
      exact h9
set_option maxRecDepth 100000 in
theorem k_J6_bitCount_0f7a4 {X : XT} (hX : Xok X) (ws : va_W) (t : Int32)  : Cn D ar X yJ6_bitCount_0f7a4 cJ6_bitCount_0f7a4 1 (some .int) 0 0 0 0 [.int t] ws (fun r w => r = some (.int (bcN t)) ∧ w = ws) := by
  refine Cn.of (own := RJ6) hX (by decide) rfl (Nat.le_of_ble_eq_true rfl) (fun j C => ?_)
  have C0 := C.to
  show j _ 0 0 0 [(0, _)] []
  refine r_iload_n C0 0 0 dJ6_bitCount_0f7a4_0 rfl rfl ?_
  refine r_iload_n C0 1 0 dJ6_bitCount_0f7a4_1 rfl rfl ?_
  refine r_iconst C0 2 1 dJ6_bitCount_0f7a4_2 (by decide) ?_
  refine r_iushr C0 3 dJ6_bitCount_0f7a4_3 rfl ?_
  refine r_ldcw C0 4 ldJ6_265 dJ6_bitCount_0f7a4_4 ?_
  refine r_iand C0 7 dJ6_bitCount_0f7a4_7 ?_
  refine r_isub C0 8 dJ6_bitCount_0f7a4_8 ?_
  refine r_istore_n (lv' := [(0, _)]) C0 9 0 dJ6_bitCount_0f7a4_9 rfl rfl (by decide) rfl ?_
  refine r_iload_n C0 10 0 dJ6_bitCount_0f7a4_10 rfl rfl ?_
  refine r_ldcw C0 11 ldJ6_266 dJ6_bitCount_0f7a4_11 ?_
  refine r_iand C0 14 dJ6_bitCount_0f7a4_14 ?_
  refine r_iload_n C0 15 0 dJ6_bitCount_0f7a4_15 rfl rfl ?_
  refine r_iconst C0 16 2 dJ6_bitCount_0f7a4_16 (by decide) ?_
  refine r_iushr C0 17 dJ6_bitCount_0f7a4_17 rfl ?_
  refine r_ldcw C0 18 ldJ6_266 dJ6_bitCount_0f7a4_18 ?_
  refine r_iand C0 21 dJ6_bitCount_0f7a4_21 ?_
  refine r_iadd C0 22 dJ6_bitCount_0f7a4_22 ?_
  refine r_istore_n (lv' := [(0, _)]) C0 23 0 dJ6_bitCount_0f7a4_23 rfl rfl (by decide) rfl ?_
  refine r_iload_n C0 24 0 dJ6_bitCount_0f7a4_24 rfl rfl ?_
  refine r_iload_n C0 25 0 dJ6_bitCount_0f7a4_25 rfl rfl ?_
  refine r_iconst C0 26 4 dJ6_bitCount_0f7a4_26 (by decide) ?_
  refine r_iushr C0 27 dJ6_bitCount_0f7a4_27 rfl ?_
  refine r_iadd C0 28 dJ6_bitCount_0f7a4_28 ?_
  refine r_ldcw C0 29 ldJ6_267 dJ6_bitCount_0f7a4_29 ?_
  refine r_iand C0 32 dJ6_bitCount_0f7a4_32 ?_
  refine r_istore_n (lv' := [(0, _)]) C0 33 0 dJ6_bitCount_0f7a4_33 rfl rfl (by decide) rfl ?_
  refine r_iload_n C0 34 0 dJ6_bitCount_0f7a4_34 rfl rfl ?_
  refine r_iload_n C0 35 0 dJ6_bitCount_0f7a4_35 rfl rfl ?_
  refine r_bipush C0 36 8 dJ6_bitCount_0f7a4_36 (by decide) ?_
  refine r_iushr C0 38 dJ6_bitCount_0f7a4_38 rfl ?_
  refine r_iadd C0 39 dJ6_bitCount_0f7a4_39 ?_
  refine r_istore_n (lv' := [(0, _)]) C0 40 0 dJ6_bitCount_0f7a4_40 rfl rfl (by decide) rfl ?_
  refine r_iload_n C0 41 0 dJ6_bitCount_0f7a4_41 rfl rfl ?_
  refine r_iload_n C0 42 0 dJ6_bitCount_0f7a4_42 rfl rfl ?_
  refine r_bipush C0 43 16 dJ6_bitCount_0f7a4_43 (by decide) ?_
  refine r_iushr C0 45 dJ6_bitCount_0f7a4_45 rfl ?_
  refine r_iadd C0 46 dJ6_bitCount_0f7a4_46 ?_
  refine r_istore_n (lv' := [(0, _)]) C0 47 0 dJ6_bitCount_0f7a4_47 rfl rfl (by decide) rfl ?_
  refine r_iload_n C0 48 0 dJ6_bitCount_0f7a4_48 rfl rfl ?_
  refine r_bipush C0 49 63 dJ6_bitCount_0f7a4_49 (by decide) ?_
  refine r_iand C0 51 dJ6_bitCount_0f7a4_51 ?_
  refine r_iret C 52 dJ6_bitCount_0f7a4_52 (Nat.le_refl _) (Nat.le_refl _) ?_
  exact ⟨rfl, rfl⟩
set_option maxRecDepth 100000 in
theorem k_X4_isPack {X : XT} (hX : Xok X) {h0 lp : Nat} (hh : Is S h0 4) (hr : S.2.2.2.2.1 5 h0 = some lp) (hp : Is S lp 6) (v : Int32)  : Cn D ar X yX4_isPack cX4_isPack 2 (some .boolean) 1 22 0 0 [.ref h0, .int v] (cW ar S) (fun r w => r = some (.int (inR v 0 (S.2.2.2.1 51 lp - 1))) ∧ w = cW ar S) := by
  refine Cn.of (own := RX4) hX (by decide) rfl (Nat.le_of_ble_eq_true rfl) (fun j C => ?_)
  have C0 := C.to
  show j _ 0 0 0 [(0, _), (1, _)] []
  refine r_iload_n C0 0 1 dX4_isPack_0 rfl rfl ?_
  refine r_iconst C0 1 0 dX4_isPack_1 (by decide) ?_
  refine r_aload_n C0 2 0 dX4_isPack_2 rfl rfl ?_
  refine cgR_5 C0 3 hr flX4_31 hh dX4_isPack_3 ?_
  refine c_call (As := []) C0 6 0 (k_Jx4a65c_size_8abf5 hX hp) (rm_Jx4a65c_size_8abf5 (by decide) (by decide) (Nat.le_refl _) (Nat.le_refl _)) mlX4_53 im_Jx4a65c_size_8abf5 se_Jx4a65c_size_8abf5 (by decide) rfl hp rfl (Nat.le_of_ble_eq_true rfl) dX4_isPack_6 ?_
  rintro _ _ ⟨rfl, rfl⟩
  refine r_iconst C0 9 1 dX4_isPack_9 (by decide) ?_
  refine r_isub C0 10 dX4_isPack_10 ?_
  refine s_call (As := [.int _, .int _, .int _]) C0 11 3 (k_X4_isWithin hX _ _ _ _) (rm_X4_isWithin (by decide) (by decide) (Nat.le_refl _) (Nat.le_refl _)) mlX4_49 st_X4_isWithin rfl (Nat.le_of_ble_eq_true rfl) dX4_isPack_11 ?_
  rintro _ _ ⟨rfl, rfl⟩
  refine r_zret C 14 inR_nar dX4_isPack_14 (Nat.le_refl _) (Nat.le_refl _) ?_
  exact ⟨rfl, rfl⟩
set_option maxRecDepth 100000 in
theorem k_X2_lay {X : XT} (hX : Xok X) {p x : Nat} (hp : Is S p 2) (hx : Is S x 0)  : Cn D ar X yX2_lay cX2_lay 2 none 1 14 0 0 [.ref p, .ref x] (cW ar S) (fun r w => r = none ∧ w = cW ar (layS S p x)) := by
  refine Cn.of (own := RX2) hX (by decide) rfl (Nat.le_of_ble_eq_true rfl) (fun j C => ?_)
  have C0 := C.to
  show j _ 0 0 0 [(0, _), (1, _)] []
  refine r_aload_n C0 0 0 dX2_lay_0 rfl rfl ?_
  refine r_aload_n C0 1 0 dX2_lay_1 rfl rfl ?_
  refine cgI_21 C0 2 flX2_15 hp dX2_lay_2 ?_
  refine r_if_ne C0 5 15 dX2_lay_5 (by decide) (fun c_5 => ?_) (fun c_5 => ?_)
  · refine r_aload_n C0 15 0 dX2_lay_15 rfl rfl ?_
    refine cgI_23 C0 16 flX2_23 hp dX2_lay_16 ?_
    refine r_aload_n C0 19 1 dX2_lay_19 rfl rfl ?_
    refine cgI_7 C0 20 flX2_18 hx dX2_lay_20 ?_
    refine r_mmin C0 23 mlX2_26 (Nat.le_of_ble_eq_true rfl) (Nat.le_of_ble_eq_true rfl) (Nat.le_of_ble_eq_true rfl) (Nat.le_of_ble_eq_true rfl) dX2_lay_23 ?_
    refine cpI_23 C0 26 flX2_23 hp dX2_lay_26 ?_
    refine r_aload_n C0 29 0 dX2_lay_29 rfl rfl ?_
    refine r_aload_n C0 30 0 dX2_lay_30 rfl rfl ?_
    refine cgI_24 C0 31 flX2_32 hp dX2_lay_31 ?_
    refine r_aload_n C0 34 1 dX2_lay_34 rfl rfl ?_
    refine cgI_7 C0 35 flX2_18 hx dX2_lay_35 ?_
    refine r_mmax C0 38 mlX2_35 (Nat.le_of_ble_eq_true rfl) (Nat.le_of_ble_eq_true rfl) (Nat.le_of_ble_eq_true rfl) (Nat.le_of_ble_eq_true rfl) dX2_lay_38 ?_
    refine cpI_24 C0 41 flX2_32 hp dX2_lay_41 ?_
    refine r_aload_n C0 44 0 dX2_lay_44 rfl rfl ?_
    refine r_dup C0 45 dX2_lay_45 rfl ?_
    refine cgI_21 C0 46 flX2_15 hp dX2_lay_46 ?_
    refine r_iconst C0 49 1 dX2_lay_49 (by decide) ?_
    refine r_iadd C0 50 dX2_lay_50 ?_
    refine cpI_21 C0 51 flX2_15 hp dX2_lay_51 ?_
    refine r_aload_n C0 54 0 dX2_lay_54 rfl rfl ?_
    refine r_dup C0 55 dX2_lay_55 rfl ?_
    refine cgI_22 C0 56 flX2_38 hp dX2_lay_56 ?_
    refine r_iconst C0 59 1 dX2_lay_59 (by decide) ?_
    refine r_aload_n C0 60 1 dX2_lay_60 rfl rfl ?_
    refine cgI_1 C0 61 flX2_41 hx dX2_lay_61 ?_
    refine r_ishl C0 64 dX2_lay_64 ?_
    refine r_ior C0 65 dX2_lay_65 ?_
    refine cpI_22 C0 66 flX2_38 hp dX2_lay_66 ?_
    refine r_aload_n C0 69 0 dX2_lay_69 rfl rfl ?_
    refine r_dup C0 70 dX2_lay_70 rfl ?_
    refine cgI_25 C0 71 flX2_44 hp dX2_lay_71 ?_
    refine r_aload_n C0 74 1 dX2_lay_74 rfl rfl ?_
    refine cgI_2 C0 75 flX2_47 hx dX2_lay_75 ?_
    refine r_iadd C0 78 dX2_lay_78 ?_
    refine cpI_25 C0 79 flX2_44 hp dX2_lay_79 ?_
    refine r_aload_n C0 82 0 dX2_lay_82 rfl rfl ?_
    refine r_dup C0 83 dX2_lay_83 rfl ?_
    refine cgI_26 C0 84 flX2_50 hp dX2_lay_84 ?_
    refine r_aload_n C0 87 1 dX2_lay_87 rfl rfl ?_
    refine cgI_6 C0 88 flX2_53 hx dX2_lay_88 ?_
    refine r_iadd C0 91 dX2_lay_91 ?_
    refine cpI_26 C0 92 flX2_50 hp dX2_lay_92 ?_
    refine r_vret C 95 dX2_lay_95 (Nat.le_refl _) (Nat.le_refl _) ?_
    refine ⟨rfl, congrArg (cW ar) ?_⟩
    unfold layS
    rw [if_neg c_5]
    rfl
  · refine r_aload_n C0 8 1 dX2_lay_8 rfl rfl ?_
    refine cgI_7 C0 9 flX2_18 hx dX2_lay_9 ?_
    refine r_goto C0 12 26 dX2_lay_12 (by decide) ?_
    refine cpI_23 C0 26 flX2_23 hp dX2_lay_26 ?_
    refine r_aload_n C0 29 0 dX2_lay_29 rfl rfl ?_
    refine r_aload_n C0 30 0 dX2_lay_30 rfl rfl ?_
    refine cgI_24 C0 31 flX2_32 hp dX2_lay_31 ?_
    refine r_aload_n C0 34 1 dX2_lay_34 rfl rfl ?_
    refine cgI_7 C0 35 flX2_18 hx dX2_lay_35 ?_
    refine r_mmax C0 38 mlX2_35 (Nat.le_of_ble_eq_true rfl) (Nat.le_of_ble_eq_true rfl) (Nat.le_of_ble_eq_true rfl) (Nat.le_of_ble_eq_true rfl) dX2_lay_38 ?_
    refine cpI_24 C0 41 flX2_32 hp dX2_lay_41 ?_
    refine r_aload_n C0 44 0 dX2_lay_44 rfl rfl ?_
    refine r_dup C0 45 dX2_lay_45 rfl ?_
    refine cgI_21 C0 46 flX2_15 hp dX2_lay_46 ?_
    refine r_iconst C0 49 1 dX2_lay_49 (by decide) ?_
    refine r_iadd C0 50 dX2_lay_50 ?_
    refine cpI_21 C0 51 flX2_15 hp dX2_lay_51 ?_
    refine r_aload_n C0 54 0 dX2_lay_54 rfl rfl ?_
    refine r_dup C0 55 dX2_lay_55 rfl ?_
    refine cgI_22 C0 56 flX2_38 hp dX2_lay_56 ?_
    refine r_iconst C0 59 1 dX2_lay_59 (by decide) ?_
    refine r_aload_n C0 60 1 dX2_lay_60 rfl rfl ?_
    refine cgI_1 C0 61 flX2_41 hx dX2_lay_61 ?_
    refine r_ishl C0 64 dX2_lay_64 ?_
    refine r_ior C0 65 dX2_lay_65 ?_
    refine cpI_22 C0 66 flX2_38 hp dX2_lay_66 ?_
    refine r_aload_n C0 69 0 dX2_lay_69 rfl rfl ?_
    refine r_dup C0 70 dX2_lay_70 rfl ?_
    refine cgI_25 C0 71 flX2_44 hp dX2_lay_71 ?_
    refine r_aload_n C0 74 1 dX2_lay_74 rfl rfl ?_
    refine cgI_2 C0 75 flX2_47 hx dX2_lay_75 ?_
    refine r_iadd C0 78 dX2_lay_78 ?_
    refine cpI_25 C0 79 flX2_44 hp dX2_lay_79 ?_
    refine r_aload_n C0 82 0 dX2_lay_82 rfl rfl ?_
    refine r_dup C0 83 dX2_lay_83 rfl ?_
    refine cgI_26 C0 84 flX2_50 hp dX2_lay_84 ?_
    refine r_aload_n C0 87 1 dX2_lay_87 rfl rfl ?_
    refine cgI_6 C0 88 flX2_53 hx dX2_lay_88 ?_
    refine r_iadd C0 91 dX2_lay_91 ?_
    refine cpI_26 C0 92 flX2_50 hp dX2_lay_92 ?_
    refine r_vret C 95 dX2_lay_95 (Nat.le_refl _) (Nat.le_refl _) ?_
    refine ⟨rfl, congrArg (cW ar) ?_⟩
    unfold layS
    rw [if_pos c_5]
    rfl
set_option maxRecDepth 100000 in
theorem k_X2_isFreeOf {X : XT} (hX : Xok X) {p : Nat} (hp : Is S p 2) (g : Int32)  : Cn D ar X yX2_isFreeOf cX2_isFreeOf 2 (some .boolean) 0 0 0 0 [.ref p, .int g] (cW ar S) (fun r w => r = some (.int (ifoN S p g)) ∧ w = cW ar S) := by
  refine Cn.of (own := RX2) hX (by decide) rfl (Nat.le_of_ble_eq_true rfl) (fun j C => ?_)
  have C0 := C.to
  show j _ 0 0 0 [(0, _), (1, _)] []
  refine r_aload_n C0 0 0 dX2_isFreeOf_0 rfl rfl ?_
  refine cgI_20 C0 1 flX2_56 hp dX2_isFreeOf_1 ?_
  refine r_iload_n C0 4 1 dX2_isFreeOf_4 rfl rfl ?_
  refine r_icmp_ne C0 5 28 dX2_isFreeOf_5 (by decide) (fun c_5 => ?_) (fun c_5 => ?_)
  · refine r_iconst C0 28 0 dX2_isFreeOf_28 (by decide) ?_
    refine r_zret C 29 rfl dX2_isFreeOf_29 (Nat.le_refl _) (Nat.le_refl _) ?_
    exact ⟨by simp only [ifoN, eq_false c_5]; rfl, rfl⟩
  · refine r_aload_n C0 8 0 dX2_isFreeOf_8 rfl rfl ?_
    refine cgI_27 C0 9 flX2_9 hp dX2_isFreeOf_9 ?_
    refine r_bipush C0 12 (-9) dX2_isFreeOf_12 (by decide) ?_
    refine r_icmp_ne C0 14 28 dX2_isFreeOf_14 (by decide) (fun c_14 => ?_) (fun c_14 => ?_)
    · refine r_iconst C0 28 0 dX2_isFreeOf_28 (by decide) ?_
      refine r_zret C 29 rfl dX2_isFreeOf_29 (Nat.le_refl _) (Nat.le_refl _) ?_
      exact ⟨by simp only [ifoN, eq_true c_5, eq_false c_14]; rfl, rfl⟩
    · refine r_aload_n C0 17 0 dX2_isFreeOf_17 rfl rfl ?_
      refine cgI_28 C0 18 flX2_59 hp dX2_isFreeOf_18 ?_
      refine r_if_ne C0 21 28 dX2_isFreeOf_21 (by decide) (fun c_21 => ?_) (fun c_21 => ?_)
      · refine r_iconst C0 28 0 dX2_isFreeOf_28 (by decide) ?_
        refine r_zret C 29 rfl dX2_isFreeOf_29 (Nat.le_refl _) (Nat.le_refl _) ?_
        exact ⟨by simp only [ifoN, eq_true c_5, eq_true c_14, eq_false c_21]; rfl, rfl⟩
      · refine r_iconst C0 24 1 dX2_isFreeOf_24 (by decide) ?_
        refine r_goto C0 25 29 dX2_isFreeOf_25 (by decide) ?_
        refine r_zret C 29 rfl dX2_isFreeOf_29 (Nat.le_refl _) (Nat.le_refl _) ?_
        exact ⟨by simp only [ifoN, eq_true c_5, eq_true c_14, eq_true c_21]; rfl, rfl⟩
set_option maxRecDepth 100000 in
theorem k_X2_holdIf {X : XT} (hX : Xok X) {p : Nat} (hp : Is S p 2) (z : Int32)  : Cn D ar X yX2_holdIf cX2_holdIf 2 none 0 0 0 0 [.ref p, .int z] (cW ar S) (fun r w => r = none ∧ w = cW ar (hoiS S p z)) := by
  refine Cn.of (own := RX2) hX (by decide) rfl (Nat.le_of_ble_eq_true rfl) (fun j C => ?_)
  have C0 := C.to
  show j _ 0 0 0 [(0, _), (1, _)] []
  refine r_iload_n C0 0 1 dX2_holdIf_0 rfl rfl ?_
  refine r_if_eq C0 1 18 dX2_holdIf_1 (by decide) (fun c_1 => ?_) (fun c_1 => ?_)
  · refine r_vret C 18 dX2_holdIf_18 (Nat.le_refl _) (Nat.le_refl _) ?_
    exact ⟨rfl, by simp only [hoiS, eq_true c_1]; rfl⟩
  · refine r_aload_n C0 4 0 dX2_holdIf_4 rfl rfl ?_
    refine cgI_27 C0 5 flX2_9 hp dX2_holdIf_5 ?_
    refine r_bipush C0 8 (-9) dX2_holdIf_8 (by decide) ?_
    refine r_icmp_ne C0 10 18 dX2_holdIf_10 (by decide) (fun c_10 => ?_) (fun c_10 => ?_)
    · refine r_vret C 18 dX2_holdIf_18 (Nat.le_refl _) (Nat.le_refl _) ?_
      exact ⟨rfl, by simp only [hoiS, eq_false c_1, eq_false c_10]; rfl⟩
    · refine r_aload_n C0 13 0 dX2_holdIf_13 rfl rfl ?_
      refine r_iconst C0 14 1 dX2_holdIf_14 (by decide) ?_
      refine cpI_28 C0 15 (Or.inr rfl) flX2_59 hp dX2_holdIf_15 ?_
      refine r_vret C 18 dX2_holdIf_18 (Nat.le_refl _) (Nat.le_refl _) ?_
      exact ⟨rfl, by simp only [hoiS, eq_false c_1, eq_true c_10]; rfl⟩
set_option maxRecDepth 100000 in
theorem k_X0_init {X : XT} (hX : Xok X) {p : Nat} (hp : Is S p 0) (n b w9 t r9 d : Int32)  : Cn D ar X yX0_init cX0_init 7 none 1 12 0 0 [.ref p, .int n, .int b, .int w9, .int t, .int r9, .int d] (cW ar S) (fun r w => r = none ∧ w = cW ar (eggS S p n b w9 t r9 d)) := by
  refine Cn.ofI (own := RX0) hX (by decide) rfl rfl (Nat.le_of_ble_eq_true rfl) (fun j C CI => ?_)
  have C0 := C.to
  show j _ 0 0 0 [(0, _), (1, _), (2, _), (3, _), (4, _), (5, _), (6, _)] []
  refine r_aload_n C0 0 0 dX0_init_0 rfl rfl ?_
  refine r_objInit C0 1 mlX0_1 im_oi co_oi dX0_init_1 (Nat.le_of_ble_eq_true rfl) (Nat.le_of_ble_eq_true rfl) ?_
  refine r_aload_n C0 4 0 dX0_init_4 rfl rfl ?_
  refine r_iload_n C0 5 1 dX0_init_5 rfl rfl ?_
  refine cpI_0 CI 6 flX0_7 hp dX0_init_6 ?_
  refine r_aload_n C0 9 0 dX0_init_9 rfl rfl ?_
  refine r_iload_n C0 10 2 dX0_init_10 rfl rfl ?_
  refine cpI_1 CI 11 flX0_13 hp dX0_init_11 ?_
  refine r_aload_n C0 14 0 dX0_init_14 rfl rfl ?_
  refine r_iload_n C0 15 3 dX0_init_15 rfl rfl ?_
  refine cpI_2 CI 16 flX0_16 hp dX0_init_16 ?_
  refine r_aload_n C0 19 0 dX0_init_19 rfl rfl ?_
  refine r_iload C0 20 dX0_init_20 rfl ?_
  refine cpI_3 CI 22 flX0_19 hp dX0_init_22 ?_
  refine r_aload_n C0 25 0 dX0_init_25 rfl rfl ?_
  refine r_iload C0 26 dX0_init_26 rfl ?_
  refine cpI_4 CI 28 flX0_22 hp dX0_init_28 ?_
  refine r_aload_n C0 31 0 dX0_init_31 rfl rfl ?_
  refine r_iload C0 32 dX0_init_32 rfl ?_
  refine cpI_5 C0 34 flX0_25 hp dX0_init_34 ?_
  refine r_vret C 37 dX0_init_37 (Nat.le_refl _) (Nat.le_refl _) ?_
  exact ⟨rfl, rfl⟩
set_option maxRecDepth 100000 in
theorem k_X1_init {X : XT} (hX : Xok X) {p : Nat} (hp : Is S p 1) (g n w9 : Int32)  : Cn D ar X yX1_init cX1_init 4 none 1 12 0 0 [.ref p, .int g, .int n, .int w9] (cW ar S) (fun r w => r = none ∧ w = cW ar (ordS S p g n w9)) := by
  refine Cn.ofI (own := RX1) hX (by decide) rfl rfl (Nat.le_of_ble_eq_true rfl) (fun j C CI => ?_)
  have C0 := C.to
  show j _ 0 0 0 [(0, _), (1, _), (2, _), (3, _)] []
  refine r_aload_n C0 0 0 dX1_init_0 rfl rfl ?_
  refine r_objInit C0 1 mlX1_1 im_oi co_oi dX1_init_1 (Nat.le_of_ble_eq_true rfl) (Nat.le_of_ble_eq_true rfl) ?_
  refine r_aload_n C0 4 0 dX1_init_4 rfl rfl ?_
  refine r_iload_n C0 5 1 dX1_init_5 rfl rfl ?_
  refine cpI_10 CI 6 flX1_7 hp dX1_init_6 ?_
  refine r_aload_n C0 9 0 dX1_init_9 rfl rfl ?_
  refine r_iload_n C0 10 2 dX1_init_10 rfl rfl ?_
  refine cpI_11 CI 11 flX1_13 hp dX1_init_11 ?_
  refine r_aload_n C0 14 0 dX1_init_14 rfl rfl ?_
  refine r_iload_n C0 15 3 dX1_init_15 rfl rfl ?_
  refine cpI_12 CI 16 flX1_16 hp dX1_init_16 ?_
  refine r_vret C 19 dX1_init_19 (Nat.le_refl _) (Nat.le_refl _) ?_
  exact ⟨rfl, rfl⟩
set_option maxRecDepth 100000 in
theorem k_X2_init {X : XT} (hX : Xok X) {p : Nat} (hp : Is S p 2)  : Cn D ar X yX2_init cX2_init 1 none 1 12 0 0 [.ref p] (cW ar S) (fun r w => r = none ∧ w = cW ar (uI S 27 p (-9))) := by
  refine Cn.of (own := RX2) hX (by decide) rfl (Nat.le_of_ble_eq_true rfl) (fun j C => ?_)
  have C0 := C.to
  show j _ 0 0 0 [(0, _)] []
  refine r_aload_n C0 0 0 dX2_init_0 rfl rfl ?_
  refine r_objInit C0 1 mlX2_3 im_oi co_oi dX2_init_1 (Nat.le_of_ble_eq_true rfl) (Nat.le_of_ble_eq_true rfl) ?_
  refine r_aload_n C0 4 0 dX2_init_4 rfl rfl ?_
  refine r_bipush C0 5 (-9) dX2_init_5 (by decide) ?_
  refine cpI_27 C0 7 flX2_9 hp dX2_init_7 ?_
  refine r_vret C 10 dX2_init_10 (Nat.le_refl _) (Nat.le_refl _) ?_
  exact ⟨rfl, rfl⟩
set_option maxRecDepth 100000 in
theorem k_X3_init {p : Nat} (hp : Is S p 3) (pl g : Int32)  : Cn D ar (XC tg te mi) yX3_init cX3_init 3 none 2 32 1 9 [.ref p, .int pl, .int g] (cW ar S) (fun r w => ∃ q, q ∉ S.1 ∧ r = none ∧ w = cW ar (pkrS S p q pl g)) := by
  refine Cn.ofI (own := RX3) XC_ok (by decide) rfl rfl (Nat.le_of_ble_eq_true rfl) (fun j C CI => ?_)
  have C0 := C.to
  show j _ 0 0 0 [(0, _), (1, _), (2, _)] []
  refine r_aload_n C0 0 0 dX3_init_0 rfl rfl ?_
  refine r_objInit C0 1 mlX3_1 im_oi co_oi dX3_init_1 (Nat.le_of_ble_eq_true rfl) (Nat.le_of_ble_eq_true rfl) ?_
  refine r_aload_n C0 4 0 dX3_init_4 rfl rfl ?_
  refine r_iconst C0 5 1 dX3_init_5 (by decide) ?_
  refine cpI_32 C0 6 (Or.inr rfl) flX3_7 hp dX3_init_6 ?_
  refine r_aload_n C0 9 0 dX3_init_9 rfl rfl ?_
  refine ca_new2 C0 10 clX3_13 (Nat.le_of_ble_eq_true rfl) (Nat.le_of_ble_eq_true rfl) dX3_init_10 (fun q hq => ?_)
  have hp := hp.old (kd2 := 2) hq
  refine r_dup C0 13 dX3_init_13 rfl ?_
  refine c_initN (As := []) C0 14 0 (k_X2_init XC_ok Is.new) (rm_X2_init (by decide) (by decide) (Nat.le_refl _) (Nat.le_refl _)) (fun A s h => h.2.1.1) im_X2_init rfl rfl (Nat.le_of_ble_eq_true rfl) dX3_init_14 ?_
  rintro _ _ ⟨rfl, rfl⟩
  refine cpR_0 C0 17 flX3_16 hp dX3_init_17 ?_
  refine r_aload_n C0 20 0 dX3_init_20 rfl rfl ?_
  refine r_iload_n C0 21 1 dX3_init_21 rfl rfl ?_
  refine cpI_30 CI 22 flX3_20 hp dX3_init_22 ?_
  refine r_aload_n C0 25 0 dX3_init_25 rfl rfl ?_
  refine r_iload_n C0 26 2 dX3_init_26 rfl rfl ?_
  refine cpI_31 C0 27 flX3_24 hp dX3_init_27 ?_
  refine r_vret C 30 dX3_init_30 (Nat.le_refl _) (Nat.le_refl _) ?_
  exact ⟨q, hq, rfl, rfl⟩
end C20
end

section
-- ===== PART A: goes FIRST, ahead of the names: the tables' words, and 'selects' of the private methods out of them =====
/-- a private method of a class that the tables say can be made, by its rows of tables_1 -/
def lw_okq (q : MethodName × Nat) : Prop := (q.1.cls ≠ "java/lang/invoke/MethodHandle" ∧ q.1.cls ≠ "java/lang/invoke/VarHandle") ∧ Cond.instantiable q.1.cls q.2 ∈ tables_1 ∧ Cond.privateMethod q.1 ∈ tables_1 ∧ Cond.instanceMethod q.1 ∈ tables_1
theorem lw_p0 : lw_okq (⟨"EggHouse", "ofAllBarns", "(I)I"⟩, 11) := ⟨⟨by decide +kernel, by decide +kernel⟩, List.mem_of_getElem? (i := 18) (by decide +kernel), List.mem_of_getElem? (i := 175) (by decide +kernel), List.mem_of_getElem? (i := 176) (by decide +kernel)⟩
theorem lw_p1 : lw_okq (⟨"java/util/ArrayList", "add", "(Ljava/lang/Object;[Ljava/lang/Object;I)V"⟩, 3) := ⟨⟨by decide +kernel, by decide +kernel⟩, List.mem_of_getElem? (i := 26) (by decide +kernel), List.mem_of_getElem? (i := 226) (by decide +kernel), List.mem_of_getElem? (i := 227) (by decide +kernel)⟩
theorem lw_p2 : lw_okq (⟨"java/util/ArrayList", "grow", "()[Ljava/lang/Object;"⟩, 3) := ⟨⟨by decide +kernel, by decide +kernel⟩, List.mem_of_getElem? (i := 26) (by decide +kernel), List.mem_of_getElem? (i := 230) (by decide +kernel), List.mem_of_getElem? (i := 231) (by decide +kernel)⟩
theorem lw_p3 : lw_okq (⟨"java/util/ArrayList", "grow", "(I)[Ljava/lang/Object;"⟩, 3) := ⟨⟨by decide +kernel, by decide +kernel⟩, List.mem_of_getElem? (i := 26) (by decide +kernel), List.mem_of_getElem? (i := 234) (by decide +kernel), List.mem_of_getElem? (i := 235) (by decide +kernel)⟩
theorem lw_p4 : lw_okq (⟨"EggHouse", "passOneTick", "()V"⟩, 11) := ⟨⟨by decide +kernel, by decide +kernel⟩, List.mem_of_getElem? (i := 18) (by decide +kernel), List.mem_of_getElem? (i := 280) (by decide +kernel), List.mem_of_getElem? (i := 281) (by decide +kernel)⟩
theorem lw_p5 : lw_okq (⟨"EggHouse", "moveLine", "()V"⟩, 11) := ⟨⟨by decide +kernel, by decide +kernel⟩, List.mem_of_getElem? (i := 18) (by decide +kernel), List.mem_of_getElem? (i := 284) (by decide +kernel), List.mem_of_getElem? (i := 285) (by decide +kernel)⟩
theorem lw_p6 : lw_okq (⟨"EggHouse", "weigh", "()V"⟩, 11) := ⟨⟨by decide +kernel, by decide +kernel⟩, List.mem_of_getElem? (i := 18) (by decide +kernel), List.mem_of_getElem? (i := 288) (by decide +kernel), List.mem_of_getElem? (i := 289) (by decide +kernel)⟩
theorem lw_p7 : lw_okq (⟨"EggHouse", "look", "()V"⟩, 11) := ⟨⟨by decide +kernel, by decide +kernel⟩, List.mem_of_getElem? (i := 18) (by decide +kernel), List.mem_of_getElem? (i := 292) (by decide +kernel), List.mem_of_getElem? (i := 293) (by decide +kernel)⟩
theorem lw_p8 : lw_okq (⟨"EggHouse", "askCracked", "(LEggHouse$Egg;)I"⟩, 11) := ⟨⟨by decide +kernel, by decide +kernel⟩, List.mem_of_getElem? (i := 18) (by decide +kernel), List.mem_of_getElem? (i := 296) (by decide +kernel), List.mem_of_getElem? (i := 297) (by decide +kernel)⟩
theorem lw_p9 : lw_okq (⟨"EggHouse", "askBloody", "(LEggHouse$Egg;)I"⟩, 11) := ⟨⟨by decide +kernel, by decide +kernel⟩, List.mem_of_getElem? (i := 18) (by decide +kernel), List.mem_of_getElem? (i := 307) (by decide +kernel), List.mem_of_getElem? (i := 308) (by decide +kernel)⟩
theorem lw_p10 : lw_okq (⟨"EggHouse", "askDirty", "(LEggHouse$Egg;)I"⟩, 11) := ⟨⟨by decide +kernel, by decide +kernel⟩, List.mem_of_getElem? (i := 18) (by decide +kernel), List.mem_of_getElem? (i := 312) (by decide +kernel), List.mem_of_getElem? (i := 313) (by decide +kernel)⟩
theorem lw_p11 : lw_okq (⟨"EggHouse", "askSound", "()I"⟩, 11) := ⟨⟨by decide +kernel, by decide +kernel⟩, List.mem_of_getElem? (i := 18) (by decide +kernel), List.mem_of_getElem? (i := 317) (by decide +kernel), List.mem_of_getElem? (i := 318) (by decide +kernel)⟩
theorem lw_p12 : lw_okq (⟨"EggHouse", "startWash", "(LEggHouse$Egg;)V"⟩, 11) := ⟨⟨by decide +kernel, by decide +kernel⟩, List.mem_of_getElem? (i := 18) (by decide +kernel), List.mem_of_getElem? (i := 321) (by decide +kernel), List.mem_of_getElem? (i := 322) (by decide +kernel)⟩
theorem lw_p13 : lw_okq (⟨"EggHouse", "letTake", "(LEggHouse$Packer;)V"⟩, 11) := ⟨⟨by decide +kernel, by decide +kernel⟩, List.mem_of_getElem? (i := 18) (by decide +kernel), List.mem_of_getElem? (i := 325) (by decide +kernel), List.mem_of_getElem? (i := 326) (by decide +kernel)⟩
theorem lw_p14 : lw_okq (⟨"EggHouse", "takes", "(LEggHouse$Packer;LEggHouse$Egg;)Z"⟩, 11) := ⟨⟨by decide +kernel, by decide +kernel⟩, List.mem_of_getElem? (i := 18) (by decide +kernel), List.mem_of_getElem? (i := 329) (by decide +kernel), List.mem_of_getElem? (i := 330) (by decide +kernel)⟩
theorem lw_p15 : lw_okq (⟨"EggHouse", "closeTray", "(LEggHouse$Packer;)V"⟩, 11) := ⟨⟨by decide +kernel, by decide +kernel⟩, List.mem_of_getElem? (i := 18) (by decide +kernel), List.mem_of_getElem? (i := 344) (by decide +kernel), List.mem_of_getElem? (i := 345) (by decide +kernel)⟩
def lw_privs_1 : List (MethodName × Nat) := [(⟨"EggHouse", "ofAllBarns", "(I)I"⟩, 11), (⟨"java/util/ArrayList", "add", "(Ljava/lang/Object;[Ljava/lang/Object;I)V"⟩, 3), (⟨"java/util/ArrayList", "grow", "()[Ljava/lang/Object;"⟩, 3), (⟨"java/util/ArrayList", "grow", "(I)[Ljava/lang/Object;"⟩, 3), (⟨"EggHouse", "passOneTick", "()V"⟩, 11), (⟨"EggHouse", "moveLine", "()V"⟩, 11), (⟨"EggHouse", "weigh", "()V"⟩, 11), (⟨"EggHouse", "look", "()V"⟩, 11), (⟨"EggHouse", "askCracked", "(LEggHouse$Egg;)I"⟩, 11), (⟨"EggHouse", "askBloody", "(LEggHouse$Egg;)I"⟩, 11), (⟨"EggHouse", "askDirty", "(LEggHouse$Egg;)I"⟩, 11), (⟨"EggHouse", "askSound", "()I"⟩, 11), (⟨"EggHouse", "startWash", "(LEggHouse$Egg;)V"⟩, 11), (⟨"EggHouse", "letTake", "(LEggHouse$Packer;)V"⟩, 11), (⟨"EggHouse", "takes", "(LEggHouse$Packer;LEggHouse$Egg;)Z"⟩, 11), (⟨"EggHouse", "closeTray", "(LEggHouse$Packer;)V"⟩, 11)]
theorem lw_r1 : ∀ q ∈ lw_privs_1, lw_okq q := List.forall_mem_cons.mpr ⟨lw_p0, List.forall_mem_cons.mpr ⟨lw_p1, List.forall_mem_cons.mpr ⟨lw_p2, List.forall_mem_cons.mpr ⟨lw_p3, List.forall_mem_cons.mpr ⟨lw_p4, List.forall_mem_cons.mpr ⟨lw_p5, List.forall_mem_cons.mpr ⟨lw_p6, List.forall_mem_cons.mpr ⟨lw_p7, List.forall_mem_cons.mpr ⟨lw_p8, List.forall_mem_cons.mpr ⟨lw_p9, List.forall_mem_cons.mpr ⟨lw_p10, List.forall_mem_cons.mpr ⟨lw_p11, List.forall_mem_cons.mpr ⟨lw_p12, List.forall_mem_cons.mpr ⟨lw_p13, List.forall_mem_cons.mpr ⟨lw_p14, List.forall_mem_cons.mpr ⟨lw_p15, fun _ h => absurd h List.not_mem_nil⟩⟩⟩⟩⟩⟩⟩⟩⟩⟩⟩⟩⟩⟩⟩⟩
theorem lw_p16 : lw_okq (⟨"EggHouse", "bringWashed", "()V"⟩, 11) := ⟨⟨by decide +kernel, by decide +kernel⟩, List.mem_of_getElem? (i := 18) (by decide +kernel), List.mem_of_getElem? (i := 350) (by decide +kernel), List.mem_of_getElem? (i := 351) (by decide +kernel)⟩
theorem lw_p17 : lw_okq (⟨"java/util/ArrayList", "fastRemove", "([Ljava/lang/Object;I)V"⟩, 3) := ⟨⟨by decide +kernel, by decide +kernel⟩, List.mem_of_getElem? (i := 26) (by decide +kernel), List.mem_of_getElem? (i := 376) (by decide +kernel), List.mem_of_getElem? (i := 377) (by decide +kernel)⟩
theorem lw_p18 : lw_okq (⟨"EggHouse", "feedLine", "()V"⟩, 11) := ⟨⟨by decide +kernel, by decide +kernel⟩, List.mem_of_getElem? (i := 18) (by decide +kernel), List.mem_of_getElem? (i := 381) (by decide +kernel), List.mem_of_getElem? (i := 382) (by decide +kernel)⟩
theorem lw_p19 : lw_okq (⟨"EggHouse", "eggsOnLine", "()I"⟩, 11) := ⟨⟨by decide +kernel, by decide +kernel⟩, List.mem_of_getElem? (i := 18) (by decide +kernel), List.mem_of_getElem? (i := 418) (by decide +kernel), List.mem_of_getElem? (i := 419) (by decide +kernel)⟩
theorem lw_p20 : lw_okq (⟨"EggHouse", "eggsInTrays", "()I"⟩, 11) := ⟨⟨by decide +kernel, by decide +kernel⟩, List.mem_of_getElem? (i := 18) (by decide +kernel), List.mem_of_getElem? (i := 422) (by decide +kernel), List.mem_of_getElem? (i := 423) (by decide +kernel)⟩
theorem lw_p21 : lw_okq (⟨"EggHouse", "isPack", "(I)Z"⟩, 11) := ⟨⟨by decide +kernel, by decide +kernel⟩, List.mem_of_getElem? (i := 18) (by decide +kernel), List.mem_of_getElem? (i := 434) (by decide +kernel), List.mem_of_getElem? (i := 435) (by decide +kernel)⟩
theorem lw_p22 : lw_okq (⟨"EggHouse", "bestSet", "()I"⟩, 11) := ⟨⟨by decide +kernel, by decide +kernel⟩, List.mem_of_getElem? (i := 18) (by decide +kernel), List.mem_of_getElem? (i := 476) (by decide +kernel), List.mem_of_getElem? (i := 477) (by decide +kernel)⟩
theorem lw_p23 : lw_okq (⟨"EggHouse", "freeByGrade", "()[I"⟩, 11) := ⟨⟨by decide +kernel, by decide +kernel⟩, List.mem_of_getElem? (i := 18) (by decide +kernel), List.mem_of_getElem? (i := 480) (by decide +kernel), List.mem_of_getElem? (i := 481) (by decide +kernel)⟩
theorem lw_p24 : lw_okq (⟨"EggHouse", "worthOf", "(I)I"⟩, 11) := ⟨⟨by decide +kernel, by decide +kernel⟩, List.mem_of_getElem? (i := 18) (by decide +kernel), List.mem_of_getElem? (i := 485) (by decide +kernel), List.mem_of_getElem? (i := 486) (by decide +kernel)⟩
theorem lw_p25 : lw_okq (⟨"EggHouse", "canServe", "(I[I)Z"⟩, 11) := ⟨⟨by decide +kernel, by decide +kernel⟩, List.mem_of_getElem? (i := 18) (by decide +kernel), List.mem_of_getElem? (i := 492) (by decide +kernel), List.mem_of_getElem? (i := 493) (by decide +kernel)⟩
theorem lw_p26 : lw_okq (⟨"EggHouse", "wantedOf", "(II)I"⟩, 11) := ⟨⟨by decide +kernel, by decide +kernel⟩, List.mem_of_getElem? (i := 18) (by decide +kernel), List.mem_of_getElem? (i := 496) (by decide +kernel), List.mem_of_getElem? (i := 497) (by decide +kernel)⟩
theorem lw_p27 : lw_okq (⟨"EggHouse", "sellTo", "(I)I"⟩, 11) := ⟨⟨by decide +kernel, by decide +kernel⟩, List.mem_of_getElem? (i := 18) (by decide +kernel), List.mem_of_getElem? (i := 504) (by decide +kernel), List.mem_of_getElem? (i := 505) (by decide +kernel)⟩
theorem lw_p28 : lw_okq (⟨"EggHouse", "packsSold", "()I"⟩, 11) := ⟨⟨by decide +kernel, by decide +kernel⟩, List.mem_of_getElem? (i := 18) (by decide +kernel), List.mem_of_getElem? (i := 532) (by decide +kernel), List.mem_of_getElem? (i := 533) (by decide +kernel)⟩
theorem lw_p29 : lw_okq (⟨"EggHouse", "packsHeld", "()I"⟩, 11) := ⟨⟨by decide +kernel, by decide +kernel⟩, List.mem_of_getElem? (i := 18) (by decide +kernel), List.mem_of_getElem? (i := 536) (by decide +kernel), List.mem_of_getElem? (i := 537) (by decide +kernel)⟩
theorem lw_p30 : lw_okq (⟨"EggHouseModel", "oneTick", "()V"⟩, 38) := ⟨⟨by decide +kernel, by decide +kernel⟩, List.mem_of_getElem? (i := 544) (by decide +kernel), List.mem_of_getElem? (i := 677) (by decide +kernel), List.mem_of_getElem? (i := 678) (by decide +kernel)⟩
theorem lw_p31 : lw_okq (⟨"EggHouseModel", "looks", "()V"⟩, 38) := ⟨⟨by decide +kernel, by decide +kernel⟩, List.mem_of_getElem? (i := 544) (by decide +kernel), List.mem_of_getElem? (i := 681) (by decide +kernel), List.mem_of_getElem? (i := 682) (by decide +kernel)⟩
def lw_privs_2 : List (MethodName × Nat) := [(⟨"EggHouse", "bringWashed", "()V"⟩, 11), (⟨"java/util/ArrayList", "fastRemove", "([Ljava/lang/Object;I)V"⟩, 3), (⟨"EggHouse", "feedLine", "()V"⟩, 11), (⟨"EggHouse", "eggsOnLine", "()I"⟩, 11), (⟨"EggHouse", "eggsInTrays", "()I"⟩, 11), (⟨"EggHouse", "isPack", "(I)Z"⟩, 11), (⟨"EggHouse", "bestSet", "()I"⟩, 11), (⟨"EggHouse", "freeByGrade", "()[I"⟩, 11), (⟨"EggHouse", "worthOf", "(I)I"⟩, 11), (⟨"EggHouse", "canServe", "(I[I)Z"⟩, 11), (⟨"EggHouse", "wantedOf", "(II)I"⟩, 11), (⟨"EggHouse", "sellTo", "(I)I"⟩, 11), (⟨"EggHouse", "packsSold", "()I"⟩, 11), (⟨"EggHouse", "packsHeld", "()I"⟩, 11), (⟨"EggHouseModel", "oneTick", "()V"⟩, 38), (⟨"EggHouseModel", "looks", "()V"⟩, 38)]
theorem lw_r2 : ∀ q ∈ lw_privs_2, lw_okq q := List.forall_mem_cons.mpr ⟨lw_p16, List.forall_mem_cons.mpr ⟨lw_p17, List.forall_mem_cons.mpr ⟨lw_p18, List.forall_mem_cons.mpr ⟨lw_p19, List.forall_mem_cons.mpr ⟨lw_p20, List.forall_mem_cons.mpr ⟨lw_p21, List.forall_mem_cons.mpr ⟨lw_p22, List.forall_mem_cons.mpr ⟨lw_p23, List.forall_mem_cons.mpr ⟨lw_p24, List.forall_mem_cons.mpr ⟨lw_p25, List.forall_mem_cons.mpr ⟨lw_p26, List.forall_mem_cons.mpr ⟨lw_p27, List.forall_mem_cons.mpr ⟨lw_p28, List.forall_mem_cons.mpr ⟨lw_p29, List.forall_mem_cons.mpr ⟨lw_p30, List.forall_mem_cons.mpr ⟨lw_p31, fun _ h => absurd h List.not_mem_nil⟩⟩⟩⟩⟩⟩⟩⟩⟩⟩⟩⟩⟩⟩⟩⟩
theorem lw_p32 : lw_okq (⟨"EggHouseModel", "whereTo", "(I)I"⟩, 38) := ⟨⟨by decide +kernel, by decide +kernel⟩, List.mem_of_getElem? (i := 544) (by decide +kernel), List.mem_of_getElem? (i := 685) (by decide +kernel), List.mem_of_getElem? (i := 686) (by decide +kernel)⟩
theorem lw_p33 : lw_okq (⟨"EggHouseModel", "takes", "(I)V"⟩, 38) := ⟨⟨by decide +kernel, by decide +kernel⟩, List.mem_of_getElem? (i := 544) (by decide +kernel), List.mem_of_getElem? (i := 695) (by decide +kernel), List.mem_of_getElem? (i := 696) (by decide +kernel)⟩
theorem lw_p34 : lw_okq (⟨"EggHouseModel", "packs", "(I)V"⟩, 38) := ⟨⟨by decide +kernel, by decide +kernel⟩, List.mem_of_getElem? (i := 544) (by decide +kernel), List.mem_of_getElem? (i := 702) (by decide +kernel), List.mem_of_getElem? (i := 703) (by decide +kernel)⟩
theorem lw_p35 : lw_okq (⟨"EggHouseModel", "dries", "()V"⟩, 38) := ⟨⟨by decide +kernel, by decide +kernel⟩, List.mem_of_getElem? (i := 544) (by decide +kernel), List.mem_of_getElem? (i := 706) (by decide +kernel), List.mem_of_getElem? (i := 707) (by decide +kernel)⟩
theorem lw_p36 : lw_okq (⟨"EggHouseModel", "allBarns", "(I)I"⟩, 38) := ⟨⟨by decide +kernel, by decide +kernel⟩, List.mem_of_getElem? (i := 544) (by decide +kernel), List.mem_of_getElem? (i := 737) (by decide +kernel), List.mem_of_getElem? (i := 738) (by decide +kernel)⟩
theorem lw_p37 : lw_okq (⟨"EggHouseModel", "isPack", "(I)Z"⟩, 38) := ⟨⟨by decide +kernel, by decide +kernel⟩, List.mem_of_getElem? (i := 544) (by decide +kernel), List.mem_of_getElem? (i := 749) (by decide +kernel), List.mem_of_getElem? (i := 750) (by decide +kernel)⟩
theorem lw_p38 : lw_okq (⟨"EggHouseModel", "freeOf", "(I)I"⟩, 38) := ⟨⟨by decide +kernel, by decide +kernel⟩, List.mem_of_getElem? (i := 544) (by decide +kernel), List.mem_of_getElem? (i := 757) (by decide +kernel), List.mem_of_getElem? (i := 758) (by decide +kernel)⟩
theorem lw_p39 : lw_okq (⟨"EggHouseModel", "isFree", "(I)Z"⟩, 38) := ⟨⟨by decide +kernel, by decide +kernel⟩, List.mem_of_getElem? (i := 544) (by decide +kernel), List.mem_of_getElem? (i := 761) (by decide +kernel), List.mem_of_getElem? (i := 762) (by decide +kernel)⟩
theorem lw_p40 : lw_okq (⟨"EggHouseModel", "bestSet", "()I"⟩, 38) := ⟨⟨by decide +kernel, by decide +kernel⟩, List.mem_of_getElem? (i := 544) (by decide +kernel), List.mem_of_getElem? (i := 773) (by decide +kernel), List.mem_of_getElem? (i := 774) (by decide +kernel)⟩
theorem lw_p41 : lw_okq (⟨"EggHouseModel", "canServe", "(I)Z"⟩, 38) := ⟨⟨by decide +kernel, by decide +kernel⟩, List.mem_of_getElem? (i := 544) (by decide +kernel), List.mem_of_getElem? (i := 777) (by decide +kernel), List.mem_of_getElem? (i := 778) (by decide +kernel)⟩
theorem lw_p42 : lw_okq (⟨"EggHouseModel", "worthOf", "(I)I"⟩, 38) := ⟨⟨by decide +kernel, by decide +kernel⟩, List.mem_of_getElem? (i := 544) (by decide +kernel), List.mem_of_getElem? (i := 781) (by decide +kernel), List.mem_of_getElem? (i := 782) (by decide +kernel)⟩
theorem lw_p43 : lw_okq (⟨"EggHouseModel", "doubts", "(IIIZ)I"⟩, 38) := ⟨⟨by decide +kernel, by decide +kernel⟩, List.mem_of_getElem? (i := 544) (by decide +kernel), List.mem_of_getElem? (i := 797) (by decide +kernel), List.mem_of_getElem? (i := 798) (by decide +kernel)⟩
def lw_privs_3 : List (MethodName × Nat) := [(⟨"EggHouseModel", "whereTo", "(I)I"⟩, 38), (⟨"EggHouseModel", "takes", "(I)V"⟩, 38), (⟨"EggHouseModel", "packs", "(I)V"⟩, 38), (⟨"EggHouseModel", "dries", "()V"⟩, 38), (⟨"EggHouseModel", "allBarns", "(I)I"⟩, 38), (⟨"EggHouseModel", "isPack", "(I)Z"⟩, 38), (⟨"EggHouseModel", "freeOf", "(I)I"⟩, 38), (⟨"EggHouseModel", "isFree", "(I)Z"⟩, 38), (⟨"EggHouseModel", "bestSet", "()I"⟩, 38), (⟨"EggHouseModel", "canServe", "(I)Z"⟩, 38), (⟨"EggHouseModel", "worthOf", "(I)I"⟩, 38), (⟨"EggHouseModel", "doubts", "(IIIZ)I"⟩, 38)]
theorem lw_r3 : ∀ q ∈ lw_privs_3, lw_okq q := List.forall_mem_cons.mpr ⟨lw_p32, List.forall_mem_cons.mpr ⟨lw_p33, List.forall_mem_cons.mpr ⟨lw_p34, List.forall_mem_cons.mpr ⟨lw_p35, List.forall_mem_cons.mpr ⟨lw_p36, List.forall_mem_cons.mpr ⟨lw_p37, List.forall_mem_cons.mpr ⟨lw_p38, List.forall_mem_cons.mpr ⟨lw_p39, List.forall_mem_cons.mpr ⟨lw_p40, List.forall_mem_cons.mpr ⟨lw_p41, List.forall_mem_cons.mpr ⟨lw_p42, List.forall_mem_cons.mpr ⟨lw_p43, fun _ h => absurd h List.not_mem_nil⟩⟩⟩⟩⟩⟩⟩⟩⟩⟩⟩⟩
def lw_privs : List (MethodName × Nat) := lw_privs_1 ++ (lw_privs_2 ++ (lw_privs_3))
def lw_tbl : List Cond := k2_sels lw_privs ++ tables_1
theorem lw_privs_ok : ∀ q ∈ lw_privs, lw_okq q := by
  show ∀ q ∈ lw_privs_1 ++ (lw_privs_2 ++ (lw_privs_3)), lw_okq q
  exact List.forall_mem_append.mpr ⟨lw_r1, List.forall_mem_append.mpr ⟨lw_r2, lw_r3⟩⟩
-- ===== end of PART A; then your names; then what follows =====
def RX0 : String := "EggHouse$Egg"
def TX0 : u_T := fun k => match k with
  | 0 => ("EggHouse$Egg", "number", "I", true)
  | 1 => ("EggHouse$Egg", "barn", "I", true)
  | 2 => ("EggHouse$Egg", "weight", "I", true)
  | 3 => ("EggHouse$Egg", "taps", "I", true)
  | 4 => ("EggHouse$Egg", "blood", "I", true)
  | 5 => ("EggHouse$Egg", "dirt", "I", false)
  | 6 => ("EggHouse$Egg", "scaleTold", "I", false)
  | 7 => ("EggHouse$Egg", "weighedAt", "I", false)
  | _ => ("EggHouse$Egg", "washedAt", "I", false)
def tyX0 : Nat → FieldType := fun k => match k with
  | 0 => .int
  | 1 => .int
  | 2 => .int
  | 3 => .int
  | 4 => .int
  | 5 => .int
  | 6 => .int
  | 7 => .int
  | _ => .int
abbrev wsX00 : List Cond := u_ws RX0 TX0 9
theorem nmX0 : ∀ a, a < 9 → ∀ b, b < 9 → a ≠ b → (TX0 a).2.1 ≠ (TX0 b).2.1 := by decide +kernel
theorem tyX0_ok : ∀ k, k < 9 → parseFieldDescriptor (TX0 k).2.2.1 = some (tyX0 k) := by decide +kernel
abbrev cX0_init : ByteArray := prog_2_method_1_code
def yX0_init : MethodName := ⟨RX0, "<init>", "(IIIIII)V"⟩
def RX1 : String := "EggHouse$Order"
def TX1 : u_T := fun k => match k with
  | 0 => ("EggHouse$Order", "grade", "I", true)
  | 1 => ("EggHouse$Order", "wanted", "I", true)
  | 2 => ("EggHouse$Order", "worth", "I", true)
  | _ => ("EggHouse$Order", "served", "Z", false)
def tyX1 : Nat → FieldType := fun k => match k with
  | 0 => .int
  | 1 => .int
  | 2 => .int
  | _ => .boolean
abbrev wsX10 : List Cond := u_ws RX1 TX1 4
theorem nmX1 : ∀ a, a < 4 → ∀ b, b < 4 → a ≠ b → (TX1 a).2.1 ≠ (TX1 b).2.1 := by decide +kernel
theorem tyX1_ok : ∀ k, k < 4 → parseFieldDescriptor (TX1 k).2.2.1 = some (tyX1 k) := by decide +kernel
abbrev cX1_init : ByteArray := prog_3_method_1_code
def yX1_init : MethodName := ⟨RX1, "<init>", "(III)V"⟩
def RX2 : String := "EggHouse$Pack"
def TX2 : u_T := fun k => match k with
  | 0 => ("EggHouse$Pack", "grade", "I", false)
  | 1 => ("EggHouse$Pack", "eggs", "I", false)
  | 2 => ("EggHouse$Pack", "barns", "I", false)
  | 3 => ("EggHouse$Pack", "firstTick", "I", false)
  | 4 => ("EggHouse$Pack", "lastTick", "I", false)
  | 5 => ("EggHouse$Pack", "weights", "I", false)
  | 6 => ("EggHouse$Pack", "scaleTolds", "I", false)
  | 7 => ("EggHouse$Pack", "soldTo", "I", false)
  | _ => ("EggHouse$Pack", "held", "Z", false)
def tyX2 : Nat → FieldType := fun k => match k with
  | 0 => .int
  | 1 => .int
  | 2 => .int
  | 3 => .int
  | 4 => .int
  | 5 => .int
  | 6 => .int
  | 7 => .int
  | _ => .boolean
abbrev wsX20 : List Cond := u_ws RX2 TX2 9
theorem nmX2 : ∀ a, a < 9 → ∀ b, b < 9 → a ≠ b → (TX2 a).2.1 ≠ (TX2 b).2.1 := by decide +kernel
theorem tyX2_ok : ∀ k, k < 9 → parseFieldDescriptor (TX2 k).2.2.1 = some (tyX2 k) := by decide +kernel
abbrev cX2_init : ByteArray := prog_4_method_1_code
def yX2_init : MethodName := ⟨RX2, "<init>", "()V"⟩
abbrev cX2_lay : ByteArray := prog_4_method_2_code
def yX2_lay : MethodName := ⟨RX2, "lay", "(LEggHouse$Egg;)V"⟩
abbrev cX2_isFreeOf : ByteArray := prog_4_method_3_code
def yX2_isFreeOf : MethodName := ⟨RX2, "isFreeOf", "(I)Z"⟩
abbrev cX2_holdIf : ByteArray := prog_4_method_4_code
def yX2_holdIf : MethodName := ⟨RX2, "holdIf", "(Z)V"⟩
def RX3 : String := "EggHouse$Packer"
def TX3 : u_T := fun k => match k with
  | 0 => ("EggHouse$Packer", "place", "I", true)
  | 1 => ("EggHouse$Packer", "grade", "I", false)
  | 2 => ("EggHouse$Packer", "isOn", "Z", false)
  | 3 => ("EggHouse$Packer", "busy", "I", false)
  | _ => ("EggHouse$Packer", "tray", "LEggHouse$Pack;", false)
def tyX3 : Nat → FieldType := fun k => match k with
  | 0 => .int
  | 1 => .int
  | 2 => .boolean
  | 3 => .int
  | _ => .object "EggHouse$Pack"
abbrev wsX30 : List Cond := u_ws RX3 TX3 5
theorem nmX3 : ∀ a, a < 5 → ∀ b, b < 5 → a ≠ b → (TX3 a).2.1 ≠ (TX3 b).2.1 := by decide +kernel
theorem tyX3_ok : ∀ k, k < 5 → parseFieldDescriptor (TX3 k).2.2.1 = some (tyX3 k) := by decide +kernel
abbrev cX3_init : ByteArray := prog_5_method_1_code
def yX3_init : MethodName := ⟨RX3, "<init>", "(II)V"⟩
def RX4 : String := "EggHouse"
def TX4 : u_T := fun k => match k with
  | 0 => ("EggHouse", "queue", "Ljava/util/ArrayList;", true)
  | 1 => ("EggHouse", "wash", "Ljava/util/ArrayList;", true)
  | 2 => ("EggHouse", "line", "[LEggHouse$Egg;", true)
  | 3 => ("EggHouse", "packers", "[LEggHouse$Packer;", true)
  | 4 => ("EggHouse", "packs", "Ljava/util/ArrayList;", true)
  | 5 => ("EggHouse", "orders", "Ljava/util/ArrayList;", true)
  | 6 => ("EggHouse", "byBarn", "[[I", true)
  | 7 => ("EggHouse", "tickNumber", "I", false)
  | 8 => ("EggHouse", "driftNow", "I", false)
  | 9 => ("EggHouse", "washedEver", "I", false)
  | _ => ("EggHouse", "traceSum", "J", false)
def tyX4 : Nat → FieldType := fun k => match k with
  | 0 => .object "java/util/ArrayList"
  | 1 => .object "java/util/ArrayList"
  | 2 => .array (.object "EggHouse$Egg")
  | 3 => .array (.object "EggHouse$Packer")
  | 4 => .object "java/util/ArrayList"
  | 5 => .object "java/util/ArrayList"
  | 6 => .array (.array .int)
  | 7 => .int
  | 8 => .int
  | 9 => .int
  | _ => .long
abbrev wsX40 : List Cond := u_ws RX4 TX4 11
theorem nmX4 : ∀ a, a < 11 → ∀ b, b < 11 → a ≠ b → (TX4 a).2.1 ≠ (TX4 b).2.1 := by decide +kernel
theorem tyX4_ok : ∀ k, k < 11 → parseFieldDescriptor (TX4 k).2.2.1 = some (tyX4 k) := by decide +kernel
abbrev cX4_init : ByteArray := prog_1_method_1_code
def yX4_init : MethodName := ⟨RX4, "<init>", "()V"⟩
abbrev cX4_egg : ByteArray := prog_1_method_2_code
def yX4_egg : MethodName := ⟨RX4, "egg", "(IIIII)I"⟩
abbrev cX4_tick : ByteArray := prog_1_method_3_code
def yX4_tick : MethodName := ⟨RX4, "tick", "(I)I"⟩
abbrev cX4_drift : ByteArray := prog_1_method_4_code
def yX4_drift : MethodName := ⟨RX4, "drift", "(I)I"⟩
abbrev cX4_grade : ByteArray := prog_1_method_5_code
def yX4_grade : MethodName := ⟨RX4, "grade", "(II)I"⟩
abbrev cX4_on : ByteArray := prog_1_method_6_code
def yX4_on : MethodName := ⟨RX4, "on", "(IZ)I"⟩
abbrev cX4_at : ByteArray := prog_1_method_7_code
def yX4_at : MethodName := ⟨RX4, "at", "(II)I"⟩
abbrev cX4_packer : ByteArray := prog_1_method_8_code
def yX4_packer : MethodName := ⟨RX4, "packer", "(II)I"⟩
abbrev cX4_count : ByteArray := prog_1_method_9_code
def yX4_count : MethodName := ⟨RX4, "count", "(I)I"⟩
abbrev cX4_barn : ByteArray := prog_1_method_10_code
def yX4_barn : MethodName := ⟨RX4, "barn", "(II)I"⟩
abbrev cX4_pack : ByteArray := prog_1_method_11_code
def yX4_pack : MethodName := ⟨RX4, "pack", "(II)I"⟩
abbrev cX4_free : ByteArray := prog_1_method_12_code
def yX4_free : MethodName := ⟨RX4, "free", "(I)I"⟩
abbrev cX4_order : ByteArray := prog_1_method_13_code
def yX4_order : MethodName := ⟨RX4, "order", "(III)I"⟩
abbrev cX4_best : ByteArray := prog_1_method_14_code
def yX4_best : MethodName := ⟨RX4, "best", "(I)I"⟩
abbrev cX4_serve : ByteArray := prog_1_method_15_code
def yX4_serve : MethodName := ⟨RX4, "serve", "()I"⟩
abbrev cX4_about : ByteArray := prog_1_method_16_code
def yX4_about : MethodName := ⟨RX4, "about", "(II)I"⟩
abbrev cX4_doubt : ByteArray := prog_1_method_17_code
def yX4_doubt : MethodName := ⟨RX4, "doubt", "(IZ)I"⟩
abbrev cX4_hours : ByteArray := prog_1_method_18_code
def yX4_hours : MethodName := ⟨RX4, "hours", "(IIZ)I"⟩
abbrev cX4_clear : ByteArray := prog_1_method_19_code
def yX4_clear : MethodName := ⟨RX4, "clear", "(I)I"⟩
abbrev cX4_told : ByteArray := prog_1_method_20_code
def yX4_told : MethodName := ⟨RX4, "told", "(I)I"⟩
abbrev cX4_trace : ByteArray := prog_1_method_21_code
def yX4_trace : MethodName := ⟨RX4, "trace", "()J"⟩
abbrev cX4_passOneTick : ByteArray := prog_1_method_22_code
def yX4_passOneTick : MethodName := ⟨RX4, "passOneTick", "()V"⟩
abbrev cX4_moveLine : ByteArray := prog_1_method_23_code
def yX4_moveLine : MethodName := ⟨RX4, "moveLine", "()V"⟩
abbrev cX4_weigh : ByteArray := prog_1_method_24_code
def yX4_weigh : MethodName := ⟨RX4, "weigh", "()V"⟩
abbrev cX4_look : ByteArray := prog_1_method_25_code
def yX4_look : MethodName := ⟨RX4, "look", "()V"⟩
abbrev cX4_askCracked : ByteArray := prog_1_method_26_code
def yX4_askCracked : MethodName := ⟨RX4, "askCracked", "(LEggHouse$Egg;)I"⟩
abbrev cX4_askBloody : ByteArray := prog_1_method_27_code
def yX4_askBloody : MethodName := ⟨RX4, "askBloody", "(LEggHouse$Egg;)I"⟩
abbrev cX4_askDirty : ByteArray := prog_1_method_28_code
def yX4_askDirty : MethodName := ⟨RX4, "askDirty", "(LEggHouse$Egg;)I"⟩
abbrev cX4_askSound : ByteArray := prog_1_method_29_code
def yX4_askSound : MethodName := ⟨RX4, "askSound", "()I"⟩
abbrev cX4_startWash : ByteArray := prog_1_method_30_code
def yX4_startWash : MethodName := ⟨RX4, "startWash", "(LEggHouse$Egg;)V"⟩
abbrev cX4_letTake : ByteArray := prog_1_method_31_code
def yX4_letTake : MethodName := ⟨RX4, "letTake", "(LEggHouse$Packer;)V"⟩
abbrev cX4_takes : ByteArray := prog_1_method_32_code
def yX4_takes : MethodName := ⟨RX4, "takes", "(LEggHouse$Packer;LEggHouse$Egg;)Z"⟩
abbrev cX4_closeTray : ByteArray := prog_1_method_33_code
def yX4_closeTray : MethodName := ⟨RX4, "closeTray", "(LEggHouse$Packer;)V"⟩
abbrev cX4_bringWashed : ByteArray := prog_1_method_34_code
def yX4_bringWashed : MethodName := ⟨RX4, "bringWashed", "()V"⟩
abbrev cX4_feedLine : ByteArray := prog_1_method_35_code
def yX4_feedLine : MethodName := ⟨RX4, "feedLine", "()V"⟩
abbrev cX4_bestSet : ByteArray := prog_1_method_36_code
def yX4_bestSet : MethodName := ⟨RX4, "bestSet", "()I"⟩
abbrev cX4_freeByGrade : ByteArray := prog_1_method_37_code
def yX4_freeByGrade : MethodName := ⟨RX4, "freeByGrade", "()[I"⟩
abbrev cX4_worthOf : ByteArray := prog_1_method_38_code
def yX4_worthOf : MethodName := ⟨RX4, "worthOf", "(I)I"⟩
abbrev cX4_canServe : ByteArray := prog_1_method_39_code
def yX4_canServe : MethodName := ⟨RX4, "canServe", "(I[I)Z"⟩
abbrev cX4_wantedOf : ByteArray := prog_1_method_40_code
def yX4_wantedOf : MethodName := ⟨RX4, "wantedOf", "(II)I"⟩
abbrev cX4_sellTo : ByteArray := prog_1_method_41_code
def yX4_sellTo : MethodName := ⟨RX4, "sellTo", "(I)I"⟩
abbrev cX4_ofAllBarns : ByteArray := prog_1_method_42_code
def yX4_ofAllBarns : MethodName := ⟨RX4, "ofAllBarns", "(I)I"⟩
abbrev cX4_eggsOnLine : ByteArray := prog_1_method_43_code
def yX4_eggsOnLine : MethodName := ⟨RX4, "eggsOnLine", "()I"⟩
abbrev cX4_eggsInTrays : ByteArray := prog_1_method_44_code
def yX4_eggsInTrays : MethodName := ⟨RX4, "eggsInTrays", "()I"⟩
abbrev cX4_packsSold : ByteArray := prog_1_method_45_code
def yX4_packsSold : MethodName := ⟨RX4, "packsSold", "()I"⟩
abbrev cX4_packsHeld : ByteArray := prog_1_method_46_code
def yX4_packsHeld : MethodName := ⟨RX4, "packsHeld", "()I"⟩
abbrev cX4_isWithin : ByteArray := prog_1_method_47_code
def yX4_isWithin : MethodName := ⟨RX4, "isWithin", "(III)Z"⟩
abbrev cX4_isBarn : ByteArray := prog_1_method_48_code
def yX4_isBarn : MethodName := ⟨RX4, "isBarn", "(I)Z"⟩
abbrev cX4_isGrade : ByteArray := prog_1_method_49_code
def yX4_isGrade : MethodName := ⟨RX4, "isGrade", "(I)Z"⟩
abbrev cX4_isPacker : ByteArray := prog_1_method_50_code
def yX4_isPacker : MethodName := ⟨RX4, "isPacker", "(I)Z"⟩
abbrev cX4_isPack : ByteArray := prog_1_method_51_code
def yX4_isPack : MethodName := ⟨RX4, "isPack", "(I)Z"⟩
abbrev cX4_hasBit : ByteArray := prog_1_method_52_code
def yX4_hasBit : MethodName := ⟨RX4, "hasBit", "(II)Z"⟩
abbrev cX4_asNumber : ByteArray := prog_1_method_53_code
def yX4_asNumber : MethodName := ⟨RX4, "asNumber", "(Z)I"⟩
abbrev cX4_gradeOf : ByteArray := prog_1_method_54_code
def yX4_gradeOf : MethodName := ⟨RX4, "gradeOf", "(I)I"⟩
def RX5 : String := "EggHouseModel"
def TX5 : u_T := fun k => match k with
  | 0 => ("EggHouseModel", "eggs", "I", false)
  | 1 => ("EggHouseModel", "barn", "[I", true)
  | 2 => ("EggHouseModel", "weight", "[I", true)
  | 3 => ("EggHouseModel", "taps", "[I", true)
  | 4 => ("EggHouseModel", "blood", "[I", true)
  | 5 => ("EggHouseModel", "dirt", "[I", true)
  | 6 => ("EggHouseModel", "told", "[I", true)
  | 7 => ("EggHouseModel", "weighed", "[I", true)
  | 8 => ("EggHouseModel", "queued", "I", false)
  | 9 => ("EggHouseModel", "queue", "[I", true)
  | 10 => ("EggHouseModel", "line", "[I", true)
  | 11 => ("EggHouseModel", "washing", "I", false)
  | 12 => ("EggHouseModel", "wash", "[I", true)
  | 13 => ("EggHouseModel", "comesIn", "[I", true)
  | 14 => ("EggHouseModel", "washed", "I", false)
  | 15 => ("EggHouseModel", "ofBarn", "[I", true)
  | 16 => ("EggHouseModel", "gradeOf", "[I", true)
  | 17 => ("EggHouseModel", "isOff", "[Z", true)
  | 18 => ("EggHouseModel", "busy", "[I", true)
  | 19 => ("EggHouseModel", "trayed", "[I", true)
  | 20 => ("EggHouseModel", "tray", "[I", true)
  | 21 => ("EggHouseModel", "packs", "I", false)
  | 22 => ("EggHouseModel", "packGrade", "[I", true)
  | 23 => ("EggHouseModel", "packBarns", "[I", true)
  | 24 => ("EggHouseModel", "packFirst", "[I", true)
  | 25 => ("EggHouseModel", "packLast", "[I", true)
  | 26 => ("EggHouseModel", "packWeight", "[I", true)
  | 27 => ("EggHouseModel", "packTold", "[I", true)
  | 28 => ("EggHouseModel", "soldTo", "[I", true)
  | 29 => ("EggHouseModel", "isHeld", "[Z", true)
  | 30 => ("EggHouseModel", "orders", "I", false)
  | 31 => ("EggHouseModel", "orderGrade", "[I", true)
  | 32 => ("EggHouseModel", "orderMany", "[I", true)
  | 33 => ("EggHouseModel", "orderWorth", "[I", true)
  | 34 => ("EggHouseModel", "isServed", "[Z", true)
  | 35 => ("EggHouseModel", "now", "I", false)
  | 36 => ("EggHouseModel", "drift", "I", false)
  | _ => ("EggHouseModel", "trace", "J", false)
def tyX5 : Nat → FieldType := fun k => match k with
  | 0 => .int
  | 1 => .array .int
  | 2 => .array .int
  | 3 => .array .int
  | 4 => .array .int
  | 5 => .array .int
  | 6 => .array .int
  | 7 => .array .int
  | 8 => .int
  | 9 => .array .int
  | 10 => .array .int
  | 11 => .int
  | 12 => .array .int
  | 13 => .array .int
  | 14 => .int
  | 15 => .array .int
  | 16 => .array .int
  | 17 => .array .boolean
  | 18 => .array .int
  | 19 => .array .int
  | 20 => .array .int
  | 21 => .int
  | 22 => .array .int
  | 23 => .array .int
  | 24 => .array .int
  | 25 => .array .int
  | 26 => .array .int
  | 27 => .array .int
  | 28 => .array .int
  | 29 => .array .boolean
  | 30 => .int
  | 31 => .array .int
  | 32 => .array .int
  | 33 => .array .int
  | 34 => .array .boolean
  | 35 => .int
  | 36 => .int
  | _ => .long
abbrev wsX50 : List Cond := u_ws RX5 TX5 38
theorem nmX5 : ∀ a, a < 38 → ∀ b, b < 38 → a ≠ b → (TX5 a).2.1 ≠ (TX5 b).2.1 := by decide +kernel
theorem tyX5_ok : ∀ k, k < 38 → parseFieldDescriptor (TX5 k).2.2.1 = some (tyX5 k) := by decide +kernel
abbrev cX5_init : ByteArray := prog_7_method_1_code
def yX5_init : MethodName := ⟨RX5, "<init>", "()V"⟩
abbrev cX5_in : ByteArray := prog_7_method_3_code
def yX5_in : MethodName := ⟨RX5, "in", "(III)Z"⟩
abbrev cX5_egg : ByteArray := prog_7_method_4_code
def yX5_egg : MethodName := ⟨RX5, "egg", "(IIIII)I"⟩
abbrev cX5_gradeBy : ByteArray := prog_7_method_5_code
def yX5_gradeBy : MethodName := ⟨RX5, "gradeBy", "(I)I"⟩
abbrev cX5_dull : ByteArray := prog_7_method_6_code
def yX5_dull : MethodName := ⟨RX5, "dull", "(I)I"⟩
abbrev cX5_whereTo : ByteArray := prog_7_method_7_code
def yX5_whereTo : MethodName := ⟨RX5, "whereTo", "(I)I"⟩
abbrev cX5_looks : ByteArray := prog_7_method_8_code
def yX5_looks : MethodName := ⟨RX5, "looks", "()V"⟩
abbrev cX5_packs : ByteArray := prog_7_method_9_code
def yX5_packs : MethodName := ⟨RX5, "packs", "(I)V"⟩
abbrev cX5_takes : ByteArray := prog_7_method_10_code
def yX5_takes : MethodName := ⟨RX5, "takes", "(I)V"⟩
abbrev cX5_dries : ByteArray := prog_7_method_11_code
def yX5_dries : MethodName := ⟨RX5, "dries", "()V"⟩
abbrev cX5_oneTick : ByteArray := prog_7_method_12_code
def yX5_oneTick : MethodName := ⟨RX5, "oneTick", "()V"⟩
abbrev cX5_tick : ByteArray := prog_7_method_13_code
def yX5_tick : MethodName := ⟨RX5, "tick", "(I)I"⟩
abbrev cX5_drift : ByteArray := prog_7_method_14_code
def yX5_drift : MethodName := ⟨RX5, "drift", "(I)I"⟩
abbrev cX5_isPacker : ByteArray := prog_7_method_15_code
def yX5_isPacker : MethodName := ⟨RX5, "isPacker", "(I)Z"⟩
abbrev cX5_grade : ByteArray := prog_7_method_16_code
def yX5_grade : MethodName := ⟨RX5, "grade", "(II)I"⟩
abbrev cX5_on : ByteArray := prog_7_method_17_code
def yX5_on : MethodName := ⟨RX5, "on", "(IZ)I"⟩
abbrev cX5_at : ByteArray := prog_7_method_18_code
def yX5_at : MethodName := ⟨RX5, "at", "(II)I"⟩
abbrev cX5_packer : ByteArray := prog_7_method_19_code
def yX5_packer : MethodName := ⟨RX5, "packer", "(II)I"⟩
abbrev cX5_allBarns : ByteArray := prog_7_method_20_code
def yX5_allBarns : MethodName := ⟨RX5, "allBarns", "(I)I"⟩
abbrev cX5_count : ByteArray := prog_7_method_21_code
def yX5_count : MethodName := ⟨RX5, "count", "(I)I"⟩
abbrev cX5_barn : ByteArray := prog_7_method_22_code
def yX5_barn : MethodName := ⟨RX5, "barn", "(II)I"⟩
abbrev cX5_isPack : ByteArray := prog_7_method_23_code
def yX5_isPack : MethodName := ⟨RX5, "isPack", "(I)Z"⟩
abbrev cX5_pack : ByteArray := prog_7_method_24_code
def yX5_pack : MethodName := ⟨RX5, "pack", "(II)I"⟩
abbrev cX5_isFree : ByteArray := prog_7_method_25_code
def yX5_isFree : MethodName := ⟨RX5, "isFree", "(I)Z"⟩
abbrev cX5_freeOf : ByteArray := prog_7_method_26_code
def yX5_freeOf : MethodName := ⟨RX5, "freeOf", "(I)I"⟩
abbrev cX5_free : ByteArray := prog_7_method_27_code
def yX5_free : MethodName := ⟨RX5, "free", "(I)I"⟩
abbrev cX5_order : ByteArray := prog_7_method_28_code
def yX5_order : MethodName := ⟨RX5, "order", "(III)I"⟩
abbrev cX5_worthOf : ByteArray := prog_7_method_29_code
def yX5_worthOf : MethodName := ⟨RX5, "worthOf", "(I)I"⟩
abbrev cX5_canServe : ByteArray := prog_7_method_30_code
def yX5_canServe : MethodName := ⟨RX5, "canServe", "(I)Z"⟩
abbrev cX5_bestSet : ByteArray := prog_7_method_31_code
def yX5_bestSet : MethodName := ⟨RX5, "bestSet", "()I"⟩
abbrev cX5_best : ByteArray := prog_7_method_32_code
def yX5_best : MethodName := ⟨RX5, "best", "(I)I"⟩
abbrev cX5_serve : ByteArray := prog_7_method_33_code
def yX5_serve : MethodName := ⟨RX5, "serve", "()I"⟩
abbrev cX5_about : ByteArray := prog_7_method_34_code
def yX5_about : MethodName := ⟨RX5, "about", "(II)I"⟩
abbrev cX5_doubts : ByteArray := prog_7_method_35_code
def yX5_doubts : MethodName := ⟨RX5, "doubts", "(IIIZ)I"⟩
abbrev cX5_doubt : ByteArray := prog_7_method_36_code
def yX5_doubt : MethodName := ⟨RX5, "doubt", "(IZ)I"⟩
abbrev cX5_hours : ByteArray := prog_7_method_37_code
def yX5_hours : MethodName := ⟨RX5, "hours", "(IIZ)I"⟩
abbrev cX5_clear : ByteArray := prog_7_method_38_code
def yX5_clear : MethodName := ⟨RX5, "clear", "(I)I"⟩
abbrev cX5_told : ByteArray := prog_7_method_39_code
def yX5_told : MethodName := ⟨RX5, "told", "(I)I"⟩
abbrev cX5_trace : ByteArray := prog_7_method_40_code
def yX5_trace : MethodName := ⟨RX5, "trace", "()J"⟩
def RJx145de : String := "java/io/Serializable"
def TJx145de : u_T := fun k => match k with
  | _ => ("", "", "", false)
def tyJx145de : Nat → FieldType := fun k => match k with
  | _ => .int
abbrev wsJx145de0 : List Cond := u_ws RJx145de TJx145de 0
theorem nmJx145de : ∀ a, a < 0 → ∀ b, b < 0 → a ≠ b → (TJx145de a).2.1 ≠ (TJx145de b).2.1 := by decide +kernel
theorem tyJx145de_ok : ∀ k, k < 0 → parseFieldDescriptor (TJx145de k).2.2.1 = some (tyJx145de k) := by decide +kernel
def RJx8e188 : String := "java/lang/Cloneable"
def TJx8e188 : u_T := fun k => match k with
  | _ => ("", "", "", false)
def tyJx8e188 : Nat → FieldType := fun k => match k with
  | _ => .int
abbrev wsJx8e1880 : List Cond := u_ws RJx8e188 TJx8e188 0
theorem nmJx8e188 : ∀ a, a < 0 → ∀ b, b < 0 → a ≠ b → (TJx8e188 a).2.1 ≠ (TJx8e188 b).2.1 := by decide +kernel
theorem tyJx8e188_ok : ∀ k, k < 0 → parseFieldDescriptor (TJx8e188 k).2.2.1 = some (tyJx8e188 k) := by decide +kernel
def RJ6 : String := "java/lang/Integer"
def TJ6 : u_T := fun k => match k with
  | _ => ("", "", "", false)
def tyJ6 : Nat → FieldType := fun k => match k with
  | _ => .int
abbrev wsJ60 : List Cond := u_ws RJ6 TJ6 0
theorem nmJ6 : ∀ a, a < 0 → ∀ b, b < 0 → a ≠ b → (TJ6 a).2.1 ≠ (TJ6 b).2.1 := by decide +kernel
theorem tyJ6_ok : ∀ k, k < 0 → parseFieldDescriptor (TJ6 k).2.2.1 = some (tyJ6 k) := by decide +kernel
abbrev cJ6_bitCount_0f7a4 : ByteArray := prog_10_method_49_code
def yJ6_bitCount_0f7a4 : MethodName := ⟨RJ6, "bitCount", "(I)I"⟩
def RJxab1ab : String := "java/lang/Iterable"
def TJxab1ab : u_T := fun k => match k with
  | _ => ("", "", "", false)
def tyJxab1ab : Nat → FieldType := fun k => match k with
  | _ => .int
abbrev wsJxab1ab0 : List Cond := u_ws RJxab1ab TJxab1ab 0
theorem nmJxab1ab : ∀ a, a < 0 → ∀ b, b < 0 → a ≠ b → (TJxab1ab a).2.1 ≠ (TJxab1ab b).2.1 := by decide +kernel
theorem tyJxab1ab_ok : ∀ k, k < 0 → parseFieldDescriptor (TJxab1ab k).2.2.1 = some (tyJxab1ab k) := by decide +kernel
def RJ9 : String := "java/lang/Math"
def TJ9 : u_T := fun k => match k with
  | _ => ("", "", "", false)
def tyJ9 : Nat → FieldType := fun k => match k with
  | _ => .int
abbrev wsJ90 : List Cond := u_ws RJ9 TJ9 0
theorem nmJ9 : ∀ a, a < 0 → ∀ b, b < 0 → a ≠ b → (TJ9 a).2.1 ≠ (TJ9 b).2.1 := by decide +kernel
theorem tyJ9_ok : ∀ k, k < 0 → parseFieldDescriptor (TJ9 k).2.2.1 = some (tyJ9 k) := by decide +kernel
abbrev cJ9_max_7cf53 : ByteArray := prog_12_method_65_code
def yJ9_max_7cf53 : MethodName := ⟨RJ9, "max", "(II)I"⟩
abbrev cJ9_min_7cf53 : ByteArray := prog_12_method_69_code
def yJ9_min_7cf53 : MethodName := ⟨RJ9, "min", "(II)I"⟩
def RJ10 : String := "java/lang/System"
def TJ10 : u_T := fun k => match k with
  | _ => ("", "", "", false)
def tyJ10 : Nat → FieldType := fun k => match k with
  | _ => .int
abbrev wsJ100 : List Cond := u_ws RJ10 TJ10 0
theorem nmJ10 : ∀ a, a < 0 → ∀ b, b < 0 → a ≠ b → (TJ10 a).2.1 ≠ (TJ10 b).2.1 := by decide +kernel
theorem tyJ10_ok : ∀ k, k < 0 → parseFieldDescriptor (TJ10 k).2.2.1 = some (tyJ10 k) := by decide +kernel
def RJxa1e45 : String := "java/util/AbstractCollection"
def TJxa1e45 : u_T := fun k => match k with
  | _ => ("", "", "", false)
def tyJxa1e45 : Nat → FieldType := fun k => match k with
  | _ => .int
abbrev wsJxa1e450 : List Cond := u_ws RJxa1e45 TJxa1e45 0
theorem nmJxa1e45 : ∀ a, a < 0 → ∀ b, b < 0 → a ≠ b → (TJxa1e45 a).2.1 ≠ (TJxa1e45 b).2.1 := by decide +kernel
theorem tyJxa1e45_ok : ∀ k, k < 0 → parseFieldDescriptor (TJxa1e45 k).2.2.1 = some (tyJxa1e45 k) := by decide +kernel
abbrev cJxa1e45_init_da8c8 : ByteArray := prog_14_method_1_code
def yJxa1e45_init_da8c8 : MethodName := ⟨RJxa1e45, "<init>", "()V"⟩
def RJxc12de : String := "java/util/AbstractList"
def TJxc12de : u_T := fun k => match k with
  | _ => ("", "", "", false)
def tyJxc12de : Nat → FieldType := fun k => match k with
  | _ => .int
abbrev wsJxc12de0 : List Cond := u_ws RJxc12de TJxc12de 0
theorem nmJxc12de : ∀ a, a < 0 → ∀ b, b < 0 → a ≠ b → (TJxc12de a).2.1 ≠ (TJxc12de b).2.1 := by decide +kernel
theorem tyJxc12de_ok : ∀ k, k < 0 → parseFieldDescriptor (TJxc12de k).2.2.1 = some (tyJxc12de k) := by decide +kernel
abbrev cJxc12de_init_da8c8 : ByteArray := prog_15_method_1_code
def yJxc12de_init_da8c8 : MethodName := ⟨RJxc12de, "<init>", "()V"⟩
def RJx4a65c : String := "java/util/ArrayList"
def TJx4a65c : u_T := fun k => match k with
  | 0 => ("java/util/AbstractList", "modCount", "I", false)
  | 1 => ("java/util/ArrayList", "elementData", "[Ljava/lang/Object;", false)
  | _ => ("java/util/ArrayList", "size", "I", false)
def tyJx4a65c : Nat → FieldType := fun k => match k with
  | 0 => .int
  | 1 => .array (.object "java/lang/Object")
  | _ => .int
abbrev wsJx4a65c0 : List Cond := u_ws RJx4a65c TJx4a65c 3
theorem nmJx4a65c : ∀ a, a < 3 → ∀ b, b < 3 → a ≠ b → (TJx4a65c a).2.1 ≠ (TJx4a65c b).2.1 := by decide +kernel
theorem tyJx4a65c_ok : ∀ k, k < 3 → parseFieldDescriptor (TJx4a65c k).2.2.1 = some (tyJx4a65c k) := by decide +kernel
abbrev cJx4a65c_init_da8c8 : ByteArray := prog_16_method_2_code
def yJx4a65c_init_da8c8 : MethodName := ⟨RJx4a65c, "<init>", "()V"⟩
abbrev cJx4a65c_grow_92f84 : ByteArray := prog_16_method_6_code
def yJx4a65c_grow_92f84 : MethodName := ⟨RJx4a65c, "grow", "(I)[Ljava/lang/Object;"⟩
abbrev cJx4a65c_grow_d5877 : ByteArray := prog_16_method_7_code
def yJx4a65c_grow_d5877 : MethodName := ⟨RJx4a65c, "grow", "()[Ljava/lang/Object;"⟩
abbrev cJx4a65c_size_8abf5 : ByteArray := prog_16_method_8_code
def yJx4a65c_size_8abf5 : MethodName := ⟨RJx4a65c, "size", "()I"⟩
abbrev cJx4a65c_isEmpty_aae02 : ByteArray := prog_16_method_9_code
def yJx4a65c_isEmpty_aae02 : MethodName := ⟨RJx4a65c, "isEmpty", "()Z"⟩
abbrev cJx4a65c_elementData_915e3 : ByteArray := prog_16_method_18_code
def yJx4a65c_elementData_915e3 : MethodName := ⟨RJx4a65c, "elementData", "(I)Ljava/lang/Object;"⟩
abbrev cJx4a65c_get_915e3 : ByteArray := prog_16_method_20_code
def yJx4a65c_get_915e3 : MethodName := ⟨RJx4a65c, "get", "(I)Ljava/lang/Object;"⟩
abbrev cJx4a65c_add_72be8 : ByteArray := prog_16_method_24_code
def yJx4a65c_add_72be8 : MethodName := ⟨RJx4a65c, "add", "(Ljava/lang/Object;[Ljava/lang/Object;I)V"⟩
abbrev cJx4a65c_add_9ea2d : ByteArray := prog_16_method_25_code
def yJx4a65c_add_9ea2d : MethodName := ⟨RJx4a65c, "add", "(Ljava/lang/Object;)Z"⟩
abbrev cJx4a65c_remove_915e3 : ByteArray := prog_16_method_29_code
def yJx4a65c_remove_915e3 : MethodName := ⟨RJx4a65c, "remove", "(I)Ljava/lang/Object;"⟩
abbrev cJx4a65c_fastRemove_b59b0 : ByteArray := prog_16_method_39_code
def yJx4a65c_fastRemove_b59b0 : MethodName := ⟨RJx4a65c, "fastRemove", "([Ljava/lang/Object;I)V"⟩
def RJ7 : String := "java/util/Arrays"
def TJ7 : u_T := fun k => match k with
  | _ => ("", "", "", false)
def tyJ7 : Nat → FieldType := fun k => match k with
  | _ => .int
abbrev wsJ70 : List Cond := u_ws RJ7 TJ7 0
theorem nmJ7 : ∀ a, a < 0 → ∀ b, b < 0 → a ≠ b → (TJ7 a).2.1 ≠ (TJ7 b).2.1 := by decide +kernel
theorem tyJ7_ok : ∀ k, k < 0 → parseFieldDescriptor (TJ7 k).2.2.1 = some (tyJ7 k) := by decide +kernel
abbrev cJ7_copyOf_1904c : ByteArray := prog_17_method_119_code
def yJ7_copyOf_1904c : MethodName := ⟨RJ7, "copyOf", "([Ljava/lang/Object;I)[Ljava/lang/Object;"⟩
abbrev cJ7_copyOf_6403c : ByteArray := prog_17_method_120_code
def yJ7_copyOf_6403c : MethodName := ⟨RJ7, "copyOf", "([Ljava/lang/Object;ILjava/lang/Class;)[Ljava/lang/Object;"⟩
def RJx5ef63 : String := "java/util/Collection"
def TJx5ef63 : u_T := fun k => match k with
  | _ => ("", "", "", false)
def tyJx5ef63 : Nat → FieldType := fun k => match k with
  | _ => .int
abbrev wsJx5ef630 : List Cond := u_ws RJx5ef63 TJx5ef63 0
theorem nmJx5ef63 : ∀ a, a < 0 → ∀ b, b < 0 → a ≠ b → (TJx5ef63 a).2.1 ≠ (TJx5ef63 b).2.1 := by decide +kernel
theorem tyJx5ef63_ok : ∀ k, k < 0 → parseFieldDescriptor (TJx5ef63 k).2.2.1 = some (tyJx5ef63 k) := by decide +kernel
def RJxbd725 : String := "java/util/List"
def TJxbd725 : u_T := fun k => match k with
  | _ => ("", "", "", false)
def tyJxbd725 : Nat → FieldType := fun k => match k with
  | _ => .int
abbrev wsJxbd7250 : List Cond := u_ws RJxbd725 TJxbd725 0
theorem nmJxbd725 : ∀ a, a < 0 → ∀ b, b < 0 → a ≠ b → (TJxbd725 a).2.1 ≠ (TJxbd725 b).2.1 := by decide +kernel
theorem tyJxbd725_ok : ∀ k, k < 0 → parseFieldDescriptor (TJxbd725 k).2.2.1 = some (tyJxbd725 k) := by decide +kernel
def RJ15 : String := "java/util/Objects"
def TJ15 : u_T := fun k => match k with
  | _ => ("", "", "", false)
def tyJ15 : Nat → FieldType := fun k => match k with
  | _ => .int
abbrev wsJ150 : List Cond := u_ws RJ15 TJ15 0
theorem nmJ15 : ∀ a, a < 0 → ∀ b, b < 0 → a ≠ b → (TJ15 a).2.1 ≠ (TJ15 b).2.1 := by decide +kernel
theorem tyJ15_ok : ∀ k, k < 0 → parseFieldDescriptor (TJ15 k).2.2.1 = some (tyJ15 k) := by decide +kernel
abbrev cJ15_checkIndex_7cf53 : ByteArray := prog_20_method_17_code
def yJ15_checkIndex_7cf53 : MethodName := ⟨RJ15, "checkIndex", "(II)I"⟩
def RJxf0a74 : String := "java/util/RandomAccess"
def TJxf0a74 : u_T := fun k => match k with
  | _ => ("", "", "", false)
def tyJxf0a74 : Nat → FieldType := fun k => match k with
  | _ => .int
abbrev wsJxf0a740 : List Cond := u_ws RJxf0a74 TJxf0a74 0
theorem nmJxf0a74 : ∀ a, a < 0 → ∀ b, b < 0 → a ≠ b → (TJxf0a74 a).2.1 ≠ (TJxf0a74 b).2.1 := by decide +kernel
theorem tyJxf0a74_ok : ∀ k, k < 0 → parseFieldDescriptor (TJxf0a74 k).2.2.1 = some (tyJxf0a74 k) := by decide +kernel
def RJxa66e6 : String := "java/util/SequencedCollection"
def TJxa66e6 : u_T := fun k => match k with
  | _ => ("", "", "", false)
def tyJxa66e6 : Nat → FieldType := fun k => match k with
  | _ => .int
abbrev wsJxa66e60 : List Cond := u_ws RJxa66e6 TJxa66e6 0
theorem nmJxa66e6 : ∀ a, a < 0 → ∀ b, b < 0 → a ≠ b → (TJxa66e6 a).2.1 ≠ (TJxa66e6 b).2.1 := by decide +kernel
theorem tyJxa66e6_ok : ∀ k, k < 0 → parseFieldDescriptor (TJxa66e6 k).2.2.1 = some (tyJxa66e6 k) := by decide +kernel
def RJ8 : String := "jdk/internal/util/ArraysSupport"
def TJ8 : u_T := fun k => match k with
  | _ => ("", "", "", false)
def tyJ8 : Nat → FieldType := fun k => match k with
  | _ => .int
abbrev wsJ80 : List Cond := u_ws RJ8 TJ8 0
theorem nmJ8 : ∀ a, a < 0 → ∀ b, b < 0 → a ≠ b → (TJ8 a).2.1 ≠ (TJ8 b).2.1 := by decide +kernel
theorem tyJ8_ok : ∀ k, k < 0 → parseFieldDescriptor (TJ8 k).2.2.1 = some (tyJ8 k) := by decide +kernel
abbrev cJ8_newLength_cabcc : ByteArray := prog_23_method_27_code
def yJ8_newLength_cabcc : MethodName := ⟨RJ8, "newLength", "(III)I"⟩
abbrev cJ8_hugeLength_7cf53 : ByteArray := prog_23_method_28_code
def yJ8_hugeLength_7cf53 : MethodName := ⟨RJ8, "hugeLength", "(II)I"⟩
def RJ3 : String := "jdk/internal/util/Preconditions"
def TJ3 : u_T := fun k => match k with
  | _ => ("", "", "", false)
def tyJ3 : Nat → FieldType := fun k => match k with
  | _ => .int
abbrev wsJ30 : List Cond := u_ws RJ3 TJ3 0
theorem nmJ3 : ∀ a, a < 0 → ∀ b, b < 0 → a ≠ b → (TJ3 a).2.1 ≠ (TJ3 b).2.1 := by decide +kernel
theorem tyJ3_ok : ∀ k, k < 0 → parseFieldDescriptor (TJ3 k).2.2.1 = some (tyJ3 k) := by decide +kernel
abbrev cJ3_checkIndex_8e157 : ByteArray := prog_24_method_11_code
def yJ3_checkIndex_8e157 : MethodName := ⟨RJ3, "checkIndex", "(IILjava/util/function/BiFunction;)I"⟩
def RL : String := "EggHouseLaw"
abbrev cL_law : ByteArray := code
def yL_law : MethodName := ⟨RL, "law", "([I)Z"⟩
end
section
/-! my own frame: 'j ws k n pc lv st': the machine stands at pc, its world is ws, k cells of n slots are new, the locals hold lv, the stack st; the heap is hidden in it -/
abbrev cls7 : List vw_C := [(RX0, TX0, 9), (RX1, TX1, 4), (RX2, TX2, 9), (RX3, TX3, 5), (RX4, TX4, 11), (RX5, TX5, 38), (RJx4a65c, TJx4a65c, 3)]
abbrev tys6 (ar : Nat → ClassId) : List (ClassId × FieldType) := [(ar 0, .int), (ar 1, .boolean), (ar 2, .object "EggHouse$Egg"), (ar 3, .object "EggHouse$Packer"), (ar 4, .object "java/lang/Object"), (ar 5, .array .int)]
def gtbl : List Cond := lw_tbl.filter goodWord
theorem gtbl_in {w : Cond} (h : w ∈ lw_tbl) (hg : goodWord w = true) : w ∈ gtbl := List.mem_filter.mpr ⟨h, hg⟩
theorem gtbl_of {w : Cond} (h : w ∈ gtbl) : w ∈ lw_tbl := (List.mem_filter.mp h).1
theorem gtbl_good : GoodIn gtbl gtbl := fun w h => ⟨h, good_of_word (List.mem_filter.mp h).2⟩
theorem gtbl_cons {c : Cond} (h : c ∈ gtbl) : GoodIn gtbl (c :: gtbl) := fun w hw => (List.mem_cons.mp hw).elim (fun e => by subst e; exact gtbl_good _ h) (gtbl_good w)
abbrev XT : Type := (Nat → Prop) → State → Heap → Prop
def Xok (X : XT) : Prop := (∀ (A : Nat → Prop) (U V : State) (H : Heap), U.vm = V.vm → X A U H → X A V H) ∧ (∀ (A : Nat → Prop) (U V : State) (H : Heap), U.WarmedH V.vm → X A U H → X A V H) ∧ (∀ (A : Nat → Prop) (U : State) (H H1 : Heap), H.size ≤ H1.size → (∀ q : Nat, q < H.size → ¬ A q → H1[q]? = H[q]?) → X A U H → X A U H1) ∧ (∀ (A B : Nat → Prop) (U : State) (H : Heap), (∀ q : Nat, q < H.size → B q → A q) → X A U H → X B U H)
abbrev jT : Type := va_W → Nat → Nat → Nat → List (Nat × Value) → List Value → Prop
def JJ (p : Program) (l : Launch) (e : Env) (R : Room) (s : State) (m : MethodId) (args : Array Value) (below : List Frame) (meth : Method) (c : Code) (A : Nat → Prop) (D : va_G) (nL : Nat) (Q : State → Prop) : jT := fun ws k n pc lv st =>
  ∀ (H : Heap) (locs : List Loc) (ls : Array Slot), va_P D cls7 ws H → va_D A ws → va_S A s.heap H locs → lv_has ls nL lv → W p l e R s m args below meth c H locs k n Q (F0 m pc ls st)
def Cz (own : String) (cc : ByteArray) (nL : Nat) (D : va_G) (ar : Nat → ClassId) (X : XT) (p : Program) (s : State) (m : MethodId) (args : Array Value) (meth : Method) (c : Code) (A : Nat → Prop) : Prop :=
  p.tables.exec = Jvm.exec ∧ c.code = cc ∧ c.maxLocals = nL ∧ s.vm.findClass own = some m.cls ∧ (∀ w ∈ gtbl, w.before args s = true) ∧ va_K D cls7 (tys6 ar) s ∧ (∀ q, s.heap.size ≤ q → A q) ∧ Xok X ∧ X A s s.heap
/-- a body's context, but for its end -/
def Cx0 (own : String) (cc : ByteArray) (nL : Nat) (D : va_G) (ar : Nat → ClassId) (X : XT) (R : Room) (j : jT) : Prop :=
  ∃ (p : Program) (l : Launch) (e : Env) (s : State) (m : MethodId) (args : Array Value) (below : List Frame) (meth : Method) (c : Code) (A : Nat → Prop) (Q : State → Prop), Cz own cc nL D ar X p s m args meth c A ∧ j = JJ p l e R s m args below meth c A D nL Q
def Qn (D : va_G) (Ret : Option Value → va_W → Prop) (A : Nat → Prop) : Array Value → State → Outcome → State → Prop := fun _ st oc t => (∃ (r : Option Value) (ws' : va_W), oc = .returned r ∧ Ret r ws' ∧ va_P D cls7 ws' t.heap ∧ va_D A ws') ∧ va_F A st t
/-- a body's context, with its end: what it may answer, and in which world -/
def Cx (own : String) (cc : ByteArray) (nL : Nat) (D : va_G) (ar : Nat → ClassId) (X : XT) (R : Room) (ret : Option FieldType) (Ret : Option Value → va_W → Prop) (j : jT) : Prop :=
  ∃ (p : Program) (l : Launch) (e : Env) (s : State) (m : MethodId) (args : Array Value) (below : List Frame) (meth : Method) (c : Code) (A : Nat → Prop), Cz own cc nL D ar X p s m args meth c A ∧ meth.sig.returnType = ret ∧ meth.locks = false ∧ j = JJ p l e R s m args below meth c A D nL (MQ below (Qn D Ret A) args s R.cells R.slots A)
abbrev rmOf (fr lo mc ms : Nat) : Room := { frames := fr, cells := mc, slots := ms, locals := lo }
/-- a method's contract: from the world ws with these arguments it returns, and 'Ret answer world' -/
def Cn (D : va_G) (ar : Nat → ClassId) (X : XT) (y : MethodName) (cc : ByteArray) (nL : Nat) (ret : Option FieldType) (fr lo mc ms : Nat) (av : List Value) (ws : va_W) (Ret : Option Value → va_W → Prop) : Prop :=
  ∀ (l : Launch) (sz : Nat), Met l y (Cond.code y cc nL ret :: gtbl) (rmOf fr lo mc ms) (va_Pc av (fun U => U.heap.size = sz ∧ va_P D cls7 ws U.heap ∧ va_K D cls7 (tys6 ar) U ∧ va_D (fun _ => True) ws ∧ X (va_A ws sz) U U.heap)) (Qn D Ret (va_A ws sz)) mc ms (va_A ws sz)
theorem Cx.to {own : String} {cc : ByteArray} {nL : Nat} {D : va_G} {ar : Nat → ClassId} {X : XT} {R : Room} {ret : Option FieldType} {Ret : Option Value → va_W → Prop} {j : jT} (C : Cx own cc nL D ar X R ret Ret j) : Cx0 own cc nL D ar X R j := by
  obtain ⟨p, l, e, s, m, args, below, meth, c, A, hz, -, -, hj⟩ := C
  exact ⟨p, l, e, s, m, args, below, meth, c, A, _, hz, hj⟩
theorem Cn.of {own : String} {D : va_G} {ar : Nat → ClassId} {X : XT} {y : MethodName} {cc : ByteArray} {nL : Nat} {ret : Option FieldType} {fr lo mc ms : Nat} {av : List Value} {ws : va_W} {Ret : Option Value → va_W → Prop} (hX : Xok X) (hy : plainName y.cls = true) (ho : y.cls = own) (hv : (lg_sl av).length ≤ nL)
    (body : ∀ j : jT, Cx own cc nL D ar X (rmOf fr lo mc ms) ret Ret j → j ws 0 0 0 (lv_args 0 av) []) : Cn D ar X y cc nL ret fr lo mc ms av ws Ret := by
  intro l sz
  refine Met.ofW (cc := cc) (maxL := nL) (ret := ret) hy rfl ?_
  intro p e s m args below meth c s₁ B hml hpc
  obtain ⟨rfl, rfl, hP, hK, hD0, hXs⟩ := hpc
  have hts := atoms_spec (ws := Cond.code y cc nL ret :: gtbl) B.pre
  have hown : s.vm.findClass own = some m.cls := by rw [← ho]; exact findClass_of_methodNamed B.named
  have C : Cx own cc nL D ar X (rmOf fr lo mc ms) ret Ret (JJ p l e (rmOf fr lo mc ms) s m av.toArray below meth c (va_A ws s.heap.size) D nL (MQ below (Qn D Ret (va_A ws s.heap.size)) av.toArray s mc ms (va_A ws s.heap.size))) :=
    ⟨p, l, e, s, m, av.toArray, below, meth, c, va_A ws s.heap.size, ⟨B.exec, B.bytes, hml, hown, fun w hw => hts w (List.mem_cons_of_mem _ hw), hK, fun q h => Or.inr h, hX, hXs⟩, B.returns, B.notSynchronized, rfl⟩
  rw [lg_entry_eq]
  exact body _ C s.heap [] _ hP (hD0.self (sz := s.heap.size)) va_S.rf (lv_entry av hv)
/-- a value put into a local -/
def lvS (i : Nat) (v : Value) (lv : List (Nat × Value)) : List (Nat × Value) := cond (lv.any (fun q => q.1 == i)) (lv.map (fun q => cond (q.1 == i) (i, v) q)) (lv ++ [(i, v)])
def lvC (lv : List (Nat × Value)) : Bool := lv.all (fun q => q.2.category == 1)
theorem lvS_mem {i : Nat} {v : Value} {lv : List (Nat × Value)} {q : Nat × Value} (h : q ∈ lvS i v lv) : q = (i, v) ∨ (q ∈ lv ∧ ¬ q.1 = i) := by
  unfold lvS at h
  cases ha : lv.any (fun q => q.1 == i) with
  | true =>
    rw [ha] at h
    obtain ⟨x, hx, hq⟩ := List.mem_map.mp (show q ∈ lv.map _ from h)
    cases hb : (x.1 == i) with
    | true => rw [hb] at hq; exact Or.inl hq.symm
    | false =>
      rw [hb] at hq
      have e : x = q := hq
      subst e
      exact Or.inr ⟨hx, fun z => by rw [z] at hb; simp at hb⟩
  | false =>
    rw [ha] at h
    rcases List.mem_append.mp (show q ∈ lv ++ [(i, v)] from h) with h1 | h1
    · refine Or.inr ⟨h1, fun z => ?_⟩
      have h2 := List.any_eq_false.mp ha q h1
      rw [z] at h2
      simp at h2
    · exact Or.inl (List.mem_singleton.mp h1)
theorem lvS_has {ls : Array Slot} {nL i : Nat} {v : Value} {lv lv' : List (Nat × Value)} (hc : lvC lv = true) (hl : lvS i v lv = lv') (h : lv_has ls nL ((i, v) :: lv.filter (fun q => !(q.1 == i) && !(q.1 + 1 == i && q.2.category == 2)))) : lv_has ls nL lv' := by
  refine ⟨h.1, h.2.1, fun q hq => ?_⟩
  rw [← hl] at hq
  rcases lvS_mem hq with rfl | ⟨h1, h2⟩
  · exact h.2.2 _ List.mem_cons_self
  · refine h.2.2 q (List.mem_cons_of_mem _ (List.mem_filter.mpr ⟨h1, ?_⟩))
    have h3 := List.all_eq_true.mp hc q h1
    have h4 : q.2.category = 1 := by simpa using h3
    simp [h2, h4]
theorem lv_look {ls : Array Slot} {nL i : Nat} {v : Value} {lv : List (Nat × Value)} (h : lv_has ls nL lv) (hl : lv.lookup i = some v) : ls[i]? = some (.val v) := by
  refine h.2.2 (i, v) ?_
  clear h
  induction lv with
  | nil => cases hl
  | cons q r ih =>
    obtain ⟨a, b⟩ := q
    rw [List.lookup_cons] at hl
    cases hb : (i == a) with
    | true =>
      rw [hb] at hl
      have e : i = a := by simpa using hb
      subst e
      cases hl
      exact List.mem_cons_self
    | false =>
      rw [hb] at hl
      exact List.mem_cons_of_mem _ (ih hl)
section RU
variable {own : String} {cc : ByteArray} {nL : Nat} {D : va_G} {ar : Nat → ClassId} {X : XT} {R : Room} {j : jT}
variable {ws : va_W} {k n pc : Nat} {lv lv' : List (Nat × Value)} {st : List Value}

theorem r_iconst (C : Cx0 own cc nL D ar X R j) {z : Int} (v : Int32) (hd : decode cc pc = .ok (.iconst z, 1)) (hv : Int32.ofInt z = v) (kk : j ws k n (pc + 1) lv (.int v :: st)) : j ws k n pc lv st := by
  obtain ⟨p, l, e, s, m, args, below, meth, c, A, Q, ⟨hx, hb, hml, hown, hts, hK, hA, hX, hXs⟩, rfl⟩ := C
  intro H locs ls hP hD hS hl
  exact lv_iconst hx hb hd hv (kk H locs ls hP hD hS hl)
theorem r_bipush (C : Cx0 own cc nL D ar X R j) {z : Int} (v : Int32) (hd : decode cc pc = .ok (.bipush z, 2)) (hv : (Int8.ofInt z).toInt32 = v) (kk : j ws k n (pc + 2) lv (.int v :: st)) : j ws k n pc lv st := by
  obtain ⟨p, l, e, s, m, args, below, meth, c, A, Q, ⟨hx, hb, hml, hown, hts, hK, hA, hX, hXs⟩, rfl⟩ := C
  intro H locs ls hP hD hS hl
  exact lv_bipush hx hb hd hv (kk H locs ls hP hD hS hl)
theorem r_sipush (C : Cx0 own cc nL D ar X R j) {z : Int} (v : Int32) (hd : decode cc pc = .ok (.sipush z, 3)) (hv : (Int16.ofInt z).toInt32 = v) (kk : j ws k n (pc + 3) lv (.int v :: st)) : j ws k n pc lv st := by
  obtain ⟨p, l, e, s, m, args, below, meth, c, A, Q, ⟨hx, hb, hml, hown, hts, hK, hA, hX, hXs⟩, rfl⟩ := C
  intro H locs ls hP hD hS hl
  exact lv_sipush hx hb hd hv (kk H locs ls hP hD hS hl)
theorem r_lconst (C : Cx0 own cc nL D ar X R j) {z : Fin 2} (v : Int64) (hd : decode cc pc = .ok (.lconst z, 1)) (hv : Int64.ofNat (z : Nat) = v) (kk : j ws k n (pc + 1) lv (.long v :: st)) : j ws k n pc lv st := by
  obtain ⟨p, l, e, s, m, args, below, meth, c, A, Q, ⟨hx, hb, hml, hown, hts, hK, hA, hX, hXs⟩, rfl⟩ := C
  intro H locs ls hP hD hS hl
  exact lv_lconst hx hb hd hv (kk H locs ls hP hD hS hl)
theorem r_ldc (C : Cx0 own cc nL D ar X R j) {ix : Nat} {v : Int32} (hw : Cond.constant own ix v ∈ gtbl) (hd : decode cc pc = .ok (.ldc ix, 2)) (kk : j ws k n (pc + 2) lv (.int v :: st)) : j ws k n pc lv st := by
  obtain ⟨p, l, e, s, m, args, below, meth, c, A, Q, ⟨hx, hb, hml, hown, hts, hK, hA, hX, hXs⟩, rfl⟩ := C
  intro H locs ls hP hD hS hl
  exact lv_ldc hx hb hown (hts _ hw) hd (kk H locs ls hP hD hS hl)
theorem r_ldc2 (C : Cx0 own cc nL D ar X R j) {ix : Nat} {v : Int64} (hw : Cond.constantLong own ix v ∈ gtbl) (hd : decode cc pc = .ok (.ldc2_w ix, 3)) (kk : j ws k n (pc + 3) lv (.long v :: st)) : j ws k n pc lv st := by
  obtain ⟨p, l, e, s, m, args, below, meth, c, A, Q, ⟨hx, hb, hml, hown, hts, hK, hA, hX, hXs⟩, rfl⟩ := C
  intro H locs ls hP hD hS hl
  exact lv_ldc2 hx hb hown (hts _ hw) hd (kk H locs ls hP hD hS hl)
theorem r_iload_n (C : Cx0 own cc nL D ar X R j) {f : Fin 4} {x : Int32} (i : Nat) (hd : decode cc pc = .ok (.iload_n f, 1)) (hi : (f : Nat) = i) (hv : lv.lookup i = some (.int x)) (kk : j ws k n (pc + 1) lv (.int x :: st)) : j ws k n pc lv st := by
  obtain ⟨p, l, e, s, m, args, below, meth, c, A, Q, ⟨hx, hb, hml, hown, hts, hK, hA, hX, hXs⟩, rfl⟩ := C
  intro H locs ls hP hD hS hl
  exact lv_iload_n hx hb hd hi (lv_look hl hv) (kk H locs ls hP hD hS hl)
theorem r_iload (C : Cx0 own cc nL D ar X R j) {i : Nat} {x : Int32} (hd : decode cc pc = .ok (.iload i, 2)) (hv : lv.lookup i = some (.int x)) (kk : j ws k n (pc + 2) lv (.int x :: st)) : j ws k n pc lv st := by
  obtain ⟨p, l, e, s, m, args, below, meth, c, A, Q, ⟨hx, hb, hml, hown, hts, hK, hA, hX, hXs⟩, rfl⟩ := C
  intro H locs ls hP hD hS hl
  exact lv_iload hx hb hd (lv_look hl hv) (kk H locs ls hP hD hS hl)
theorem r_aload_n (C : Cx0 own cc nL D ar X R j) {f : Fin 4} {x : Nat} (i : Nat) (hd : decode cc pc = .ok (.aload_n f, 1)) (hi : (f : Nat) = i) (hv : lv.lookup i = some (.ref x)) (kk : j ws k n (pc + 1) lv (.ref x :: st)) : j ws k n pc lv st := by
  obtain ⟨p, l, e, s, m, args, below, meth, c, A, Q, ⟨hx, hb, hml, hown, hts, hK, hA, hX, hXs⟩, rfl⟩ := C
  intro H locs ls hP hD hS hl
  exact lv_aload_n hx hb hd hi (lv_look hl hv) (kk H locs ls hP hD hS hl)
theorem r_aload (C : Cx0 own cc nL D ar X R j) {i : Nat} {x : Nat} (hd : decode cc pc = .ok (.aload i, 2)) (hv : lv.lookup i = some (.ref x)) (kk : j ws k n (pc + 2) lv (.ref x :: st)) : j ws k n pc lv st := by
  obtain ⟨p, l, e, s, m, args, below, meth, c, A, Q, ⟨hx, hb, hml, hown, hts, hK, hA, hX, hXs⟩, rfl⟩ := C
  intro H locs ls hP hD hS hl
  exact lv_aload hx hb hd (lv_look hl hv) (kk H locs ls hP hD hS hl)
theorem r_aload_nN (C : Cx0 own cc nL D ar X R j) {f : Fin 4} (i : Nat) (hd : decode cc pc = .ok (.aload_n f, 1)) (hi : (f : Nat) = i) (hv : lv.lookup i = some .null) (kk : j ws k n (pc + 1) lv (.null :: st)) : j ws k n pc lv st := by
  obtain ⟨p, l, e, s, m, args, below, meth, c, A, Q, ⟨hx, hb, hml, hown, hts, hK, hA, hX, hXs⟩, rfl⟩ := C
  intro H locs ls hP hD hS hl
  exact lv_aload_nN hx hb hd hi (lv_look hl hv) (kk H locs ls hP hD hS hl)
theorem r_iadd (C : Cx0 own cc nL D ar X R j) {x y : Int32} (hd : decode cc pc = .ok (.iadd, 1)) (kk : j ws k n (pc + 1) lv (.int (x + y) :: st)) : j ws k n pc lv (.int y :: .int x :: st) := by
  obtain ⟨p, l, e, s, m, args, below, meth, c, A, Q, ⟨hx, hb, hml, hown, hts, hK, hA, hX, hXs⟩, rfl⟩ := C
  intro H locs ls hP hD hS hl
  exact lv_iadd hx hb hd (kk H locs ls hP hD hS hl)
theorem r_isub (C : Cx0 own cc nL D ar X R j) {x y : Int32} (hd : decode cc pc = .ok (.isub, 1)) (kk : j ws k n (pc + 1) lv (.int (x - y) :: st)) : j ws k n pc lv (.int y :: .int x :: st) := by
  obtain ⟨p, l, e, s, m, args, below, meth, c, A, Q, ⟨hx, hb, hml, hown, hts, hK, hA, hX, hXs⟩, rfl⟩ := C
  intro H locs ls hP hD hS hl
  exact lv_isub hx hb hd (kk H locs ls hP hD hS hl)
theorem r_imul (C : Cx0 own cc nL D ar X R j) {x y : Int32} (hd : decode cc pc = .ok (.imul, 1)) (kk : j ws k n (pc + 1) lv (.int (x * y) :: st)) : j ws k n pc lv (.int y :: .int x :: st) := by
  obtain ⟨p, l, e, s, m, args, below, meth, c, A, Q, ⟨hx, hb, hml, hown, hts, hK, hA, hX, hXs⟩, rfl⟩ := C
  intro H locs ls hP hD hS hl
  exact lv_imul hx hb hd (kk H locs ls hP hD hS hl)
theorem r_iand (C : Cx0 own cc nL D ar X R j) {x y : Int32} (hd : decode cc pc = .ok (.iand, 1)) (kk : j ws k n (pc + 1) lv (.int (x &&& y) :: st)) : j ws k n pc lv (.int y :: .int x :: st) := by
  obtain ⟨p, l, e, s, m, args, below, meth, c, A, Q, ⟨hx, hb, hml, hown, hts, hK, hA, hX, hXs⟩, rfl⟩ := C
  intro H locs ls hP hD hS hl
  exact lv_iand hx hb hd (kk H locs ls hP hD hS hl)
theorem r_ior (C : Cx0 own cc nL D ar X R j) {x y : Int32} (hd : decode cc pc = .ok (.ior, 1)) (kk : j ws k n (pc + 1) lv (.int (x ||| y) :: st)) : j ws k n pc lv (.int y :: .int x :: st) := by
  obtain ⟨p, l, e, s, m, args, below, meth, c, A, Q, ⟨hx, hb, hml, hown, hts, hK, hA, hX, hXs⟩, rfl⟩ := C
  intro H locs ls hP hD hS hl
  exact lv_ior hx hb hd (kk H locs ls hP hD hS hl)
theorem r_ishl (C : Cx0 own cc nL D ar X R j) {x y : Int32} (hd : decode cc pc = .ok (.ishl, 1)) (kk : j ws k n (pc + 1) lv (.int (x <<< (y &&& 31)) :: st)) : j ws k n pc lv (.int y :: .int x :: st) := by
  obtain ⟨p, l, e, s, m, args, below, meth, c, A, Q, ⟨hx, hb, hml, hown, hts, hK, hA, hX, hXs⟩, rfl⟩ := C
  intro H locs ls hP hD hS hl
  exact lv_ishl hx hb hd (kk H locs ls hP hD hS hl)
theorem r_ishr (C : Cx0 own cc nL D ar X R j) {x y : Int32} (hd : decode cc pc = .ok (.ishr, 1)) (kk : j ws k n (pc + 1) lv (.int (x >>> (y &&& 31)) :: st)) : j ws k n pc lv (.int y :: .int x :: st) := by
  obtain ⟨p, l, e, s, m, args, below, meth, c, A, Q, ⟨hx, hb, hml, hown, hts, hK, hA, hX, hXs⟩, rfl⟩ := C
  intro H locs ls hP hD hS hl
  exact lv_ishr hx hb hd (kk H locs ls hP hD hS hl)
theorem r_iushr (C : Cx0 own cc nL D ar X R j) {x y v : Int32} (hd : decode cc pc = .ok (.iushr, 1)) (hv : (x.toUInt32 >>> (y.toUInt32 &&& Int32.toUInt32 31)).toInt32 = v) (kk : j ws k n (pc + 1) lv (.int v :: st)) : j ws k n pc lv (.int y :: .int x :: st) := by
  obtain ⟨p, l, e, s, m, args, below, meth, c, A, Q, ⟨hx, hb, hml, hown, hts, hK, hA, hX, hXs⟩, rfl⟩ := C
  intro H locs ls hP hD hS hl
  exact lv_iushr hx hb hd hv (kk H locs ls hP hD hS hl)
theorem r_ladd (C : Cx0 own cc nL D ar X R j) {x y : Int64} (hd : decode cc pc = .ok (.ladd, 1)) (kk : j ws k n (pc + 1) lv (.long (x + y) :: st)) : j ws k n pc lv (.long y :: .long x :: st) := by
  obtain ⟨p, l, e, s, m, args, below, meth, c, A, Q, ⟨hx, hb, hml, hown, hts, hK, hA, hX, hXs⟩, rfl⟩ := C
  intro H locs ls hP hD hS hl
  exact lv_ladd hx hb hd (kk H locs ls hP hD hS hl)
theorem r_lcmp (C : Cx0 own cc nL D ar X R j) {x y : Int64} (hd : decode cc pc = .ok (.lcmp, 1)) (kk : j ws k n (pc + 1) lv (.int (lg_cmp x y) :: st)) : j ws k n pc lv (.long y :: .long x :: st) := by
  obtain ⟨p, l, e, s, m, args, below, meth, c, A, Q, ⟨hx, hb, hml, hown, hts, hK, hA, hX, hXs⟩, rfl⟩ := C
  intro H locs ls hP hD hS hl
  exact W.lcmp hx hb hd (kk H locs ls hP hD hS hl)
theorem r_dup (C : Cx0 own cc nL D ar X R j) {va : Value} (hd : decode cc pc = .ok (.dup, 1)) (hc : va.category = 1) (kk : j ws k n (pc + 1) lv (va :: va :: st)) : j ws k n pc lv (va :: st) := by
  obtain ⟨p, l, e, s, m, args, below, meth, c, A, Q, ⟨hx, hb, hml, hown, hts, hK, hA, hX, hXs⟩, rfl⟩ := C
  intro H locs ls hP hD hS hl
  exact lv_dup hx hb hd hc (kk H locs ls hP hD hS hl)
theorem r_dup_x1 (C : Cx0 own cc nL D ar X R j) {va vb : Value} (hd : decode cc pc = .ok (.dup_x1, 1)) (hc : va.category = 1) (hc2 : vb.category = 1) (kk : j ws k n (pc + 1) lv (va :: vb :: va :: st)) : j ws k n pc lv (va :: vb :: st) := by
  obtain ⟨p, l, e, s, m, args, below, meth, c, A, Q, ⟨hx, hb, hml, hown, hts, hK, hA, hX, hXs⟩, rfl⟩ := C
  intro H locs ls hP hD hS hl
  exact lv_dup_x1 hx hb hd hc hc2 (kk H locs ls hP hD hS hl)
theorem r_dup2 (C : Cx0 own cc nL D ar X R j) {va vb : Value} (hd : decode cc pc = .ok (.dup2, 1)) (hc : va.category = 1) (hc2 : vb.category = 1) (kk : j ws k n (pc + 1) lv (va :: vb :: va :: vb :: st)) : j ws k n pc lv (va :: vb :: st) := by
  obtain ⟨p, l, e, s, m, args, below, meth, c, A, Q, ⟨hx, hb, hml, hown, hts, hK, hA, hX, hXs⟩, rfl⟩ := C
  intro H locs ls hP hD hS hl
  exact lv_dup2_11 hx hb hd hc hc2 (kk H locs ls hP hD hS hl)
theorem r_pop (C : Cx0 own cc nL D ar X R j) {va : Value} (hd : decode cc pc = .ok (.pop, 1)) (hc : va.category = 1) (kk : j ws k n (pc + 1) lv st) : j ws k n pc lv (va :: st) := by
  obtain ⟨p, l, e, s, m, args, below, meth, c, A, Q, ⟨hx, hb, hml, hown, hts, hK, hA, hX, hXs⟩, rfl⟩ := C
  intro H locs ls hP hD hS hl
  exact lv_pop hx hb hd hc (kk H locs ls hP hD hS hl)
theorem r_null (C : Cx0 own cc nL D ar X R j) (hd : decode cc pc = .ok (.aconst_null, 1)) (kk : j ws k n (pc + 1) lv (.null :: st)) : j ws k n pc lv st := by
  obtain ⟨p, l, e, s, m, args, below, meth, c, A, Q, ⟨hx, hb, hml, hown, hts, hK, hA, hX, hXs⟩, rfl⟩ := C
  intro H locs ls hP hD hS hl
  exact lv_null hx hb hd (kk H locs ls hP hD hS hl)
theorem r_goto (C : Cx0 own cc nL D ar X R j) {off : Int} (tgt : Nat) (hd : decode cc pc = .ok (.goto off, 3)) (ht : (pc : Int) + off = (tgt : Int)) (kk : j ws k n tgt lv st) : j ws k n pc lv st := by
  obtain ⟨p, l, e, s, m, args, below, meth, c, A, Q, ⟨hx, hb, hml, hown, hts, hK, hA, hX, hXs⟩, rfl⟩ := C
  intro H locs ls hP hD hS hl
  exact lv_goto hx hb hd ht (kk H locs ls hP hD hS hl)
theorem r_ifnull (C : Cx0 own cc nL D ar X R j) {x : Nat} {off : Int} (hd : decode cc pc = .ok (.ifnull off, 3)) (kk : j ws k n (pc + 3) lv st) : j ws k n pc lv (.ref x :: st) := by
  obtain ⟨p, l, e, s, m, args, below, meth, c, A, Q, ⟨hx, hb, hml, hown, hts, hK, hA, hX, hXs⟩, rfl⟩ := C
  intro H locs ls hP hD hS hl
  exact lv_ifnull hx hb hd (kk H locs ls hP hD hS hl)
theorem r_ifnullN (C : Cx0 own cc nL D ar X R j) {off : Int} (tgt : Nat) (hd : decode cc pc = .ok (.ifnull off, 3)) (ht : (pc : Int) + off = (tgt : Int)) (kk : j ws k n tgt lv st) : j ws k n pc lv (.null :: st) := by
  obtain ⟨p, l, e, s, m, args, below, meth, c, A, Q, ⟨hx, hb, hml, hown, hts, hK, hA, hX, hXs⟩, rfl⟩ := C
  intro H locs ls hP hD hS hl
  exact lv_ifnullN hx hb hd ht (kk H locs ls hP hD hS hl)
theorem r_ifnonnull (C : Cx0 own cc nL D ar X R j) {x : Nat} {off : Int} (tgt : Nat) (hd : decode cc pc = .ok (.ifnonnull off, 3)) (ht : (pc : Int) + off = (tgt : Int)) (kk : j ws k n tgt lv st) : j ws k n pc lv (.ref x :: st) := by
  obtain ⟨p, l, e, s, m, args, below, meth, c, A, Q, ⟨hx, hb, hml, hown, hts, hK, hA, hX, hXs⟩, rfl⟩ := C
  intro H locs ls hP hD hS hl
  exact lv_ifnonnull hx hb hd ht (kk H locs ls hP hD hS hl)
theorem r_ifnonnullN (C : Cx0 own cc nL D ar X R j) {off : Int} (hd : decode cc pc = .ok (.ifnonnull off, 3)) (kk : j ws k n (pc + 3) lv st) : j ws k n pc lv (.null :: st) := by
  obtain ⟨p, l, e, s, m, args, below, meth, c, A, Q, ⟨hx, hb, hml, hown, hts, hK, hA, hX, hXs⟩, rfl⟩ := C
  intro H locs ls hP hD hS hl
  exact lv_ifnonnullN hx hb hd (kk H locs ls hP hD hS hl)
theorem r_tableIn (C : Cx0 own cc nL D ar X R j) {dflt lo hi : Int} {offs : Array Int} {len : Nat} {x : Int32} {off : Int} (tgt : Nat) (hd : decode cc pc = .ok (.tableswitch dflt lo hi offs, len)) (h1 : ¬ x.toInt < lo) (h2 : ¬ hi < x.toInt) (ho : offs[(x.toInt - lo).toNat]? = some off) (ht : (pc : Int) + off = (tgt : Int)) (kk : j ws k n tgt lv st) : j ws k n pc lv (.int x :: st) := by
  obtain ⟨p, l, e, s, m, args, below, meth, c, A, Q, ⟨hx, hb, hml, hown, hts, hK, hA, hX, hXs⟩, rfl⟩ := C
  intro H locs ls hP hD hS hl
  exact lv_tableIn hx hb hd h1 h2 ho ht (kk H locs ls hP hD hS hl)
theorem r_tableOut (C : Cx0 own cc nL D ar X R j) {dflt lo hi : Int} {offs : Array Int} {len : Nat} {x : Int32} (tgt : Nat) (hd : decode cc pc = .ok (.tableswitch dflt lo hi offs, len)) (h : x.toInt < lo ∨ hi < x.toInt) (ht : (pc : Int) + dflt = (tgt : Int)) (kk : j ws k n tgt lv st) : j ws k n pc lv (.int x :: st) := by
  obtain ⟨p, l, e, s, m, args, below, meth, c, A, Q, ⟨hx, hb, hml, hown, hts, hK, hA, hX, hXs⟩, rfl⟩ := C
  intro H locs ls hP hD hS hl
  exact lv_tableOut hx hb hd h ht (kk H locs ls hP hD hS hl)
theorem r_lookup (C : Cx0 own cc nL D ar X R j) {dflt : Int} {ps : Array (Int × Int)} {len : Nat} {x : Int32} {off : Int} (tgt : Nat) (hd : decode cc pc = .ok (.lookupswitch dflt ps, len)) (hp : (ps.toList.zip (ps.toList.drop 1)).all (fun (a, next) => a.1 < next.1) = true) (ho : Op.lookupswitch.offset ps.toList dflt x.toInt = off) (ht : (pc : Int) + off = (tgt : Int)) (kk : j ws k n tgt lv st) : j ws k n pc lv (.int x :: st) := by
  obtain ⟨p, l, e, s, m, args, below, meth, c, A, Q, ⟨hx, hb, hml, hown, hts, hK, hA, hX, hXs⟩, rfl⟩ := C
  intro H locs ls hP hD hS hl
  exact lv_lookup hx hb hd hp ho ht (kk H locs ls hP hD hS hl)
theorem r_istore_n (C : Cx0 own cc nL D ar X R j) {f : Fin 4} {x : Int32} (i : Nat) (hd : decode cc pc = .ok (.istore_n f, 1)) (hi : (f : Nat) = i) (hc : lvC lv = true) (hn : i < nL) (hl0 : lvS i (.int x) lv = lv') (kk : j ws k n (pc + 1) lv' st) : j ws k n pc lv (.int x :: st) := by
  obtain ⟨p, l, e, s, m, args, below, meth, c, A, Q, ⟨hx, hb, hml, hown, hts, hK, hA, hX, hXs⟩, rfl⟩ := C
  intro H locs ls hP hD hS hl
  exact lv_istore_n hx hb hd hi hl hn rfl (fun ls' hl' => kk H locs ls' hP hD hS (lvS_has hc hl0 hl'))
theorem r_istore (C : Cx0 own cc nL D ar X R j) {i : Nat} {x : Int32} (hd : decode cc pc = .ok (.istore i, 2)) (hc : lvC lv = true) (hn : i < nL) (hl0 : lvS i (.int x) lv = lv') (kk : j ws k n (pc + 2) lv' st) : j ws k n pc lv (.int x :: st) := by
  obtain ⟨p, l, e, s, m, args, below, meth, c, A, Q, ⟨hx, hb, hml, hown, hts, hK, hA, hX, hXs⟩, rfl⟩ := C
  intro H locs ls hP hD hS hl
  exact lv_istore hx hb hd hl hn rfl (fun ls' hl' => kk H locs ls' hP hD hS (lvS_has hc hl0 hl'))
theorem r_astore_n (C : Cx0 own cc nL D ar X R j) {f : Fin 4} {x : Nat} (i : Nat) (hd : decode cc pc = .ok (.astore_n f, 1)) (hi : (f : Nat) = i) (hc : lvC lv = true) (hn : i < nL) (hl0 : lvS i (.ref x) lv = lv') (kk : j ws k n (pc + 1) lv' st) : j ws k n pc lv (.ref x :: st) := by
  obtain ⟨p, l, e, s, m, args, below, meth, c, A, Q, ⟨hx, hb, hml, hown, hts, hK, hA, hX, hXs⟩, rfl⟩ := C
  intro H locs ls hP hD hS hl
  exact lv_astore_n hx hb hd hi hl hn rfl (fun ls' hl' => kk H locs ls' hP hD hS (lvS_has hc hl0 hl'))
theorem r_astore (C : Cx0 own cc nL D ar X R j) {i : Nat} {x : Nat} (hd : decode cc pc = .ok (.astore i, 2)) (hc : lvC lv = true) (hn : i < nL) (hl0 : lvS i (.ref x) lv = lv') (kk : j ws k n (pc + 2) lv' st) : j ws k n pc lv (.ref x :: st) := by
  obtain ⟨p, l, e, s, m, args, below, meth, c, A, Q, ⟨hx, hb, hml, hown, hts, hK, hA, hX, hXs⟩, rfl⟩ := C
  intro H locs ls hP hD hS hl
  exact lv_astore hx hb hd hl hn rfl (fun ls' hl' => kk H locs ls' hP hD hS (lvS_has hc hl0 hl'))
theorem r_astore_nN (C : Cx0 own cc nL D ar X R j) {f : Fin 4} (i : Nat) (hd : decode cc pc = .ok (.astore_n f, 1)) (hi : (f : Nat) = i) (hc : lvC lv = true) (hn : i < nL) (hl0 : lvS i .null lv = lv') (kk : j ws k n (pc + 1) lv' st) : j ws k n pc lv (.null :: st) := by
  obtain ⟨p, l, e, s, m, args, below, meth, c, A, Q, ⟨hx, hb, hml, hown, hts, hK, hA, hX, hXs⟩, rfl⟩ := C
  intro H locs ls hP hD hS hl
  exact lv_astore_nN hx hb hd hi hl hn rfl (fun ls' hl' => kk H locs ls' hP hD hS (lvS_has hc hl0 hl'))
theorem r_iinc (C : Cx0 own cc nL D ar X R j) {i : Nat} {z : Int} {x : Int32} (v : Int32) (hd : decode cc pc = .ok (.iinc i z, 3)) (hx0 : lv.lookup i = some (.int x)) (hv : x + Int32.ofInt z = v) (hc : lvC lv = true) (hn : i < nL) (hl0 : lvS i (.int v) lv = lv') (kk : j ws k n (pc + 3) lv' st) : j ws k n pc lv st := by
  obtain ⟨p, l, e, s, m, args, below, meth, c, A, Q, ⟨hx, hb, hml, hown, hts, hK, hA, hX, hXs⟩, rfl⟩ := C
  intro H locs ls hP hD hS hl
  have hm : ∃ k9 : Nat, lv[k9]? = some (i, .int x) := by
    have : (i, Value.int x) ∈ lv := by
      clear kk hl0 hc hl
      induction lv with
      | nil => cases hx0
      | cons q r ih =>
        obtain ⟨a, b⟩ := q
        rw [List.lookup_cons] at hx0
        cases hb9 : (i == a) with
        | true =>
          rw [hb9] at hx0
          have e : i = a := by simpa using hb9
          subst e
          cases hx0
          exact List.mem_cons_self
        | false =>
          rw [hb9] at hx0
          exact List.mem_cons_of_mem _ (ih hx0)
    exact List.getElem?_of_mem this
  obtain ⟨k9, hk9⟩ := hm
  exact lv_iinc hx hb hd hl hk9 hv hn rfl (fun ls' hl' => kk H locs ls' hP hD hS (lvS_has hc hl0 hl'))
theorem r_if_eq (C : Cx0 own cc nL D ar X R j) {x : Int32} {off : Int} (tgt : Nat) (hd : decode cc pc = .ok (.ifCond .eq off, 3)) (ht : (pc : Int) + off = (tgt : Int)) (kt : x = 0 → j ws k n tgt lv st) (kf : ¬ x = 0 → j ws k n (pc + 3) lv st) : j ws k n pc lv (.int x :: st) := by
  obtain ⟨p, l, e, s, m, args, below, meth, c, A, Q, ⟨hx, hb, hml, hown, hts, hK, hA, hX, hXs⟩, rfl⟩ := C
  intro H locs ls hP hD hS hl
  exact lv_if_eq hx hb hd ht (fun h => kt h H locs ls hP hD hS hl) (fun h => kf h H locs ls hP hD hS hl)
theorem r_icmp_eq (C : Cx0 own cc nL D ar X R j) {x y : Int32} {off : Int} (tgt : Nat) (hd : decode cc pc = .ok (.if_icmp .eq off, 3)) (ht : (pc : Int) + off = (tgt : Int)) (kt : x = y → j ws k n tgt lv st) (kf : ¬ x = y → j ws k n (pc + 3) lv st) : j ws k n pc lv (.int y :: .int x :: st) := by
  obtain ⟨p, l, e, s, m, args, below, meth, c, A, Q, ⟨hx, hb, hml, hown, hts, hK, hA, hX, hXs⟩, rfl⟩ := C
  intro H locs ls hP hD hS hl
  exact lv_icmp_eq hx hb hd ht (fun h => kt h H locs ls hP hD hS hl) (fun h => kf h H locs ls hP hD hS hl)
theorem r_if_ne (C : Cx0 own cc nL D ar X R j) {x : Int32} {off : Int} (tgt : Nat) (hd : decode cc pc = .ok (.ifCond .ne off, 3)) (ht : (pc : Int) + off = (tgt : Int)) (kt : ¬ x = 0 → j ws k n tgt lv st) (kf : x = 0 → j ws k n (pc + 3) lv st) : j ws k n pc lv (.int x :: st) := by
  obtain ⟨p, l, e, s, m, args, below, meth, c, A, Q, ⟨hx, hb, hml, hown, hts, hK, hA, hX, hXs⟩, rfl⟩ := C
  intro H locs ls hP hD hS hl
  exact lv_if_ne hx hb hd ht (fun h => kt h H locs ls hP hD hS hl) (fun h => kf h H locs ls hP hD hS hl)
theorem r_icmp_ne (C : Cx0 own cc nL D ar X R j) {x y : Int32} {off : Int} (tgt : Nat) (hd : decode cc pc = .ok (.if_icmp .ne off, 3)) (ht : (pc : Int) + off = (tgt : Int)) (kt : ¬ x = y → j ws k n tgt lv st) (kf : x = y → j ws k n (pc + 3) lv st) : j ws k n pc lv (.int y :: .int x :: st) := by
  obtain ⟨p, l, e, s, m, args, below, meth, c, A, Q, ⟨hx, hb, hml, hown, hts, hK, hA, hX, hXs⟩, rfl⟩ := C
  intro H locs ls hP hD hS hl
  exact lv_icmp_ne hx hb hd ht (fun h => kt h H locs ls hP hD hS hl) (fun h => kf h H locs ls hP hD hS hl)
theorem r_if_lt (C : Cx0 own cc nL D ar X R j) {x : Int32} {off : Int} (tgt : Nat) (hd : decode cc pc = .ok (.ifCond .lt off, 3)) (ht : (pc : Int) + off = (tgt : Int)) (kt : x < 0 → j ws k n tgt lv st) (kf : ¬ x < 0 → j ws k n (pc + 3) lv st) : j ws k n pc lv (.int x :: st) := by
  obtain ⟨p, l, e, s, m, args, below, meth, c, A, Q, ⟨hx, hb, hml, hown, hts, hK, hA, hX, hXs⟩, rfl⟩ := C
  intro H locs ls hP hD hS hl
  exact lv_if_lt hx hb hd ht (fun h => kt h H locs ls hP hD hS hl) (fun h => kf h H locs ls hP hD hS hl)
theorem r_icmp_lt (C : Cx0 own cc nL D ar X R j) {x y : Int32} {off : Int} (tgt : Nat) (hd : decode cc pc = .ok (.if_icmp .lt off, 3)) (ht : (pc : Int) + off = (tgt : Int)) (kt : x < y → j ws k n tgt lv st) (kf : ¬ x < y → j ws k n (pc + 3) lv st) : j ws k n pc lv (.int y :: .int x :: st) := by
  obtain ⟨p, l, e, s, m, args, below, meth, c, A, Q, ⟨hx, hb, hml, hown, hts, hK, hA, hX, hXs⟩, rfl⟩ := C
  intro H locs ls hP hD hS hl
  exact lv_icmp_lt hx hb hd ht (fun h => kt h H locs ls hP hD hS hl) (fun h => kf h H locs ls hP hD hS hl)
theorem r_if_ge (C : Cx0 own cc nL D ar X R j) {x : Int32} {off : Int} (tgt : Nat) (hd : decode cc pc = .ok (.ifCond .ge off, 3)) (ht : (pc : Int) + off = (tgt : Int)) (kt : 0 ≤ x → j ws k n tgt lv st) (kf : ¬ 0 ≤ x → j ws k n (pc + 3) lv st) : j ws k n pc lv (.int x :: st) := by
  obtain ⟨p, l, e, s, m, args, below, meth, c, A, Q, ⟨hx, hb, hml, hown, hts, hK, hA, hX, hXs⟩, rfl⟩ := C
  intro H locs ls hP hD hS hl
  exact lv_if_ge hx hb hd ht (fun h => kt h H locs ls hP hD hS hl) (fun h => kf h H locs ls hP hD hS hl)
theorem r_icmp_ge (C : Cx0 own cc nL D ar X R j) {x y : Int32} {off : Int} (tgt : Nat) (hd : decode cc pc = .ok (.if_icmp .ge off, 3)) (ht : (pc : Int) + off = (tgt : Int)) (kt : y ≤ x → j ws k n tgt lv st) (kf : ¬ y ≤ x → j ws k n (pc + 3) lv st) : j ws k n pc lv (.int y :: .int x :: st) := by
  obtain ⟨p, l, e, s, m, args, below, meth, c, A, Q, ⟨hx, hb, hml, hown, hts, hK, hA, hX, hXs⟩, rfl⟩ := C
  intro H locs ls hP hD hS hl
  exact lv_icmp_ge hx hb hd ht (fun h => kt h H locs ls hP hD hS hl) (fun h => kf h H locs ls hP hD hS hl)
theorem r_if_gt (C : Cx0 own cc nL D ar X R j) {x : Int32} {off : Int} (tgt : Nat) (hd : decode cc pc = .ok (.ifCond .gt off, 3)) (ht : (pc : Int) + off = (tgt : Int)) (kt : 0 < x → j ws k n tgt lv st) (kf : ¬ 0 < x → j ws k n (pc + 3) lv st) : j ws k n pc lv (.int x :: st) := by
  obtain ⟨p, l, e, s, m, args, below, meth, c, A, Q, ⟨hx, hb, hml, hown, hts, hK, hA, hX, hXs⟩, rfl⟩ := C
  intro H locs ls hP hD hS hl
  exact lv_if_gt hx hb hd ht (fun h => kt h H locs ls hP hD hS hl) (fun h => kf h H locs ls hP hD hS hl)
theorem r_icmp_gt (C : Cx0 own cc nL D ar X R j) {x y : Int32} {off : Int} (tgt : Nat) (hd : decode cc pc = .ok (.if_icmp .gt off, 3)) (ht : (pc : Int) + off = (tgt : Int)) (kt : y < x → j ws k n tgt lv st) (kf : ¬ y < x → j ws k n (pc + 3) lv st) : j ws k n pc lv (.int y :: .int x :: st) := by
  obtain ⟨p, l, e, s, m, args, below, meth, c, A, Q, ⟨hx, hb, hml, hown, hts, hK, hA, hX, hXs⟩, rfl⟩ := C
  intro H locs ls hP hD hS hl
  exact lv_icmp_gt hx hb hd ht (fun h => kt h H locs ls hP hD hS hl) (fun h => kf h H locs ls hP hD hS hl)
theorem r_if_le (C : Cx0 own cc nL D ar X R j) {x : Int32} {off : Int} (tgt : Nat) (hd : decode cc pc = .ok (.ifCond .le off, 3)) (ht : (pc : Int) + off = (tgt : Int)) (kt : x ≤ 0 → j ws k n tgt lv st) (kf : ¬ x ≤ 0 → j ws k n (pc + 3) lv st) : j ws k n pc lv (.int x :: st) := by
  obtain ⟨p, l, e, s, m, args, below, meth, c, A, Q, ⟨hx, hb, hml, hown, hts, hK, hA, hX, hXs⟩, rfl⟩ := C
  intro H locs ls hP hD hS hl
  exact lv_if_le hx hb hd ht (fun h => kt h H locs ls hP hD hS hl) (fun h => kf h H locs ls hP hD hS hl)
theorem r_icmp_le (C : Cx0 own cc nL D ar X R j) {x y : Int32} {off : Int} (tgt : Nat) (hd : decode cc pc = .ok (.if_icmp .le off, 3)) (ht : (pc : Int) + off = (tgt : Int)) (kt : x ≤ y → j ws k n tgt lv st) (kf : ¬ x ≤ y → j ws k n (pc + 3) lv st) : j ws k n pc lv (.int y :: .int x :: st) := by
  obtain ⟨p, l, e, s, m, args, below, meth, c, A, Q, ⟨hx, hb, hml, hown, hts, hK, hA, hX, hXs⟩, rfl⟩ := C
  intro H locs ls hP hD hS hl
  exact lv_icmp_le hx hb hd ht (fun h => kt h H locs ls hP hD hS hl) (fun h => kf h H locs ls hP hD hS hl)
theorem r_widen (C : Cx0 own cc nL D ar X R j) (k' n' : Nat) (h1 : k ≤ k') (h2 : n ≤ n') (kk : j ws k' n' pc lv st) : j ws k n pc lv st := by
  obtain ⟨p, l, e, s, m, args, below, meth, c, A, Q, hz, rfl⟩ := C
  intro H locs ls hP hD hS hl
  exact W.widen h1 h2 (kk H locs ls hP hD hS hl)
end RU
section RET
variable {own : String} {cc : ByteArray} {nL : Nat} {D : va_G} {ar : Nat → ClassId} {X : XT} {R : Room} {j : jT} {Ret : Option Value → va_W → Prop}
variable {ws : va_W} {k n pc : Nat} {lv : List (Nat × Value)} {rt : FieldType}
theorem r_iret (C : Cx own cc nL D ar X R (some .int) Ret j) {v : Int32} (hd : decode cc pc = .ok (.ireturn, 1)) (hk : k ≤ R.cells) (hn : n ≤ R.slots) (hp : Ret (some (.int v)) ws) : j ws k n pc lv [.int v] := by
  obtain ⟨p, l, e, s, m, args, below, meth, c, A, ⟨hx, hb, hml, hown, hts, hK, hA, hX, hXs⟩, hr, hlocks, rfl⟩ := C
  intro H locs ls hP hD hS hl
  refine W.widen hk hn ?_
  exact W.iret hx hb hr (fun t ht hW => ⟨⟨_, ws, rfl, hp, by rw [ht]; exact hP, hD⟩, hS.F ht⟩) hS.2.2 hd hlocks
theorem r_zret (C : Cx own cc nL D ar X R (some .boolean) Ret j) {v : Int32} (hv : narrow .boolean (.int v) = .int v) (hd : decode cc pc = .ok (.ireturn, 1)) (hk : k ≤ R.cells) (hn : n ≤ R.slots) (hp : Ret (some (.int v)) ws) : j ws k n pc lv [.int v] := by
  obtain ⟨p, l, e, s, m, args, below, meth, c, A, ⟨hx, hb, hml, hown, hts, hK, hA, hX, hXs⟩, hr, hlocks, rfl⟩ := C
  intro H locs ls hP hD hS hl
  refine W.widen hk hn ?_
  exact W.zret hx hb hr hv (fun t ht hW => ⟨⟨_, ws, rfl, hp, by rw [ht]; exact hP, hD⟩, hS.F ht⟩) hS.2.2 hd hlocks
theorem r_lret (C : Cx own cc nL D ar X R (some .long) Ret j) {v : Int64} (hd : decode cc pc = .ok (.lreturn, 1)) (hk : k ≤ R.cells) (hn : n ≤ R.slots) (hp : Ret (some (.long v)) ws) : j ws k n pc lv [.long v] := by
  obtain ⟨p, l, e, s, m, args, below, meth, c, A, ⟨hx, hb, hml, hown, hts, hK, hA, hX, hXs⟩, hr, hlocks, rfl⟩ := C
  intro H locs ls hP hD hS hl
  refine W.widen hk hn ?_
  exact W.lret hx hb hr (fun t ht hW => ⟨⟨_, ws, rfl, hp, by rw [ht]; exact hP, hD⟩, hS.F ht⟩) hS.2.2 hd hlocks
theorem r_vret (C : Cx own cc nL D ar X R none Ret j)  (hd : decode cc pc = .ok (.return_, 1)) (hk : k ≤ R.cells) (hn : n ≤ R.slots) (hp : Ret none ws) : j ws k n pc lv [] := by
  obtain ⟨p, l, e, s, m, args, below, meth, c, A, ⟨hx, hb, hml, hown, hts, hK, hA, hX, hXs⟩, hr, hlocks, rfl⟩ := C
  intro H locs ls hP hD hS hl
  refine W.widen hk hn ?_
  exact W.vret hx hb hr (fun t ht hW => ⟨⟨_, ws, rfl, hp, by rw [ht]; exact hP, hD⟩, hS.F ht⟩) hS.2.2 hd hlocks
theorem r_aret (C : Cx own cc nL D ar X R (some rt) Ret j) {v : Value} (hrt : (∃ n, rt = .object n) ∨ ∃ t, rt = .array t) (hv : v = .null ∨ ∃ a, v = .ref a) (hd : decode cc pc = .ok (.areturn, 1)) (hk : k ≤ R.cells) (hn : n ≤ R.slots) (hp : Ret (some v) ws) : j ws k n pc lv [v] := by
  obtain ⟨p, l, e, s, m, args, below, meth, c, A, ⟨hx, hb, hml, hown, hts, hK, hA, hX, hXs⟩, hr, hlocks, rfl⟩ := C
  intro H locs ls hP hD hS hl
  refine W.widen hk hn ?_
  exact W.aret hx hb hr hrt hv (fun t ht hW => ⟨⟨_, ws, rfl, hp, by rw [ht]; exact hP, hD⟩, hS.F ht⟩) hS.2.2 hd hlocks
end RET
section CAL
variable {own : String} {cc : ByteArray} {nL : Nat} {D : va_G} {ar : Nat → ClassId} {X : XT} {R : Room} {j : jT}
variable {wl wc wr : va_W} {k n pc : Nat} {lv : List (Nat × Value)} {rest : List Value}
variable {y : MethodName} {bytes : ByteArray} {maxL fr lo mc ms index : Nat} {ret : Option FieldType} {As : List Value} {Ret : Option Value → va_W → Prop} {b : Nat}
theorem xx_split {D : va_G} {cl : List vw_C} {A : Nat → Prop} {w1 w2 : va_W} {H : Heap} (hP : va_P D cl (w1 ++ w2) H) (hD : va_D A (w1 ++ w2)) : va_P D cl w2 H ∧ va_D A w2 ∧ va_P D cl w1 H ∧ va_D A w1 ∧ (∀ (i j : Nat) (x y : Nat × va_E), w1[i]? = some x → w2[j]? = some y → x.1 ≠ y.1) := by
  have e2 : ∀ (i : Nat) (x : Nat × va_E), w2[i]? = some x → (w1 ++ w2)[w1.length + i]? = some x := fun i x h => by
    rw [List.getElem?_append_right (by omega)]
    rw [show w1.length + i - w1.length = i by omega]
    exact h
  have e1 : ∀ (i : Nat) (x : Nat × va_E), w1[i]? = some x → (w1 ++ w2)[i]? = some x ∧ i < w1.length := fun i x h => by
    have hi : i < w1.length := (List.getElem?_eq_some_iff.mp h).1
    rw [List.getElem?_append_left hi]
    exact ⟨h, hi⟩
  refine ⟨fun i x h => hP _ x (e2 i x h), ⟨fun i j x y hx hy hxy => ?_, fun i x h => hD.2 _ x (e2 i x h)⟩, fun i x h => hP _ x (e1 i x h).1, ⟨fun i j x y hx hy hxy => hD.1 i j x y (e1 i x hx).1 (e1 j y hy).1 hxy, fun i x h => hD.2 _ x (e1 i x h).1⟩, fun i j x y hx hy hxy => ?_⟩
  · have := hD.1 _ _ x y (e2 i x hx) (e2 j y hy) hxy
    omega
  · have h1 := e1 i x hx
    have := hD.1 _ _ x y h1.1 (e2 j y hy) hxy
    omega
theorem xx_comm {D : va_G} {cl : List vw_C} {A : Nat → Prop} {w1 w2 : va_W} {H : Heap} (hP : va_P D cl (w1 ++ w2) H) (hD : va_D A (w1 ++ w2)) : va_P D cl (w2 ++ w1) H ∧ va_D A (w2 ++ w1) := by
  obtain ⟨p2, d2, p1, d1, ne⟩ := xx_split hP hD
  exact ⟨va_P.app p2 p1, va_D.app d2 d1 (fun i j x y hx hy e => ne j i y x hy hx e.symm)⟩
/-- behind any call: the callee's world is new, the rest stands as it was -/
theorem xx_behind {p : Program} {l : Launch} {e : Env} {s : State} {m : MethodId} {args : Array Value} {below : List Frame} {meth : Method} {c : Code} {A : Nat → Prop} {Q : State → Prop} {H : Heap} {locs : List Loc} {ls : Array Slot} {st0 : List Value} {a : Array Value}
    (hr : va_Run p l e R s m args below meth c H locs k n mc ms (F0 m pc ls st0) rest (Qn D Ret (va_A wc H.size) a) (va_A wc H.size)) (hA : ∀ q, s.heap.size ≤ q → A q) (hP : va_P D cls7 (wl ++ wc) H) (hD : va_D A (wl ++ wc)) (hS : va_S A s.heap H locs) (hl : lv_has ls nL lv)
    (kk : ∀ (r : Option Value) (wc' : va_W), Ret r wc' → JJ p l e R s m args below meth c A D nL Q (wl ++ wc') (k + mc) (n + ms) (pc + 3) lv (r.toList ++ rest)) : W p l e R s m args below meth c H locs k n Q (F0 m pc ls st0) := by
  intro T hT XX
  obtain ⟨v, st₀, t, T', L, h0, X', hL, e1, e2, ⟨⟨r, wc', hv, hp, hP1, hD1⟩, hz, hk⟩, stp⟩ := hr T hT XX
  cases hv
  rw [h0] at hz hk
  obtain ⟨hPc, hDc, hPl, hDl, hne⟩ := xx_split hP hD
  have hF : ∀ q, va_A wc H.size q → A q := fun q h => by
    rcases h with ⟨k9, e9, h⟩ | h
    · exact hDc.2 k9 (q, e9) h
    · exact hA q (Nat.le_trans hS.1 h)
  have hnl : ∀ (i : Nat) (x : Nat × va_E), wl[i]? = some x → x.1 < H.size ∧ ¬ va_A wc H.size x.1 := fun i x hx => by
    have hlt := (hPl i x hx).lt
    refine ⟨hlt, fun h => ?_⟩
    rcases h with ⟨k9, e9, h⟩ | h
    · exact hne i k9 x (x.1, e9) hx h rfl
    · omega
  have hPn : va_P D cls7 (wl ++ wc') T'.heap := by
    rw [e1]
    exact va_P.app (fun i x hx => (hPl i x hx).kept (hk x.1 (hnl i x hx).1 (hnl i x hx).2)) hP1
  have hDn : va_D A (wl ++ wc') := va_D.app hDl (hD1.weaken (fun k9 q _ h => hF q.1 h)) (fun i j9 x z hx hy hxy => (hnl i x hx).2 (by rw [hxy]; exact hD1.2 j9 z hy))
  have hSn : va_S A s.heap T'.heap (locs ++ L) := ⟨Nat.le_trans hS.1 (by rw [e1]; exact hz), fun q h1 h2 => by rw [e1, hk q (Nat.lt_of_lt_of_le h1 hS.1) (fun z => h2 (hF q z))]; exact hS.2.1 q h1 h2, fun q hq => by
    rcases List.mem_append.mp hq with h | h
    · exact hS.2.2 q h
    · exact hF _ (hL q h)⟩
  obtain ⟨t2, a1, b1⟩ := kk v wc' hp T'.heap (locs ++ L) ls hPn hDn hSn hl T' rfl X'
  exact ⟨t2, stp t2 a1, b1⟩
/-- what a callee wants of the state in which it starts -/
theorem xx_pre {A : Nat → Prop} {s : State} {H : Heap} {locs : List Loc} (hX : Xok X) (hXs : X A s s.heap) (hK : va_K D cls7 (tys6 ar) s) (hA : ∀ q, s.heap.size ≤ q → A q) (hP : va_P D cls7 wc H) (hD : va_D A wc) (hS : va_S A s.heap H locs) :
    ∀ U : State, U.heap = H → s.WarmedH U.vm → (U.heap.size = H.size ∧ va_P D cls7 wc U.heap ∧ va_K D cls7 (tys6 ar) U ∧ va_D (fun _ => True) wc ∧ X (va_A wc H.size) U U.heap) := by
  intro U hU hW
  refine ⟨by rw [hU], by rw [hU]; exact hP, va_K.moved hW.alike hK, hD.weaken (fun _ _ _ _ => trivial), ?_⟩
  rw [hU]
  refine hX.2.2.2 A _ U H (fun q hq h => ?_) (hX.2.1 A s U H hW (hX.2.2.1 A s s.heap H hS.1 hS.2.1 hXs))
  rcases h with ⟨k9, e9, h⟩ | h
  · exact hD.2 k9 (q, e9) h
  · omega
theorem xx_blind {av : List Value} {sz : Nat} (hX : Xok X) : FrameBlind (va_Pc av (fun U => U.heap.size = sz ∧ va_P D cls7 wc U.heap ∧ va_K D cls7 (tys6 ar) U ∧ va_D (fun _ => True) wc ∧ X (va_A wc sz) U U.heap)) := fun a U g mk q => by
  obtain ⟨q0, q1, qP, qK, qD, qX⟩ := q
  exact ⟨q0, q1, qP, va_K.moved (u := U) (U := U.calling g mk a) (Vm.Alike.refl U.vm) qK, qD, hX.1 _ U (U.calling g mk a) _ rfl qX⟩
/-- the room and the words of a callee: frames, locals, its code in the tables, its descriptor -/
def Rm (R : Room) (k n : Nat) (y : MethodName) (bytes : ByteArray) (maxL : Nat) (ret : Option FieldType) (fr lo mc ms np : Nat) : Prop :=
  (fr + 1 ≤ R.frames ∧ 8 + (maxL + 11) + lo ≤ R.locals) ∧ (k + mc ≤ R.cells ∧ n + ms ≤ R.slots) ∧ Cond.code y bytes maxL ret ∈ gtbl ∧ Cond.initialized y.cls ∈ gtbl ∧ (y.cls ≠ "java/lang/invoke/MethodHandle" ∧ y.cls ≠ "java/lang/invoke/VarHandle" ∧ (parseMethodDescriptor y.desc).map (fun d => d.parameters.length) = some np)
/-- invokevirtual; the callee's world on the right -/
theorem r_callV (C : Cx0 own cc nL D ar X R j) (np : Nat) {CC : String} (hM : Cn D ar X y bytes maxL ret fr lo mc ms (.ref b :: As) wc Ret) (hR : Rm R k n y bytes maxL ret fr lo mc ms np) (hl1 : Cond.methodLink own index y ∈ gtbl) (hl2 : Cond.instanceMethod y ∈ gtbl) (hl3 : Cond.selects CC y y ∈ gtbl)
    (q0 ci : Nat) {fs : List Value} {T9 : u_T} {N9 : Nat} (hb0 : wc[q0]? = some (b, .inr (ci, fs))) (hc0 : cls7[ci]? = some (CC, T9, N9)) (hn : As.length = np) (hr : (rest.map fun v => v.category).sum ≤ 8) (hd : decode cc pc = .ok (.invokevirtual index, 3))
    (kk : ∀ (r : Option Value) (wc' : va_W), Ret r wc' → j (wl ++ wc') (k + mc) (n + ms) (pc + 3) lv (r.toList ++ rest)) : j (wl ++ wc) k n pc lv (As.reverse ++ .ref b :: rest) := by
  obtain ⟨p, l, e, s, m, args, below, meth, c, A, Q, ⟨hx, hb, hml, hown, hts, hK, hA, hX, hXs⟩, rfl⟩ := C
  intro H locs ls hP hD hS hl
  obtain ⟨hPc, hDc, -⟩ := xx_split hP hD
  refine xx_behind (va_runV (As := As) (rest := rest) ⟨hx, hb, hml, hown, hts⟩ (hM l H.size) ⟨callB_of np hts (gtbl_cons hR.2.2.1) rfl rfl rfl (hts _ hR.2.2.2.1) (hts _ hl1) hR.2.2.2.2 hR.1, hts _ hl2, hts _ hl3⟩ ⟨xx_blind hX, va_recv hK hPc hc0 hb0, fun U hU hW => ⟨rfl, xx_pre hX hXs hK hA hPc hDc hS U hU hW⟩⟩ rfl hn hl.1 rfl (lv_room hr) hd hR.2.1) hA hP hD hS hl kk
/-- invokestatic -/
theorem r_callS (C : Cx0 own cc nL D ar X R j) (np : Nat) (hM : Cn D ar X y bytes maxL ret fr lo mc ms As wc Ret) (hR : Rm R k n y bytes maxL ret fr lo mc ms np) (hl1 : Cond.methodLink own index y ∈ gtbl) (hl2 : Cond.static y ∈ gtbl)
    (hn : As.length = np) (hr : (rest.map fun v => v.category).sum ≤ 8) (hd : decode cc pc = .ok (.invokestatic index, 3))
    (kk : ∀ (r : Option Value) (wc' : va_W), Ret r wc' → j (wl ++ wc') (k + mc) (n + ms) (pc + 3) lv (r.toList ++ rest)) : j (wl ++ wc) k n pc lv (As.reverse ++ rest) := by
  obtain ⟨p, l, e, s, m, args, below, meth, c, A, Q, ⟨hx, hb, hml, hown, hts, hK, hA, hX, hXs⟩, rfl⟩ := C
  intro H locs ls hP hD hS hl
  obtain ⟨hPc, hDc, -⟩ := xx_split hP hD
  refine xx_behind (va_runS (As := As) (rest := rest) ⟨hx, hb, hml, hown, hts⟩ (hM l H.size) ⟨callB_of np hts (gtbl_cons hR.2.2.1) rfl rfl rfl (hts _ hR.2.2.2.1) (hts _ hl1) hR.2.2.2.2 hR.1, hts _ hl2⟩ ⟨xx_blind hX, fun U hU hW => ⟨rfl, xx_pre hX hXs hK hA hPc hDc hS U hU hW⟩⟩ rfl hn hl.1 rfl (lv_room hr) hd hR.2.1) hA hP hD hS hl kk
/-- invokespecial <init> -/
theorem r_callI (C : Cx0 own cc nL D ar X R j) (np : Nat) (hM : Cn D ar X y bytes maxL none fr lo mc ms (.ref b :: As) wc Ret) (hR : Rm R k n y bytes maxL none fr lo mc ms np) (hl1 : Cond.methodLink own index y ∈ gtbl) (hl2 : Cond.instanceMethod y ∈ gtbl) (hy1 : y.name = "<init>")
    (hn : As.length = np) (hr : (rest.map fun v => v.category).sum ≤ 8) (hd : decode cc pc = .ok (.invokespecial index, 3))
    (kk : ∀ (r : Option Value) (wc' : va_W), Ret r wc' → j (wl ++ wc') (k + mc) (n + ms) (pc + 3) lv (r.toList ++ rest)) : j (wl ++ wc) k n pc lv (As.reverse ++ .ref b :: rest) := by
  obtain ⟨p, l, e, s, m, args, below, meth, c, A, Q, ⟨hx, hb, hml, hown, hts, hK, hA, hX, hXs⟩, rfl⟩ := C
  intro H locs ls hP hD hS hl
  obtain ⟨hPc, hDc, -⟩ := xx_split hP hD
  refine xx_behind (va_runI (As := As) (rest := rest) ⟨hx, hb, hml, hown, hts⟩ (hM l H.size) ⟨callB_of np hts (gtbl_cons hR.2.2.1) rfl rfl rfl (hts _ hR.2.2.2.1) (hts _ hl1) hR.2.2.2.2 hR.1, hy1, hts _ hl2⟩ ⟨xx_blind hX, fun U hU hW => ⟨rfl, xx_pre hX hXs hK hA hPc hDc hS U hU hW⟩⟩ rfl hn hl.1 rfl (lv_room hr) hd hR.2.1) hA hP hD hS hl kk
/-- the callee's world may be moved to the right, or to the left -/
theorem r_comm (C : Cx0 own cc nL D ar X R j) {st : List Value} (kk : j (wr ++ wl) k n pc lv st) : j (wl ++ wr) k n pc lv st := by
  obtain ⟨p, l, e, s, m, args, below, meth, c, A, Q, hz, rfl⟩ := C
  intro H locs ls hP hD hS hl
  obtain ⟨h1, h2⟩ := xx_comm hP hD
  exact kk H locs ls h1 h2 hS hl
theorem r_objInit (C : Cx0 own cc nL D ar X R j) {ws : va_W} {a : Nat} (hl1 : Cond.methodLink own index Lib.objectInit ∈ gtbl) (hl2 : Cond.instanceMethod Lib.objectInit ∈ gtbl) (hl3 : Cond.code Lib.objectInit ⟨#[0xb1]⟩ 1 none ∈ gtbl) (hd : decode cc pc = .ok (.invokespecial index, 3)) (hf : 1 ≤ R.frames) (hlo : (rest.map fun v => v.category).sum + 12 ≤ R.locals)
    (kk : j ws k n (pc + 3) lv rest) : j ws k n pc lv (.ref a :: rest) := by
  obtain ⟨p, l, e, s, m, args, below, meth, c, A, Q, ⟨hx, hb, hml, hown, hts, hK, hA, hX, hXs⟩, rfl⟩ := C
  intro H locs ls hP hD hS hl
  exact W.objInit hx hb hown (hts _ hl1) (hts _ hl2) (hts _ hl3) rfl (by rw [hml]; exact hl.1) rfl hd hf (by show 2 * 0 + _ + 12 ≤ _; omega) (kk H locs ls hP hD hS hl)
end CAL
end

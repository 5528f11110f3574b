-- ===== PART A: goes FIRST, ahead of the names: the tables' words, and 'selects' of the private methods out of them =====
/-- a private method of a class that the tables say can be made, by its rows of tables_1 -/
def lw_okq (q : MethodName × Nat) : Prop := (q.1.cls ≠ "java/lang/invoke/MethodHandle" ∧ q.1.cls ≠ "java/lang/invoke/VarHandle") ∧ Cond.instantiable q.1.cls q.2 ∈ tables_1 ∧ Cond.privateMethod q.1 ∈ tables_1 ∧ Cond.instanceMethod q.1 ∈ tables_1
theorem lw_p0 : lw_okq (⟨"TickArena$StateBytes", "writeSlot", "(LTickArena$Slot;)V"⟩, 1) := ⟨⟨by decide +kernel, by decide +kernel⟩, List.mem_of_getElem? (i := 127) (by decide +kernel), List.mem_of_getElem? (i := 188) (by decide +kernel), List.mem_of_getElem? (i := 189) (by decide +kernel)⟩
theorem lw_p1 : lw_okq (⟨"TickArena$StateBytes", "writePairs", "(LTickArena$World;)V"⟩, 1) := ⟨⟨by decide +kernel, by decide +kernel⟩, List.mem_of_getElem? (i := 127) (by decide +kernel), List.mem_of_getElem? (i := 203) (by decide +kernel), List.mem_of_getElem? (i := 204) (by decide +kernel)⟩
theorem lw_p2 : lw_okq (⟨"TickArena", "bytesOf", "(Z)LTickArena$Bytes;"⟩, 4) := ⟨⟨by decide +kernel, by decide +kernel⟩, List.mem_of_getElem? (i := 17) (by decide +kernel), List.mem_of_getElem? (i := 260) (by decide +kernel), List.mem_of_getElem? (i := 261) (by decide +kernel)⟩
theorem lw_p3 : lw_okq (⟨"java/lang/Throwable", "fillInStackTrace", "(I)Ljava/lang/Throwable;"⟩, 6) := ⟨⟨by decide +kernel, by decide +kernel⟩, List.mem_of_getElem? (i := 319) (by decide +kernel), List.mem_of_getElem? (i := 317) (by decide +kernel), List.mem_of_getElem? (i := 318) (by decide +kernel)⟩
theorem lw_p4 : lw_okq (⟨"TickArena", "needRoom", "(I)V"⟩, 4) := ⟨⟨by decide +kernel, by decide +kernel⟩, List.mem_of_getElem? (i := 17) (by decide +kernel), List.mem_of_getElem? (i := 363) (by decide +kernel), List.mem_of_getElem? (i := 364) (by decide +kernel)⟩
theorem lw_p5 : lw_okq (⟨"TickArena", "needGood", "(I)V"⟩, 4) := ⟨⟨by decide +kernel, by decide +kernel⟩, List.mem_of_getElem? (i := 17) (by decide +kernel), List.mem_of_getElem? (i := 416) (by decide +kernel), List.mem_of_getElem? (i := 417) (by decide +kernel)⟩
theorem lw_p6 : lw_okq (⟨"TickArena$World", "countDown", "()V"⟩, 4) := ⟨⟨by decide +kernel, by decide +kernel⟩, List.mem_of_getElem? (i := 25) (by decide +kernel), List.mem_of_getElem? (i := 505) (by decide +kernel), List.mem_of_getElem? (i := 506) (by decide +kernel)⟩
theorem lw_p7 : lw_okq (⟨"TickArena$World", "moveAll", "()V"⟩, 4) := ⟨⟨by decide +kernel, by decide +kernel⟩, List.mem_of_getElem? (i := 25) (by decide +kernel), List.mem_of_getElem? (i := 511) (by decide +kernel), List.mem_of_getElem? (i := 512) (by decide +kernel)⟩
theorem lw_p8 : lw_okq (⟨"TickArena$World", "makeEvents", "()V"⟩, 4) := ⟨⟨by decide +kernel, by decide +kernel⟩, List.mem_of_getElem? (i := 25) (by decide +kernel), List.mem_of_getElem? (i := 523) (by decide +kernel), List.mem_of_getElem? (i := 524) (by decide +kernel)⟩
theorem lw_p9 : lw_okq (⟨"TickArena$World", "meet", "(IZ)V"⟩, 4) := ⟨⟨by decide +kernel, by decide +kernel⟩, List.mem_of_getElem? (i := 25) (by decide +kernel), List.mem_of_getElem? (i := 536) (by decide +kernel), List.mem_of_getElem? (i := 537) (by decide +kernel)⟩
theorem lw_p10 : lw_okq (⟨"TickArena$StateBytes", "readHead", "(LTickArena$World;)Z"⟩, 1) := ⟨⟨by decide +kernel, by decide +kernel⟩, List.mem_of_getElem? (i := 127) (by decide +kernel), List.mem_of_getElem? (i := 618) (by decide +kernel), List.mem_of_getElem? (i := 619) (by decide +kernel)⟩
theorem lw_p11 : lw_okq (⟨"TickArena$StateBytes", "readSlots", "(LTickArena$World;)Z"⟩, 1) := ⟨⟨by decide +kernel, by decide +kernel⟩, List.mem_of_getElem? (i := 127) (by decide +kernel), List.mem_of_getElem? (i := 630) (by decide +kernel), List.mem_of_getElem? (i := 631) (by decide +kernel)⟩
theorem lw_p12 : lw_okq (⟨"TickArena$StateBytes", "readSlot", "(LTickArena$Slot;)Z"⟩, 1) := ⟨⟨by decide +kernel, by decide +kernel⟩, List.mem_of_getElem? (i := 127) (by decide +kernel), List.mem_of_getElem? (i := 634) (by decide +kernel), List.mem_of_getElem? (i := 635) (by decide +kernel)⟩
theorem lw_p13 : lw_okq (⟨"TickArena$StateBytes", "readThing", "(LTickArena$Slot;)Z"⟩, 1) := ⟨⟨by decide +kernel, by decide +kernel⟩, List.mem_of_getElem? (i := 127) (by decide +kernel), List.mem_of_getElem? (i := 639) (by decide +kernel), List.mem_of_getElem? (i := 640) (by decide +kernel)⟩
theorem lw_p14 : lw_okq (⟨"TickArena$StateBytes", "readShape", "(LTickArena$Slot;Z)Z"⟩, 1) := ⟨⟨by decide +kernel, by decide +kernel⟩, List.mem_of_getElem? (i := 127) (by decide +kernel), List.mem_of_getElem? (i := 647) (by decide +kernel), List.mem_of_getElem? (i := 648) (by decide +kernel)⟩
theorem lw_p15 : lw_okq (⟨"TickArena$StateBytes", "readTimer", "(LTickArena$Slot;Z)Z"⟩, 1) := ⟨⟨by decide +kernel, by decide +kernel⟩, List.mem_of_getElem? (i := 127) (by decide +kernel), List.mem_of_getElem? (i := 653) (by decide +kernel), List.mem_of_getElem? (i := 654) (by decide +kernel)⟩
def lw_privs_1 : List (MethodName × Nat) := [(⟨"TickArena$StateBytes", "writeSlot", "(LTickArena$Slot;)V"⟩, 1), (⟨"TickArena$StateBytes", "writePairs", "(LTickArena$World;)V"⟩, 1), (⟨"TickArena", "bytesOf", "(Z)LTickArena$Bytes;"⟩, 4), (⟨"java/lang/Throwable", "fillInStackTrace", "(I)Ljava/lang/Throwable;"⟩, 6), (⟨"TickArena", "needRoom", "(I)V"⟩, 4), (⟨"TickArena", "needGood", "(I)V"⟩, 4), (⟨"TickArena$World", "countDown", "()V"⟩, 4), (⟨"TickArena$World", "moveAll", "()V"⟩, 4), (⟨"TickArena$World", "makeEvents", "()V"⟩, 4), (⟨"TickArena$World", "meet", "(IZ)V"⟩, 4), (⟨"TickArena$StateBytes", "readHead", "(LTickArena$World;)Z"⟩, 1), (⟨"TickArena$StateBytes", "readSlots", "(LTickArena$World;)Z"⟩, 1), (⟨"TickArena$StateBytes", "readSlot", "(LTickArena$Slot;)Z"⟩, 1), (⟨"TickArena$StateBytes", "readThing", "(LTickArena$Slot;)Z"⟩, 1), (⟨"TickArena$StateBytes", "readShape", "(LTickArena$Slot;Z)Z"⟩, 1), (⟨"TickArena$StateBytes", "readTimer", "(LTickArena$Slot;Z)Z"⟩, 1)]
theorem lw_r1 : ∀ q ∈ lw_privs_1, lw_okq q := List.forall_mem_cons.mpr ⟨lw_p0, List.forall_mem_cons.mpr ⟨lw_p1, List.forall_mem_cons.mpr ⟨lw_p2, List.forall_mem_cons.mpr ⟨lw_p3, List.forall_mem_cons.mpr ⟨lw_p4, List.forall_mem_cons.mpr ⟨lw_p5, List.forall_mem_cons.mpr ⟨lw_p6, List.forall_mem_cons.mpr ⟨lw_p7, List.forall_mem_cons.mpr ⟨lw_p8, List.forall_mem_cons.mpr ⟨lw_p9, List.forall_mem_cons.mpr ⟨lw_p10, List.forall_mem_cons.mpr ⟨lw_p11, List.forall_mem_cons.mpr ⟨lw_p12, List.forall_mem_cons.mpr ⟨lw_p13, List.forall_mem_cons.mpr ⟨lw_p14, List.forall_mem_cons.mpr ⟨lw_p15, fun _ h => absurd h List.not_mem_nil⟩⟩⟩⟩⟩⟩⟩⟩⟩⟩⟩⟩⟩⟩⟩⟩
theorem lw_p16 : lw_okq (⟨"TickArena$StateBytes", "readPairs", "(LTickArena$World;)Z"⟩, 1) := ⟨⟨by decide +kernel, by decide +kernel⟩, List.mem_of_getElem? (i := 127) (by decide +kernel), List.mem_of_getElem? (i := 658) (by decide +kernel), List.mem_of_getElem? (i := 659) (by decide +kernel)⟩
theorem lw_p17 : lw_okq (⟨"TickArena$StateBytes", "readCheck", "()Z"⟩, 1) := ⟨⟨by decide +kernel, by decide +kernel⟩, List.mem_of_getElem? (i := 127) (by decide +kernel), List.mem_of_getElem? (i := 672) (by decide +kernel), List.mem_of_getElem? (i := 673) (by decide +kernel)⟩
theorem lw_p18 : lw_okq (⟨"TickArena", "takeSpare", "()V"⟩, 4) := ⟨⟨by decide +kernel, by decide +kernel⟩, List.mem_of_getElem? (i := 17) (by decide +kernel), List.mem_of_getElem? (i := 680) (by decide +kernel), List.mem_of_getElem? (i := 681) (by decide +kernel)⟩
theorem lw_p19 : lw_okq (⟨"TickArena$LogBytes", "redoEntry", "(LTickArena$World;)Z"⟩, 1) := ⟨⟨by decide +kernel, by decide +kernel⟩, List.mem_of_getElem? (i := 159) (by decide +kernel), List.mem_of_getElem? (i := 696) (by decide +kernel), List.mem_of_getElem? (i := 697) (by decide +kernel)⟩
theorem lw_p20 : lw_okq (⟨"TickArena$LogBytes", "redoCreate", "(LTickArena$World;)Z"⟩, 1) := ⟨⟨by decide +kernel, by decide +kernel⟩, List.mem_of_getElem? (i := 159) (by decide +kernel), List.mem_of_getElem? (i := 701) (by decide +kernel), List.mem_of_getElem? (i := 702) (by decide +kernel)⟩
theorem lw_p21 : lw_okq (⟨"TickArena$LogBytes", "redoDestroy", "(LTickArena$World;)Z"⟩, 1) := ⟨⟨by decide +kernel, by decide +kernel⟩, List.mem_of_getElem? (i := 159) (by decide +kernel), List.mem_of_getElem? (i := 707) (by decide +kernel), List.mem_of_getElem? (i := 708) (by decide +kernel)⟩
theorem lw_p22 : lw_okq (⟨"TickArena$LogBytes", "redoSpeed", "(LTickArena$World;)Z"⟩, 1) := ⟨⟨by decide +kernel, by decide +kernel⟩, List.mem_of_getElem? (i := 159) (by decide +kernel), List.mem_of_getElem? (i := 714) (by decide +kernel), List.mem_of_getElem? (i := 715) (by decide +kernel)⟩
theorem lw_p23 : lw_okq (⟨"TickArena$LogBytes", "redoShape", "(LTickArena$World;)Z"⟩, 1) := ⟨⟨by decide +kernel, by decide +kernel⟩, List.mem_of_getElem? (i := 159) (by decide +kernel), List.mem_of_getElem? (i := 721) (by decide +kernel), List.mem_of_getElem? (i := 722) (by decide +kernel)⟩
theorem lw_p24 : lw_okq (⟨"TickArena$LogBytes", "redoTimer", "(LTickArena$World;)Z"⟩, 1) := ⟨⟨by decide +kernel, by decide +kernel⟩, List.mem_of_getElem? (i := 159) (by decide +kernel), List.mem_of_getElem? (i := 727) (by decide +kernel), List.mem_of_getElem? (i := 728) (by decide +kernel)⟩
theorem lw_p25 : lw_okq (⟨"TickArenaModel", "writeWorld", "(I)V"⟩, 24) := ⟨⟨by decide +kernel, by decide +kernel⟩, List.mem_of_getElem? (i := 748) (by decide +kernel), List.mem_of_getElem? (i := 758) (by decide +kernel), List.mem_of_getElem? (i := 759) (by decide +kernel)⟩
theorem lw_p26 : lw_okq (⟨"TickArenaModel", "write", "(II)V"⟩, 24) := ⟨⟨by decide +kernel, by decide +kernel⟩, List.mem_of_getElem? (i := 748) (by decide +kernel), List.mem_of_getElem? (i := 762) (by decide +kernel), List.mem_of_getElem? (i := 763) (by decide +kernel)⟩
theorem lw_p27 : lw_okq (⟨"TickArenaModel", "emptySlot", "(I)I"⟩, 24) := ⟨⟨by decide +kernel, by decide +kernel⟩, List.mem_of_getElem? (i := 748) (by decide +kernel), List.mem_of_getElem? (i := 847) (by decide +kernel), List.mem_of_getElem? (i := 848) (by decide +kernel)⟩
theorem lw_p28 : lw_okq (⟨"TickArenaModel", "add", "(I)V"⟩, 24) := ⟨⟨by decide +kernel, by decide +kernel⟩, List.mem_of_getElem? (i := 748) (by decide +kernel), List.mem_of_getElem? (i := 851) (by decide +kernel), List.mem_of_getElem? (i := 852) (by decide +kernel)⟩
theorem lw_p29 : lw_okq (⟨"TickArenaModel", "make", "(III)V"⟩, 24) := ⟨⟨by decide +kernel, by decide +kernel⟩, List.mem_of_getElem? (i := 748) (by decide +kernel), List.mem_of_getElem? (i := 855) (by decide +kernel), List.mem_of_getElem? (i := 856) (by decide +kernel)⟩
theorem lw_p30 : lw_okq (⟨"TickArenaModel", "allowed", "(IIIII)Z"⟩, 24) := ⟨⟨by decide +kernel, by decide +kernel⟩, List.mem_of_getElem? (i := 748) (by decide +kernel), List.mem_of_getElem? (i := 863) (by decide +kernel), List.mem_of_getElem? (i := 864) (by decide +kernel)⟩
theorem lw_p31 : lw_okq (⟨"TickArenaModel", "seek", "(II)I"⟩, 24) := ⟨⟨by decide +kernel, by decide +kernel⟩, List.mem_of_getElem? (i := 748) (by decide +kernel), List.mem_of_getElem? (i := 867) (by decide +kernel), List.mem_of_getElem? (i := 868) (by decide +kernel)⟩
def lw_privs_2 : List (MethodName × Nat) := [(⟨"TickArena$StateBytes", "readPairs", "(LTickArena$World;)Z"⟩, 1), (⟨"TickArena$StateBytes", "readCheck", "()Z"⟩, 1), (⟨"TickArena", "takeSpare", "()V"⟩, 4), (⟨"TickArena$LogBytes", "redoEntry", "(LTickArena$World;)Z"⟩, 1), (⟨"TickArena$LogBytes", "redoCreate", "(LTickArena$World;)Z"⟩, 1), (⟨"TickArena$LogBytes", "redoDestroy", "(LTickArena$World;)Z"⟩, 1), (⟨"TickArena$LogBytes", "redoSpeed", "(LTickArena$World;)Z"⟩, 1), (⟨"TickArena$LogBytes", "redoShape", "(LTickArena$World;)Z"⟩, 1), (⟨"TickArena$LogBytes", "redoTimer", "(LTickArena$World;)Z"⟩, 1), (⟨"TickArenaModel", "writeWorld", "(I)V"⟩, 24), (⟨"TickArenaModel", "write", "(II)V"⟩, 24), (⟨"TickArenaModel", "emptySlot", "(I)I"⟩, 24), (⟨"TickArenaModel", "add", "(I)V"⟩, 24), (⟨"TickArenaModel", "make", "(III)V"⟩, 24), (⟨"TickArenaModel", "allowed", "(IIIII)Z"⟩, 24), (⟨"TickArenaModel", "seek", "(II)I"⟩, 24)]
theorem lw_r2 : ∀ q ∈ lw_privs_2, lw_okq q := List.forall_mem_cons.mpr ⟨lw_p16, List.forall_mem_cons.mpr ⟨lw_p17, List.forall_mem_cons.mpr ⟨lw_p18, List.forall_mem_cons.mpr ⟨lw_p19, List.forall_mem_cons.mpr ⟨lw_p20, List.forall_mem_cons.mpr ⟨lw_p21, List.forall_mem_cons.mpr ⟨lw_p22, List.forall_mem_cons.mpr ⟨lw_p23, List.forall_mem_cons.mpr ⟨lw_p24, List.forall_mem_cons.mpr ⟨lw_p25, List.forall_mem_cons.mpr ⟨lw_p26, List.forall_mem_cons.mpr ⟨lw_p27, List.forall_mem_cons.mpr ⟨lw_p28, List.forall_mem_cons.mpr ⟨lw_p29, List.forall_mem_cons.mpr ⟨lw_p30, List.forall_mem_cons.mpr ⟨lw_p31, fun _ h => absurd h List.not_mem_nil⟩⟩⟩⟩⟩⟩⟩⟩⟩⟩⟩⟩⟩⟩⟩⟩
theorem lw_p32 : lw_okq (⟨"TickArenaModel", "addHandle", "(I)V"⟩, 24) := ⟨⟨by decide +kernel, by decide +kernel⟩, List.mem_of_getElem? (i := 748) (by decide +kernel), List.mem_of_getElem? (i := 875) (by decide +kernel), List.mem_of_getElem? (i := 876) (by decide +kernel)⟩
theorem lw_p33 : lw_okq (⟨"TickArenaModel", "act", "(IIIII)Z"⟩, 24) := ⟨⟨by decide +kernel, by decide +kernel⟩, List.mem_of_getElem? (i := 748) (by decide +kernel), List.mem_of_getElem? (i := 879) (by decide +kernel), List.mem_of_getElem? (i := 880) (by decide +kernel)⟩
theorem lw_p34 : lw_okq (⟨"TickArenaModel", "step", "(I)V"⟩, 24) := ⟨⟨by decide +kernel, by decide +kernel⟩, List.mem_of_getElem? (i := 748) (by decide +kernel), List.mem_of_getElem? (i := 883) (by decide +kernel), List.mem_of_getElem? (i := 884) (by decide +kernel)⟩
theorem lw_p35 : lw_okq (⟨"TickArenaModel", "remove", "(I)V"⟩, 24) := ⟨⟨by decide +kernel, by decide +kernel⟩, List.mem_of_getElem? (i := 748) (by decide +kernel), List.mem_of_getElem? (i := 888) (by decide +kernel), List.mem_of_getElem? (i := 889) (by decide +kernel)⟩
theorem lw_p36 : lw_okq (⟨"TickArenaModel", "overlap", "(II)Z"⟩, 24) := ⟨⟨by decide +kernel, by decide +kernel⟩, List.mem_of_getElem? (i := 748) (by decide +kernel), List.mem_of_getElem? (i := 893) (by decide +kernel), List.mem_of_getElem? (i := 894) (by decide +kernel)⟩
theorem lw_p37 : lw_okq (⟨"TickArenaModel", "note", "(IIII)V"⟩, 24) := ⟨⟨by decide +kernel, by decide +kernel⟩, List.mem_of_getElem? (i := 748) (by decide +kernel), List.mem_of_getElem? (i := 900) (by decide +kernel), List.mem_of_getElem? (i := 901) (by decide +kernel)⟩
theorem lw_p38 : lw_okq (⟨"TickArenaModel", "restore", "()Z"⟩, 24) := ⟨⟨by decide +kernel, by decide +kernel⟩, List.mem_of_getElem? (i := 748) (by decide +kernel), List.mem_of_getElem? (i := 949) (by decide +kernel), List.mem_of_getElem? (i := 950) (by decide +kernel)⟩
theorem lw_p39 : lw_okq (⟨"TickArenaModel", "readIn", "(III)I"⟩, 24) := ⟨⟨by decide +kernel, by decide +kernel⟩, List.mem_of_getElem? (i := 748) (by decide +kernel), List.mem_of_getElem? (i := 953) (by decide +kernel), List.mem_of_getElem? (i := 954) (by decide +kernel)⟩
theorem lw_p40 : lw_okq (⟨"TickArenaModel", "read", "(I)I"⟩, 24) := ⟨⟨by decide +kernel, by decide +kernel⟩, List.mem_of_getElem? (i := 748) (by decide +kernel), List.mem_of_getElem? (i := 957) (by decide +kernel), List.mem_of_getElem? (i := 958) (by decide +kernel)⟩
theorem lw_p41 : lw_okq (⟨"TickArenaModel", "readThing", "(I)V"⟩, 24) := ⟨⟨by decide +kernel, by decide +kernel⟩, List.mem_of_getElem? (i := 748) (by decide +kernel), List.mem_of_getElem? (i := 961) (by decide +kernel), List.mem_of_getElem? (i := 962) (by decide +kernel)⟩
theorem lw_p42 : lw_okq (⟨"TickArenaModel", "take", "()V"⟩, 24) := ⟨⟨by decide +kernel, by decide +kernel⟩, List.mem_of_getElem? (i := 748) (by decide +kernel), List.mem_of_getElem? (i := 965) (by decide +kernel), List.mem_of_getElem? (i := 966) (by decide +kernel)⟩
theorem lw_p43 : lw_okq (⟨"TickArenaModel", "entry", "(I)I"⟩, 24) := ⟨⟨by decide +kernel, by decide +kernel⟩, List.mem_of_getElem? (i := 748) (by decide +kernel), List.mem_of_getElem? (i := 973) (by decide +kernel), List.mem_of_getElem? (i := 974) (by decide +kernel)⟩
theorem lw_p44 : lw_okq (⟨"TickArenaModel", "logged", "(II)I"⟩, 24) := ⟨⟨by decide +kernel, by decide +kernel⟩, List.mem_of_getElem? (i := 748) (by decide +kernel), List.mem_of_getElem? (i := 977) (by decide +kernel), List.mem_of_getElem? (i := 978) (by decide +kernel)⟩
def lw_privs_3 : List (MethodName × Nat) := [(⟨"TickArenaModel", "addHandle", "(I)V"⟩, 24), (⟨"TickArenaModel", "act", "(IIIII)Z"⟩, 24), (⟨"TickArenaModel", "step", "(I)V"⟩, 24), (⟨"TickArenaModel", "remove", "(I)V"⟩, 24), (⟨"TickArenaModel", "overlap", "(II)Z"⟩, 24), (⟨"TickArenaModel", "note", "(IIII)V"⟩, 24), (⟨"TickArenaModel", "restore", "()Z"⟩, 24), (⟨"TickArenaModel", "readIn", "(III)I"⟩, 24), (⟨"TickArenaModel", "read", "(I)I"⟩, 24), (⟨"TickArenaModel", "readThing", "(I)V"⟩, 24), (⟨"TickArenaModel", "take", "()V"⟩, 24), (⟨"TickArenaModel", "entry", "(I)I"⟩, 24), (⟨"TickArenaModel", "logged", "(II)I"⟩, 24)]
theorem lw_r3 : ∀ q ∈ lw_privs_3, lw_okq q := List.forall_mem_cons.mpr ⟨lw_p32, List.forall_mem_cons.mpr ⟨lw_p33, List.forall_mem_cons.mpr ⟨lw_p34, List.forall_mem_cons.mpr ⟨lw_p35, List.forall_mem_cons.mpr ⟨lw_p36, List.forall_mem_cons.mpr ⟨lw_p37, List.forall_mem_cons.mpr ⟨lw_p38, List.forall_mem_cons.mpr ⟨lw_p39, List.forall_mem_cons.mpr ⟨lw_p40, List.forall_mem_cons.mpr ⟨lw_p41, List.forall_mem_cons.mpr ⟨lw_p42, List.forall_mem_cons.mpr ⟨lw_p43, List.forall_mem_cons.mpr ⟨lw_p44, fun _ h => absurd h List.not_mem_nil⟩⟩⟩⟩⟩⟩⟩⟩⟩⟩⟩⟩⟩
def lw_privs : List (MethodName × Nat) := lw_privs_1 ++ (lw_privs_2 ++ (lw_privs_3))
def lw_tbl : List Cond := k2_sels lw_privs ++ tables_1
theorem lw_privs_ok : ∀ q ∈ lw_privs, lw_okq q := by
  show ∀ q ∈ lw_privs_1 ++ (lw_privs_2 ++ (lw_privs_3)), lw_okq q
  exact List.forall_mem_append.mpr ⟨lw_r1, List.forall_mem_append.mpr ⟨lw_r2, lw_r3⟩⟩
def TC_By : u_T := fun k => match k with
  | 0 => ("TickArena$Bytes", "row", "[I", true)
  | 1 => ("TickArena$Bytes", "count", "I", false)
  | _ => ("TickArena$Bytes", "place", "I", false)
def TC_Ev : u_T := fun k => match k with
  | 0 => ("TickArena$Events", "kinds", "[I", true)
  | 1 => ("TickArena$Events", "pairs", "[I", true)
  | _ => ("TickArena$Events", "count", "I", false)
def TC_Lg : u_T := fun k => match k with
  | _ => ("TickArena$LogBytes", "bytes", "LTickArena$Bytes;", true)
def TC_Sl : u_T := fun k => match k with
  | 0 => ("TickArena$Slot", "generation", "I", false)
  | 1 => ("TickArena$Slot", "taken", "Z", false)
  | 2 => ("TickArena$Slot", "x", "I", false)
  | 3 => ("TickArena$Slot", "y", "I", false)
  | 4 => ("TickArena$Slot", "vx", "I", false)
  | 5 => ("TickArena$Slot", "vy", "I", false)
  | 6 => ("TickArena$Slot", "halfWidth", "I", false)
  | 7 => ("TickArena$Slot", "halfHeight", "I", false)
  | _ => ("TickArena$Slot", "timer", "I", false)
def TC_Sb : u_T := fun k => match k with
  | _ => ("TickArena$StateBytes", "bytes", "LTickArena$Bytes;", true)
def TC_Wo : u_T := fun k => match k with
  | 0 => ("TickArena$World", "slots", "[LTickArena$Slot;", true)
  | 1 => ("TickArena$World", "touching", "[Z", true)
  | 2 => ("TickArena$World", "events", "LTickArena$Events;", true)
  | _ => ("TickArena$World", "clock", "I", false)
def TC_Ta : u_T := fun k => match k with
  | 0 => ("TickArena", "world", "LTickArena$World;", false)
  | 1 => ("TickArena", "spare", "LTickArena$World;", false)
  | 2 => ("TickArena", "state", "LTickArena$StateBytes;", true)
  | _ => ("TickArena", "entries", "LTickArena$LogBytes;", true)
def TC_Mo : u_T := fun k => match k with
  | 0 => ("TickArenaModel", "code", "I", false)
  | 1 => ("TickArenaModel", "clocks", "[I", true)
  | 2 => ("TickArenaModel", "generation", "[I", true)
  | 3 => ("TickArenaModel", "full", "[Z", true)
  | 4 => ("TickArenaModel", "px", "[I", true)
  | 5 => ("TickArenaModel", "py", "[I", true)
  | 6 => ("TickArenaModel", "sx", "[I", true)
  | 7 => ("TickArenaModel", "sy", "[I", true)
  | 8 => ("TickArenaModel", "wide", "[I", true)
  | 9 => ("TickArenaModel", "high", "[I", true)
  | 10 => ("TickArenaModel", "left", "[I", true)
  | 11 => ("TickArenaModel", "touch", "[Z", true)
  | 12 => ("TickArenaModel", "events", "[I", true)
  | 13 => ("TickArenaModel", "kind", "[I", true)
  | 14 => ("TickArenaModel", "first", "[I", true)
  | 15 => ("TickArenaModel", "second", "[I", true)
  | 16 => ("TickArenaModel", "savedSize", "I", false)
  | 17 => ("TickArenaModel", "saved", "[I", true)
  | 18 => ("TickArenaModel", "logSize", "I", false)
  | 19 => ("TickArenaModel", "log", "[I", true)
  | 20 => ("TickArenaModel", "draftSize", "I", false)
  | 21 => ("TickArenaModel", "draft", "[I", true)
  | 22 => ("TickArenaModel", "place", "I", false)
  | _ => ("TickArenaModel", "sound", "Z", false)
def vwCl : List vw_C := [("TickArena$Bytes", TC_By, 3), ("TickArena$Events", TC_Ev, 3), ("TickArena$LogBytes", TC_Lg, 1), ("TickArena$Slot", TC_Sl, 9), ("TickArena$StateBytes", TC_Sb, 1), ("TickArena$World", TC_Wo, 4), ("TickArena", TC_Ta, 4), ("TickArenaModel", TC_Mo, 24)]
def mm_isrL : List (List Bool) := [[true, false, false], [true, true, false], [true], [false, false, false, false, false, false, false, false, false], [true], [true, true, true, false], [true, true, true, true], [false, true, true, true, true, true, true, true, true, true, true, true, true, true, true, true, false, true, false, true, false, true, false, false]]
def mm_isr (ci k : Nat) : Bool := (mm_isrL.getD ci []).getD k false
def mm_SHL : List (Nat × Nat) := [(999, 0), (6, 4), (5, 4), (102, 16), (101, 256), (1, 3), (100, 120), (100, 120), (3, 9), (3, 9), (3, 9), (3, 9), (3, 9), (3, 9), (3, 9), (3, 9), (3, 9), (3, 9), (3, 9), (3, 9), (3, 9), (3, 9), (3, 9), (3, 9), (5, 4), (102, 16), (101, 256), (1, 3), (100, 120), (100, 120), (3, 9), (3, 9), (3, 9), (3, 9), (3, 9), (3, 9), (3, 9), (3, 9), (3, 9), (3, 9), (3, 9), (3, 9), (3, 9), (3, 9), (3, 9), (3, 9), (4, 1), (0, 3), (100, 336), (2, 1), (0, 3), (100, 400), (7, 24), (100, 2), (100, 32), (101, 32), (100, 32), (100, 32), (100, 32), (100, 32), (100, 32), (100, 32), (100, 32), (101, 512), (100, 2), (100, 240), (100, 240), (100, 240), (100, 600), (100, 400), (100, 600), (103, 1)]
def mm_sh (a : Nat) : Nat × Nat := mm_SHL.getD a (0, 0)
def mm_slotC : Nat := 3
def mm_slotN : String := "TickArena$Slot"
def mm_slotR : vw_C := ("TickArena$Slot", TC_Sl, 9)
theorem mm_slotE : vwCl[mm_slotC]? = some mm_slotR := rfl
def mm_tys (cA : Nat → ClassId) : List (ClassId × FieldType) := [(cA 0, .int), (cA 1, .boolean), (cA 2, .object mm_slotN), (cA 3, .long)]
def mm_xn (x : Nat) : String := match x with
  | 0 => "java/lang/IllegalArgumentException"
  | 1 => "java/lang/IllegalStateException"
  | 2 => "java/lang/UnsupportedOperationException"
  | _ => "java/lang/IndexOutOfBoundsException"
def mm_XS : List (String × String × String) := [("java/lang/Throwable", "UNASSIGNED_STACK", "[Ljava/lang/StackTraceElement;"), ("java/lang/Throwable", "SUPPRESSED_SENTINEL", "Ljava/util/List;")]
def mm_NC : List (String × String) := [("java/lang/IllegalArgumentException", "java/lang/IllegalStateException"), ("java/lang/IllegalArgumentException", "java/lang/UnsupportedOperationException"), ("java/lang/IllegalArgumentException", "java/lang/IndexOutOfBoundsException"), ("java/lang/IllegalStateException", "java/lang/IllegalArgumentException"), ("java/lang/IllegalStateException", "java/lang/UnsupportedOperationException"), ("java/lang/IllegalStateException", "java/lang/IndexOutOfBoundsException"), ("java/lang/UnsupportedOperationException", "java/lang/IllegalArgumentException"), ("java/lang/UnsupportedOperationException", "java/lang/IllegalStateException"), ("java/lang/UnsupportedOperationException", "java/lang/IndexOutOfBoundsException"), ("java/lang/IndexOutOfBoundsException", "java/lang/IllegalArgumentException"), ("java/lang/IndexOutOfBoundsException", "java/lang/IllegalStateException"), ("java/lang/IndexOutOfBoundsException", "java/lang/UnsupportedOperationException")]
def mm_nest : Cond → Bool
  | .fieldLinkNest .. => true
  | .methodLinkNest .. => true
  | .declares _ => true
  | _ => false
def mm_heap : Cond → Bool
  | .arrayOver (.object _) => true
  | .laysStatic .. => true
  | .castable .. => true
  | _ => false
def mm_okw (w : Cond) : Bool := goodWord w || mm_nest w || mm_heap w
/-- the words that hold on -/
def mm_WS : List Cond := lw_tbl.filter mm_okw
theorem mm_WS_ok : ∀ w ∈ mm_WS, mm_okw w = true := fun w h => (List.mem_filter.mp h).2
theorem mm_mw {i : Nat} {w : Cond} (h : tables_1[i]? = some w) (ok : mm_okw w = true) : w ∈ mm_WS := List.mem_filter.mpr ⟨List.mem_append_right _ (List.mem_of_getElem? h), ok⟩
theorem mm_ms {q : MethodName × Nat} (h : q ∈ lw_privs) (ok : mm_okw (Cond.selects q.1.cls q.1 q.1) = true) : Cond.selects q.1.cls q.1 q.1 ∈ mm_WS := List.mem_filter.mpr ⟨List.mem_append_left _ (List.mem_map.mpr ⟨q, h, rfl⟩), ok⟩
theorem mm_XS_lays : ∀ x ∈ mm_XS, Cond.laysStatic x.1 x.2.1 x.2.2 ∈ mm_WS := by
  intro x hx
  rcases List.mem_cons.mp hx with rfl | hx
  · exact mm_mw (i := 306) (by decide +kernel) (by decide +kernel)
  · rcases List.mem_cons.mp hx with rfl | hx
    · exact mm_mw (i := 308) (by decide +kernel) (by decide +kernel)
    · cases hx

section
-- ===== PART A: goes FIRST, ahead of the names: the tables' words, and 'selects' of the private methods out of them =====
/-- a private method of a class that the tables say can be made, by its rows of tables_1 -/
def lw_okq (q : MethodName × Nat) : Prop := (q.1.cls ≠ "java/lang/invoke/MethodHandle" ∧ q.1.cls ≠ "java/lang/invoke/VarHandle") ∧ Cond.instantiable q.1.cls q.2 ∈ tables_1 ∧ Cond.privateMethod q.1 ∈ tables_1 ∧ Cond.instanceMethod q.1 ∈ tables_1
theorem lw_p0 : lw_okq (⟨"CellEngine$Program", "bytesBeforeZero", "(J)I"⟩, 7) := ⟨⟨by decide +kernel, by decide +kernel⟩, List.mem_of_getElem? (i := 82) (by decide +kernel), List.mem_of_getElem? (i := 393) (by decide +kernel), List.mem_of_getElem? (i := 394) (by decide +kernel)⟩
theorem lw_p1 : lw_okq (⟨"CellEngine$Machine", "operandsHere", "()I"⟩, 15) := ⟨⟨by decide +kernel, by decide +kernel⟩, List.mem_of_getElem? (i := 214) (by decide +kernel), List.mem_of_getElem? (i := 442) (by decide +kernel), List.mem_of_getElem? (i := 443) (by decide +kernel)⟩
theorem lw_p2 : lw_okq (⟨"CellEngine$Machine", "perform", "(II)I"⟩, 15) := ⟨⟨by decide +kernel, by decide +kernel⟩, List.mem_of_getElem? (i := 214) (by decide +kernel), List.mem_of_getElem? (i := 454) (by decide +kernel), List.mem_of_getElem? (i := 455) (by decide +kernel)⟩
theorem lw_p3 : lw_okq (⟨"CellEngine$Machine", "stop", "()I"⟩, 15) := ⟨⟨by decide +kernel, by decide +kernel⟩, List.mem_of_getElem? (i := 214) (by decide +kernel), List.mem_of_getElem? (i := 458) (by decide +kernel), List.mem_of_getElem? (i := 459) (by decide +kernel)⟩
theorem lw_p4 : lw_okq (⟨"CellEngine$Stacks", "widen", "(I)V"⟩, 12) := ⟨⟨by decide +kernel, by decide +kernel⟩, List.mem_of_getElem? (i := 26) (by decide +kernel), List.mem_of_getElem? (i := 482) (by decide +kernel), List.mem_of_getElem? (i := 483) (by decide +kernel)⟩
theorem lw_p5 : lw_okq (⟨"CellEngine$Heap", "moved", "(JI)J"⟩, 20) := ⟨⟨by decide +kernel, by decide +kernel⟩, List.mem_of_getElem? (i := 133) (by decide +kernel), List.mem_of_getElem? (i := 515) (by decide +kernel), List.mem_of_getElem? (i := 516) (by decide +kernel)⟩
theorem lw_p6 : lw_okq (⟨"CellEngine$Heap", "sizeOf", "(J)I"⟩, 20) := ⟨⟨by decide +kernel, by decide +kernel⟩, List.mem_of_getElem? (i := 133) (by decide +kernel), List.mem_of_getElem? (i := 520) (by decide +kernel), List.mem_of_getElem? (i := 521) (by decide +kernel)⟩
theorem lw_p7 : lw_okq (⟨"CellEngine$Heap", "moveBack", "(I)V"⟩, 20) := ⟨⟨by decide +kernel, by decide +kernel⟩, List.mem_of_getElem? (i := 133) (by decide +kernel), List.mem_of_getElem? (i := 524) (by decide +kernel), List.mem_of_getElem? (i := 525) (by decide +kernel)⟩
theorem lw_p8 : lw_okq (⟨"CellEngine$Machine", "enterFrame", "()I"⟩, 15) := ⟨⟨by decide +kernel, by decide +kernel⟩, List.mem_of_getElem? (i := 214) (by decide +kernel), List.mem_of_getElem? (i := 656) (by decide +kernel), List.mem_of_getElem? (i := 657) (by decide +kernel)⟩
theorem lw_p9 : lw_okq (⟨"CellEngine$Stacks", "widenFrames", "()V"⟩, 12) := ⟨⟨by decide +kernel, by decide +kernel⟩, List.mem_of_getElem? (i := 26) (by decide +kernel), List.mem_of_getElem? (i := 665) (by decide +kernel), List.mem_of_getElem? (i := 666) (by decide +kernel)⟩
theorem lw_p10 : lw_okq (⟨"CellEngine$Machine", "replaceFrame", "()I"⟩, 15) := ⟨⟨by decide +kernel, by decide +kernel⟩, List.mem_of_getElem? (i := 214) (by decide +kernel), List.mem_of_getElem? (i := 672) (by decide +kernel), List.mem_of_getElem? (i := 673) (by decide +kernel)⟩
theorem lw_p11 : lw_okq (⟨"CellEngine$Machine", "goOn", "(I)I"⟩, 15) := ⟨⟨by decide +kernel, by decide +kernel⟩, List.mem_of_getElem? (i := 214) (by decide +kernel), List.mem_of_getElem? (i := 684) (by decide +kernel), List.mem_of_getElem? (i := 685) (by decide +kernel)⟩
theorem lw_p12 : lw_okq (⟨"CellEngine$Machine", "leaveFrame", "()I"⟩, 15) := ⟨⟨by decide +kernel, by decide +kernel⟩, List.mem_of_getElem? (i := 214) (by decide +kernel), List.mem_of_getElem? (i := 688) (by decide +kernel), List.mem_of_getElem? (i := 689) (by decide +kernel)⟩
theorem lw_p13 : lw_okq (⟨"CellEngine$Machine", "unless", "(I)I"⟩, 15) := ⟨⟨by decide +kernel, by decide +kernel⟩, List.mem_of_getElem? (i := 214) (by decide +kernel), List.mem_of_getElem? (i := 696) (by decide +kernel), List.mem_of_getElem? (i := 697) (by decide +kernel)⟩
theorem lw_p14 : lw_okq (⟨"CellEngine$Machine", "choose", "(I)I"⟩, 15) := ⟨⟨by decide +kernel, by decide +kernel⟩, List.mem_of_getElem? (i := 214) (by decide +kernel), List.mem_of_getElem? (i := 701) (by decide +kernel), List.mem_of_getElem? (i := 702) (by decide +kernel)⟩
theorem lw_p15 : lw_okq (⟨"CellEngine$Stacks", "widenHandlers", "()V"⟩, 12) := ⟨⟨by decide +kernel, by decide +kernel⟩, List.mem_of_getElem? (i := 26) (by decide +kernel), List.mem_of_getElem? (i := 717) (by decide +kernel), List.mem_of_getElem? (i := 718) (by decide +kernel)⟩
def lw_privs_1 : List (MethodName × Nat) := [(⟨"CellEngine$Program", "bytesBeforeZero", "(J)I"⟩, 7), (⟨"CellEngine$Machine", "operandsHere", "()I"⟩, 15), (⟨"CellEngine$Machine", "perform", "(II)I"⟩, 15), (⟨"CellEngine$Machine", "stop", "()I"⟩, 15), (⟨"CellEngine$Stacks", "widen", "(I)V"⟩, 12), (⟨"CellEngine$Heap", "moved", "(JI)J"⟩, 20), (⟨"CellEngine$Heap", "sizeOf", "(J)I"⟩, 20), (⟨"CellEngine$Heap", "moveBack", "(I)V"⟩, 20), (⟨"CellEngine$Machine", "enterFrame", "()I"⟩, 15), (⟨"CellEngine$Stacks", "widenFrames", "()V"⟩, 12), (⟨"CellEngine$Machine", "replaceFrame", "()I"⟩, 15), (⟨"CellEngine$Machine", "goOn", "(I)I"⟩, 15), (⟨"CellEngine$Machine", "leaveFrame", "()I"⟩, 15), (⟨"CellEngine$Machine", "unless", "(I)I"⟩, 15), (⟨"CellEngine$Machine", "choose", "(I)I"⟩, 15), (⟨"CellEngine$Stacks", "widenHandlers", "()V"⟩, 12)]
theorem lw_r1 : ∀ q ∈ lw_privs_1, lw_okq q := List.forall_mem_cons.mpr ⟨lw_p0, List.forall_mem_cons.mpr ⟨lw_p1, List.forall_mem_cons.mpr ⟨lw_p2, List.forall_mem_cons.mpr ⟨lw_p3, List.forall_mem_cons.mpr ⟨lw_p4, List.forall_mem_cons.mpr ⟨lw_p5, List.forall_mem_cons.mpr ⟨lw_p6, List.forall_mem_cons.mpr ⟨lw_p7, List.forall_mem_cons.mpr ⟨lw_p8, List.forall_mem_cons.mpr ⟨lw_p9, List.forall_mem_cons.mpr ⟨lw_p10, List.forall_mem_cons.mpr ⟨lw_p11, List.forall_mem_cons.mpr ⟨lw_p12, List.forall_mem_cons.mpr ⟨lw_p13, List.forall_mem_cons.mpr ⟨lw_p14, List.forall_mem_cons.mpr ⟨lw_p15, fun _ h => absurd h List.not_mem_nil⟩⟩⟩⟩⟩⟩⟩⟩⟩⟩⟩⟩⟩⟩⟩⟩
theorem lw_p16 : lw_okq (⟨"CellEngine$Machine", "unhandle", "()I"⟩, 15) := ⟨⟨by decide +kernel, by decide +kernel⟩, List.mem_of_getElem? (i := 214) (by decide +kernel), List.mem_of_getElem? (i := 722) (by decide +kernel), List.mem_of_getElem? (i := 723) (by decide +kernel)⟩
theorem lw_p17 : lw_okq (⟨"CellEngine$Machine", "raiseTop", "()I"⟩, 15) := ⟨⟨by decide +kernel, by decide +kernel⟩, List.mem_of_getElem? (i := 214) (by decide +kernel), List.mem_of_getElem? (i := 726) (by decide +kernel), List.mem_of_getElem? (i := 727) (by decide +kernel)⟩
theorem lw_p18 : lw_okq (⟨"CellEngine$Machine", "raise", "(JI)I"⟩, 15) := ⟨⟨by decide +kernel, by decide +kernel⟩, List.mem_of_getElem? (i := 214) (by decide +kernel), List.mem_of_getElem? (i := 730) (by decide +kernel), List.mem_of_getElem? (i := 731) (by decide +kernel)⟩
theorem lw_p19 : lw_okq (⟨"CellEngine$Equality", "join", "(JJ)Z"⟩, 4) := ⟨⟨by decide +kernel, by decide +kernel⟩, List.mem_of_getElem? (i := 239) (by decide +kernel), List.mem_of_getElem? (i := 767) (by decide +kernel), List.mem_of_getElem? (i := 768) (by decide +kernel)⟩
theorem lw_p20 : lw_okq (⟨"CellEngine$Equality", "leader", "(I)I"⟩, 4) := ⟨⟨by decide +kernel, by decide +kernel⟩, List.mem_of_getElem? (i := 239) (by decide +kernel), List.mem_of_getElem? (i := 773) (by decide +kernel), List.mem_of_getElem? (i := 774) (by decide +kernel)⟩
theorem lw_p21 : lw_okq (⟨"CellEngine$Equality", "addPair", "(II)V"⟩, 4) := ⟨⟨by decide +kernel, by decide +kernel⟩, List.mem_of_getElem? (i := 239) (by decide +kernel), List.mem_of_getElem? (i := 778) (by decide +kernel), List.mem_of_getElem? (i := 779) (by decide +kernel)⟩
theorem lw_p22 : lw_okq (⟨"CellEngine$Equality", "joinParts", "(II)Z"⟩, 4) := ⟨⟨by decide +kernel, by decide +kernel⟩, List.mem_of_getElem? (i := 239) (by decide +kernel), List.mem_of_getElem? (i := 784) (by decide +kernel), List.mem_of_getElem? (i := 785) (by decide +kernel)⟩
theorem lw_p23 : lw_okq (⟨"CellEngine$Machine", "primitiveFits", "(I)Z"⟩, 15) := ⟨⟨by decide +kernel, by decide +kernel⟩, List.mem_of_getElem? (i := 214) (by decide +kernel), List.mem_of_getElem? (i := 791) (by decide +kernel), List.mem_of_getElem? (i := 792) (by decide +kernel)⟩
theorem lw_p24 : lw_okq (⟨"CellEngine$Strings", "concatenate", "()I"⟩, 3) := ⟨⟨by decide +kernel, by decide +kernel⟩, List.mem_of_getElem? (i := 268) (by decide +kernel), List.mem_of_getElem? (i := 827) (by decide +kernel), List.mem_of_getElem? (i := 828) (by decide +kernel)⟩
theorem lw_p25 : lw_okq (⟨"CellEngine$Strings", "copyBytes", "(IIIII)V"⟩, 3) := ⟨⟨by decide +kernel, by decide +kernel⟩, List.mem_of_getElem? (i := 268) (by decide +kernel), List.mem_of_getElem? (i := 838) (by decide +kernel), List.mem_of_getElem? (i := 839) (by decide +kernel)⟩
theorem lw_p26 : lw_okq (⟨"CellEngine$Strings", "single", "()I"⟩, 3) := ⟨⟨by decide +kernel, by decide +kernel⟩, List.mem_of_getElem? (i := 268) (by decide +kernel), List.mem_of_getElem? (i := 850) (by decide +kernel), List.mem_of_getElem? (i := 851) (by decide +kernel)⟩
theorem lw_p27 : lw_okq (⟨"CellEngine$Strings", "substring", "()I"⟩, 3) := ⟨⟨by decide +kernel, by decide +kernel⟩, List.mem_of_getElem? (i := 268) (by decide +kernel), List.mem_of_getElem? (i := 858) (by decide +kernel), List.mem_of_getElem? (i := 859) (by decide +kernel)⟩
theorem lw_p28 : lw_okq (⟨"CellEngine$Strings", "element", "()I"⟩, 3) := ⟨⟨by decide +kernel, by decide +kernel⟩, List.mem_of_getElem? (i := 268) (by decide +kernel), List.mem_of_getElem? (i := 862) (by decide +kernel), List.mem_of_getElem? (i := 863) (by decide +kernel)⟩
theorem lw_p29 : lw_okq (⟨"CellEngine$Strings", "order", "()I"⟩, 3) := ⟨⟨by decide +kernel, by decide +kernel⟩, List.mem_of_getElem? (i := 268) (by decide +kernel), List.mem_of_getElem? (i := 866) (by decide +kernel), List.mem_of_getElem? (i := 867) (by decide +kernel)⟩
theorem lw_p30 : lw_okq (⟨"CellEngine$Strings", "print", "()I"⟩, 3) := ⟨⟨by decide +kernel, by decide +kernel⟩, List.mem_of_getElem? (i := 268) (by decide +kernel), List.mem_of_getElem? (i := 872) (by decide +kernel), List.mem_of_getElem? (i := 873) (by decide +kernel)⟩
theorem lw_p31 : lw_okq (⟨"CellEngine$Strings", "decimal", "()I"⟩, 3) := ⟨⟨by decide +kernel, by decide +kernel⟩, List.mem_of_getElem? (i := 268) (by decide +kernel), List.mem_of_getElem? (i := 888) (by decide +kernel), List.mem_of_getElem? (i := 889) (by decide +kernel)⟩
def lw_privs_2 : List (MethodName × Nat) := [(⟨"CellEngine$Machine", "unhandle", "()I"⟩, 15), (⟨"CellEngine$Machine", "raiseTop", "()I"⟩, 15), (⟨"CellEngine$Machine", "raise", "(JI)I"⟩, 15), (⟨"CellEngine$Equality", "join", "(JJ)Z"⟩, 4), (⟨"CellEngine$Equality", "leader", "(I)I"⟩, 4), (⟨"CellEngine$Equality", "addPair", "(II)V"⟩, 4), (⟨"CellEngine$Equality", "joinParts", "(II)Z"⟩, 4), (⟨"CellEngine$Machine", "primitiveFits", "(I)Z"⟩, 15), (⟨"CellEngine$Strings", "concatenate", "()I"⟩, 3), (⟨"CellEngine$Strings", "copyBytes", "(IIIII)V"⟩, 3), (⟨"CellEngine$Strings", "single", "()I"⟩, 3), (⟨"CellEngine$Strings", "substring", "()I"⟩, 3), (⟨"CellEngine$Strings", "element", "()I"⟩, 3), (⟨"CellEngine$Strings", "order", "()I"⟩, 3), (⟨"CellEngine$Strings", "print", "()I"⟩, 3), (⟨"CellEngine$Strings", "decimal", "()I"⟩, 3)]
theorem lw_r2 : ∀ q ∈ lw_privs_2, lw_okq q := List.forall_mem_cons.mpr ⟨lw_p16, List.forall_mem_cons.mpr ⟨lw_p17, List.forall_mem_cons.mpr ⟨lw_p18, List.forall_mem_cons.mpr ⟨lw_p19, List.forall_mem_cons.mpr ⟨lw_p20, List.forall_mem_cons.mpr ⟨lw_p21, List.forall_mem_cons.mpr ⟨lw_p22, List.forall_mem_cons.mpr ⟨lw_p23, List.forall_mem_cons.mpr ⟨lw_p24, List.forall_mem_cons.mpr ⟨lw_p25, List.forall_mem_cons.mpr ⟨lw_p26, List.forall_mem_cons.mpr ⟨lw_p27, List.forall_mem_cons.mpr ⟨lw_p28, List.forall_mem_cons.mpr ⟨lw_p29, List.forall_mem_cons.mpr ⟨lw_p30, List.forall_mem_cons.mpr ⟨lw_p31, fun _ h => absurd h List.not_mem_nil⟩⟩⟩⟩⟩⟩⟩⟩⟩⟩⟩⟩⟩⟩⟩⟩
theorem lw_p32 : lw_okq (⟨"CellEngine$Strings", "implode", "()I"⟩, 3) := ⟨⟨by decide +kernel, by decide +kernel⟩, List.mem_of_getElem? (i := 268) (by decide +kernel), List.mem_of_getElem? (i := 893) (by decide +kernel), List.mem_of_getElem? (i := 894) (by decide +kernel)⟩
theorem lw_p33 : lw_okq (⟨"CellEngine$Strings", "listLength", "(J)I"⟩, 3) := ⟨⟨by decide +kernel, by decide +kernel⟩, List.mem_of_getElem? (i := 268) (by decide +kernel), List.mem_of_getElem? (i := 897) (by decide +kernel), List.mem_of_getElem? (i := 898) (by decide +kernel)⟩
theorem lw_p34 : lw_okq (⟨"CellEngine$Strings", "explode", "()I"⟩, 3) := ⟨⟨by decide +kernel, by decide +kernel⟩, List.mem_of_getElem? (i := 268) (by decide +kernel), List.mem_of_getElem? (i := 904) (by decide +kernel), List.mem_of_getElem? (i := 905) (by decide +kernel)⟩
theorem lw_p35 : lw_okq (⟨"CellEngine$Machine", "settle", "(II)I"⟩, 15) := ⟨⟨by decide +kernel, by decide +kernel⟩, List.mem_of_getElem? (i := 214) (by decide +kernel), List.mem_of_getElem? (i := 910) (by decide +kernel), List.mem_of_getElem? (i := 911) (by decide +kernel)⟩
theorem lw_p36 : lw_okq (⟨"CellEngine$Machine", "tick", "()I"⟩, 15) := ⟨⟨by decide +kernel, by decide +kernel⟩, List.mem_of_getElem? (i := 214) (by decide +kernel), List.mem_of_getElem? (i := 914) (by decide +kernel), List.mem_of_getElem? (i := 915) (by decide +kernel)⟩
theorem lw_p37 : lw_okq (⟨"CellEngine$Machine", "make", "(I)I"⟩, 15) := ⟨⟨by decide +kernel, by decide +kernel⟩, List.mem_of_getElem? (i := 214) (by decide +kernel), List.mem_of_getElem? (i := 918) (by decide +kernel), List.mem_of_getElem? (i := 919) (by decide +kernel)⟩
theorem lw_p38 : lw_okq (⟨"CellEngine$Machine", "deepen", "(I)I"⟩, 15) := ⟨⟨by decide +kernel, by decide +kernel⟩, List.mem_of_getElem? (i := 214) (by decide +kernel), List.mem_of_getElem? (i := 926) (by decide +kernel), List.mem_of_getElem? (i := 927) (by decide +kernel)⟩
theorem lw_p39 : lw_okq (⟨"CellEngineModel", "isOn", "()Z"⟩, 54) := ⟨⟨by decide +kernel, by decide +kernel⟩, List.mem_of_getElem? (i := 1008) (by decide +kernel), List.mem_of_getElem? (i := 1191) (by decide +kernel), List.mem_of_getElem? (i := 1192) (by decide +kernel)⟩
theorem lw_p40 : lw_okq (⟨"CellEngineModel", "instruction", "()I"⟩, 54) := ⟨⟨by decide +kernel, by decide +kernel⟩, List.mem_of_getElem? (i := 1008) (by decide +kernel), List.mem_of_getElem? (i := 1213) (by decide +kernel), List.mem_of_getElem? (i := 1214) (by decide +kernel)⟩
theorem lw_p41 : lw_okq (⟨"CellEngineModel", "words", "()I"⟩, 54) := ⟨⟨by decide +kernel, by decide +kernel⟩, List.mem_of_getElem? (i := 1008) (by decide +kernel), List.mem_of_getElem? (i := 1217) (by decide +kernel), List.mem_of_getElem? (i := 1218) (by decide +kernel)⟩
theorem lw_p42 : lw_okq (⟨"CellEngineModel", "word", "(I)I"⟩, 54) := ⟨⟨by decide +kernel, by decide +kernel⟩, List.mem_of_getElem? (i := 1008) (by decide +kernel), List.mem_of_getElem? (i := 1222) (by decide +kernel), List.mem_of_getElem? (i := 1223) (by decide +kernel)⟩
theorem lw_p43 : lw_okq (⟨"CellEngineModel", "height", "()I"⟩, 54) := ⟨⟨by decide +kernel, by decide +kernel⟩, List.mem_of_getElem? (i := 1008) (by decide +kernel), List.mem_of_getElem? (i := 1226) (by decide +kernel), List.mem_of_getElem? (i := 1227) (by decide +kernel)⟩
theorem lw_p44 : lw_okq (⟨"CellEngineModel", "more", "(II)I"⟩, 54) := ⟨⟨by decide +kernel, by decide +kernel⟩, List.mem_of_getElem? (i := 1008) (by decide +kernel), List.mem_of_getElem? (i := 1233) (by decide +kernel), List.mem_of_getElem? (i := 1234) (by decide +kernel)⟩
theorem lw_p45 : lw_okq (⟨"CellEngineModel", "give", "(III)I"⟩, 54) := ⟨⟨by decide +kernel, by decide +kernel⟩, List.mem_of_getElem? (i := 1008) (by decide +kernel), List.mem_of_getElem? (i := 1237) (by decide +kernel), List.mem_of_getElem? (i := 1238) (by decide +kernel)⟩
theorem lw_p46 : lw_okq (⟨"CellEngineModel", "next", "(II)I"⟩, 54) := ⟨⟨by decide +kernel, by decide +kernel⟩, List.mem_of_getElem? (i := 1008) (by decide +kernel), List.mem_of_getElem? (i := 1241) (by decide +kernel), List.mem_of_getElem? (i := 1242) (by decide +kernel)⟩
theorem lw_p47 : lw_okq (⟨"CellEngineModel", "text", "(I)I"⟩, 54) := ⟨⟨by decide +kernel, by decide +kernel⟩, List.mem_of_getElem? (i := 1008) (by decide +kernel), List.mem_of_getElem? (i := 1245) (by decide +kernel), List.mem_of_getElem? (i := 1246) (by decide +kernel)⟩
def lw_privs_3 : List (MethodName × Nat) := [(⟨"CellEngine$Strings", "implode", "()I"⟩, 3), (⟨"CellEngine$Strings", "listLength", "(J)I"⟩, 3), (⟨"CellEngine$Strings", "explode", "()I"⟩, 3), (⟨"CellEngine$Machine", "settle", "(II)I"⟩, 15), (⟨"CellEngine$Machine", "tick", "()I"⟩, 15), (⟨"CellEngine$Machine", "make", "(I)I"⟩, 15), (⟨"CellEngine$Machine", "deepen", "(I)I"⟩, 15), (⟨"CellEngineModel", "isOn", "()Z"⟩, 54), (⟨"CellEngineModel", "instruction", "()I"⟩, 54), (⟨"CellEngineModel", "words", "()I"⟩, 54), (⟨"CellEngineModel", "word", "(I)I"⟩, 54), (⟨"CellEngineModel", "height", "()I"⟩, 54), (⟨"CellEngineModel", "more", "(II)I"⟩, 54), (⟨"CellEngineModel", "give", "(III)I"⟩, 54), (⟨"CellEngineModel", "next", "(II)I"⟩, 54), (⟨"CellEngineModel", "text", "(I)I"⟩, 54)]
theorem lw_r3 : ∀ q ∈ lw_privs_3, lw_okq q := List.forall_mem_cons.mpr ⟨lw_p32, List.forall_mem_cons.mpr ⟨lw_p33, List.forall_mem_cons.mpr ⟨lw_p34, List.forall_mem_cons.mpr ⟨lw_p35, List.forall_mem_cons.mpr ⟨lw_p36, List.forall_mem_cons.mpr ⟨lw_p37, List.forall_mem_cons.mpr ⟨lw_p38, List.forall_mem_cons.mpr ⟨lw_p39, List.forall_mem_cons.mpr ⟨lw_p40, List.forall_mem_cons.mpr ⟨lw_p41, List.forall_mem_cons.mpr ⟨lw_p42, List.forall_mem_cons.mpr ⟨lw_p43, List.forall_mem_cons.mpr ⟨lw_p44, List.forall_mem_cons.mpr ⟨lw_p45, List.forall_mem_cons.mpr ⟨lw_p46, List.forall_mem_cons.mpr ⟨lw_p47, fun _ h => absurd h List.not_mem_nil⟩⟩⟩⟩⟩⟩⟩⟩⟩⟩⟩⟩⟩⟩⟩⟩
theorem lw_p48 : lw_okq (⟨"CellEngineModel", "hasRoom", "(I)Z"⟩, 54) := ⟨⟨by decide +kernel, by decide +kernel⟩, List.mem_of_getElem? (i := 1008) (by decide +kernel), List.mem_of_getElem? (i := 1249) (by decide +kernel), List.mem_of_getElem? (i := 1250) (by decide +kernel)⟩
theorem lw_p49 : lw_okq (⟨"CellEngineModel", "markGlobals", "()V"⟩, 54) := ⟨⟨by decide +kernel, by decide +kernel⟩, List.mem_of_getElem? (i := 1008) (by decide +kernel), List.mem_of_getElem? (i := 1253) (by decide +kernel), List.mem_of_getElem? (i := 1254) (by decide +kernel)⟩
theorem lw_p50 : lw_okq (⟨"CellEngineModel", "mark", "(II)V"⟩, 54) := ⟨⟨by decide +kernel, by decide +kernel⟩, List.mem_of_getElem? (i := 1008) (by decide +kernel), List.mem_of_getElem? (i := 1257) (by decide +kernel), List.mem_of_getElem? (i := 1258) (by decide +kernel)⟩
theorem lw_p51 : lw_okq (⟨"CellEngineModel", "sizeAt", "(I)I"⟩, 54) := ⟨⟨by decide +kernel, by decide +kernel⟩, List.mem_of_getElem? (i := 1008) (by decide +kernel), List.mem_of_getElem? (i := 1261) (by decide +kernel), List.mem_of_getElem? (i := 1262) (by decide +kernel)⟩
theorem lw_p52 : lw_okq (⟨"CellEngineModel", "kindAt", "(I)I"⟩, 54) := ⟨⟨by decide +kernel, by decide +kernel⟩, List.mem_of_getElem? (i := 1008) (by decide +kernel), List.mem_of_getElem? (i := 1265) (by decide +kernel), List.mem_of_getElem? (i := 1266) (by decide +kernel)⟩
theorem lw_p53 : lw_okq (⟨"CellEngineModel", "partsAt", "(I)I"⟩, 54) := ⟨⟨by decide +kernel, by decide +kernel⟩, List.mem_of_getElem? (i := 1008) (by decide +kernel), List.mem_of_getElem? (i := 1269) (by decide +kernel), List.mem_of_getElem? (i := 1270) (by decide +kernel)⟩
theorem lw_p54 : lw_okq (⟨"CellEngineModel", "markAll", "()V"⟩, 54) := ⟨⟨by decide +kernel, by decide +kernel⟩, List.mem_of_getElem? (i := 1008) (by decide +kernel), List.mem_of_getElem? (i := 1273) (by decide +kernel), List.mem_of_getElem? (i := 1274) (by decide +kernel)⟩
theorem lw_p55 : lw_okq (⟨"CellEngineModel", "markRun", "()V"⟩, 54) := ⟨⟨by decide +kernel, by decide +kernel⟩, List.mem_of_getElem? (i := 1008) (by decide +kernel), List.mem_of_getElem? (i := 1277) (by decide +kernel), List.mem_of_getElem? (i := 1278) (by decide +kernel)⟩
theorem lw_p56 : lw_okq (⟨"CellEngineModel", "slide", "()V"⟩, 54) := ⟨⟨by decide +kernel, by decide +kernel⟩, List.mem_of_getElem? (i := 1008) (by decide +kernel), List.mem_of_getElem? (i := 1281) (by decide +kernel), List.mem_of_getElem? (i := 1282) (by decide +kernel)⟩
theorem lw_p57 : lw_okq (⟨"CellEngineModel", "settle", "()I"⟩, 54) := ⟨⟨by decide +kernel, by decide +kernel⟩, List.mem_of_getElem? (i := 1008) (by decide +kernel), List.mem_of_getElem? (i := 1285) (by decide +kernel), List.mem_of_getElem? (i := 1286) (by decide +kernel)⟩
theorem lw_p58 : lw_okq (⟨"CellEngineModel", "string", "(I)I"⟩, 54) := ⟨⟨by decide +kernel, by decide +kernel⟩, List.mem_of_getElem? (i := 1008) (by decide +kernel), List.mem_of_getElem? (i := 1289) (by decide +kernel), List.mem_of_getElem? (i := 1290) (by decide +kernel)⟩
theorem lw_p59 : lw_okq (⟨"CellEngineModel", "make", "(IIII)I"⟩, 54) := ⟨⟨by decide +kernel, by decide +kernel⟩, List.mem_of_getElem? (i := 1008) (by decide +kernel), List.mem_of_getElem? (i := 1293) (by decide +kernel), List.mem_of_getElem? (i := 1294) (by decide +kernel)⟩
theorem lw_p60 : lw_okq (⟨"CellEngineModel", "setByte", "(III)V"⟩, 54) := ⟨⟨by decide +kernel, by decide +kernel⟩, List.mem_of_getElem? (i := 1008) (by decide +kernel), List.mem_of_getElem? (i := 1297) (by decide +kernel), List.mem_of_getElem? (i := 1298) (by decide +kernel)⟩
theorem lw_p61 : lw_okq (⟨"CellEngineModel", "store", "(I)I"⟩, 54) := ⟨⟨by decide +kernel, by decide +kernel⟩, List.mem_of_getElem? (i := 1008) (by decide +kernel), List.mem_of_getElem? (i := 1301) (by decide +kernel), List.mem_of_getElem? (i := 1302) (by decide +kernel)⟩
theorem lw_p62 : lw_okq (⟨"CellEngineModel", "free", "(I)I"⟩, 54) := ⟨⟨by decide +kernel, by decide +kernel⟩, List.mem_of_getElem? (i := 1008) (by decide +kernel), List.mem_of_getElem? (i := 1305) (by decide +kernel), List.mem_of_getElem? (i := 1306) (by decide +kernel)⟩
theorem lw_p63 : lw_okq (⟨"CellEngineModel", "setGlobal", "(I)I"⟩, 54) := ⟨⟨by decide +kernel, by decide +kernel⟩, List.mem_of_getElem? (i := 1008) (by decide +kernel), List.mem_of_getElem? (i := 1309) (by decide +kernel), List.mem_of_getElem? (i := 1310) (by decide +kernel)⟩
def lw_privs_4 : List (MethodName × Nat) := [(⟨"CellEngineModel", "hasRoom", "(I)Z"⟩, 54), (⟨"CellEngineModel", "markGlobals", "()V"⟩, 54), (⟨"CellEngineModel", "mark", "(II)V"⟩, 54), (⟨"CellEngineModel", "sizeAt", "(I)I"⟩, 54), (⟨"CellEngineModel", "kindAt", "(I)I"⟩, 54), (⟨"CellEngineModel", "partsAt", "(I)I"⟩, 54), (⟨"CellEngineModel", "markAll", "()V"⟩, 54), (⟨"CellEngineModel", "markRun", "()V"⟩, 54), (⟨"CellEngineModel", "slide", "()V"⟩, 54), (⟨"CellEngineModel", "settle", "()I"⟩, 54), (⟨"CellEngineModel", "string", "(I)I"⟩, 54), (⟨"CellEngineModel", "make", "(IIII)I"⟩, 54), (⟨"CellEngineModel", "setByte", "(III)V"⟩, 54), (⟨"CellEngineModel", "store", "(I)I"⟩, 54), (⟨"CellEngineModel", "free", "(I)I"⟩, 54), (⟨"CellEngineModel", "setGlobal", "(I)I"⟩, 54)]
theorem lw_r4 : ∀ q ∈ lw_privs_4, lw_okq q := List.forall_mem_cons.mpr ⟨lw_p48, List.forall_mem_cons.mpr ⟨lw_p49, List.forall_mem_cons.mpr ⟨lw_p50, List.forall_mem_cons.mpr ⟨lw_p51, List.forall_mem_cons.mpr ⟨lw_p52, List.forall_mem_cons.mpr ⟨lw_p53, List.forall_mem_cons.mpr ⟨lw_p54, List.forall_mem_cons.mpr ⟨lw_p55, List.forall_mem_cons.mpr ⟨lw_p56, List.forall_mem_cons.mpr ⟨lw_p57, List.forall_mem_cons.mpr ⟨lw_p58, List.forall_mem_cons.mpr ⟨lw_p59, List.forall_mem_cons.mpr ⟨lw_p60, List.forall_mem_cons.mpr ⟨lw_p61, List.forall_mem_cons.mpr ⟨lw_p62, List.forall_mem_cons.mpr ⟨lw_p63, fun _ h => absurd h List.not_mem_nil⟩⟩⟩⟩⟩⟩⟩⟩⟩⟩⟩⟩⟩⟩⟩⟩
theorem lw_p64 : lw_okq (⟨"CellEngineModel", "gather", "(III)I"⟩, 54) := ⟨⟨by decide +kernel, by decide +kernel⟩, List.mem_of_getElem? (i := 1008) (by decide +kernel), List.mem_of_getElem? (i := 1313) (by decide +kernel), List.mem_of_getElem? (i := 1314) (by decide +kernel)⟩
theorem lw_p65 : lw_okq (⟨"CellEngineModel", "is", "(II)Z"⟩, 54) := ⟨⟨by decide +kernel, by decide +kernel⟩, List.mem_of_getElem? (i := 1008) (by decide +kernel), List.mem_of_getElem? (i := 1317) (by decide +kernel), List.mem_of_getElem? (i := 1318) (by decide +kernel)⟩
theorem lw_p66 : lw_okq (⟨"CellEngineModel", "scalar", "(I)I"⟩, 54) := ⟨⟨by decide +kernel, by decide +kernel⟩, List.mem_of_getElem? (i := 1008) (by decide +kernel), List.mem_of_getElem? (i := 1321) (by decide +kernel), List.mem_of_getElem? (i := 1322) (by decide +kernel)⟩
theorem lw_p67 : lw_okq (⟨"CellEngineModel", "part", "(I)I"⟩, 54) := ⟨⟨by decide +kernel, by decide +kernel⟩, List.mem_of_getElem? (i := 1008) (by decide +kernel), List.mem_of_getElem? (i := 1325) (by decide +kernel), List.mem_of_getElem? (i := 1326) (by decide +kernel)⟩
theorem lw_p68 : lw_okq (⟨"CellEngineModel", "isScalar", "(I)Z"⟩, 54) := ⟨⟨by decide +kernel, by decide +kernel⟩, List.mem_of_getElem? (i := 1008) (by decide +kernel), List.mem_of_getElem? (i := 1329) (by decide +kernel), List.mem_of_getElem? (i := 1330) (by decide +kernel)⟩
theorem lw_p69 : lw_okq (⟨"CellEngineModel", "patch", "(I)I"⟩, 54) := ⟨⟨by decide +kernel, by decide +kernel⟩, List.mem_of_getElem? (i := 1008) (by decide +kernel), List.mem_of_getElem? (i := 1333) (by decide +kernel), List.mem_of_getElem? (i := 1334) (by decide +kernel)⟩
theorem lw_p70 : lw_okq (⟨"CellEngineModel", "call", "()I"⟩, 54) := ⟨⟨by decide +kernel, by decide +kernel⟩, List.mem_of_getElem? (i := 1008) (by decide +kernel), List.mem_of_getElem? (i := 1337) (by decide +kernel), List.mem_of_getElem? (i := 1338) (by decide +kernel)⟩
theorem lw_p71 : lw_okq (⟨"CellEngineModel", "tail", "()I"⟩, 54) := ⟨⟨by decide +kernel, by decide +kernel⟩, List.mem_of_getElem? (i := 1008) (by decide +kernel), List.mem_of_getElem? (i := 1341) (by decide +kernel), List.mem_of_getElem? (i := 1342) (by decide +kernel)⟩
theorem lw_p72 : lw_okq (⟨"CellEngineModel", "hasHandlers", "()Z"⟩, 54) := ⟨⟨by decide +kernel, by decide +kernel⟩, List.mem_of_getElem? (i := 1008) (by decide +kernel), List.mem_of_getElem? (i := 1345) (by decide +kernel), List.mem_of_getElem? (i := 1346) (by decide +kernel)⟩
theorem lw_p73 : lw_okq (⟨"CellEngineModel", "back", "()I"⟩, 54) := ⟨⟨by decide +kernel, by decide +kernel⟩, List.mem_of_getElem? (i := 1008) (by decide +kernel), List.mem_of_getElem? (i := 1349) (by decide +kernel), List.mem_of_getElem? (i := 1350) (by decide +kernel)⟩
theorem lw_p74 : lw_okq (⟨"CellEngineModel", "branch", "(II)I"⟩, 54) := ⟨⟨by decide +kernel, by decide +kernel⟩, List.mem_of_getElem? (i := 1008) (by decide +kernel), List.mem_of_getElem? (i := 1353) (by decide +kernel), List.mem_of_getElem? (i := 1354) (by decide +kernel)⟩
theorem lw_p75 : lw_okq (⟨"CellEngineModel", "assign", "()I"⟩, 54) := ⟨⟨by decide +kernel, by decide +kernel⟩, List.mem_of_getElem? (i := 1008) (by decide +kernel), List.mem_of_getElem? (i := 1357) (by decide +kernel), List.mem_of_getElem? (i := 1358) (by decide +kernel)⟩
theorem lw_p76 : lw_okq (⟨"CellEngineModel", "others", "(III)I"⟩, 54) := ⟨⟨by decide +kernel, by decide +kernel⟩, List.mem_of_getElem? (i := 1008) (by decide +kernel), List.mem_of_getElem? (i := 1361) (by decide +kernel), List.mem_of_getElem? (i := 1362) (by decide +kernel)⟩
theorem lw_p77 : lw_okq (⟨"CellEngineModel", "handle", "(I)I"⟩, 54) := ⟨⟨by decide +kernel, by decide +kernel⟩, List.mem_of_getElem? (i := 1008) (by decide +kernel), List.mem_of_getElem? (i := 1365) (by decide +kernel), List.mem_of_getElem? (i := 1366) (by decide +kernel)⟩
theorem lw_p78 : lw_okq (⟨"CellEngineModel", "isName", "(I)Z"⟩, 54) := ⟨⟨by decide +kernel, by decide +kernel⟩, List.mem_of_getElem? (i := 1008) (by decide +kernel), List.mem_of_getElem? (i := 1369) (by decide +kernel), List.mem_of_getElem? (i := 1370) (by decide +kernel)⟩
theorem lw_p79 : lw_okq (⟨"CellEngineModel", "raise", "(IIII)I"⟩, 54) := ⟨⟨by decide +kernel, by decide +kernel⟩, List.mem_of_getElem? (i := 1008) (by decide +kernel), List.mem_of_getElem? (i := 1373) (by decide +kernel), List.mem_of_getElem? (i := 1374) (by decide +kernel)⟩
def lw_privs_5 : List (MethodName × Nat) := [(⟨"CellEngineModel", "gather", "(III)I"⟩, 54), (⟨"CellEngineModel", "is", "(II)Z"⟩, 54), (⟨"CellEngineModel", "scalar", "(I)I"⟩, 54), (⟨"CellEngineModel", "part", "(I)I"⟩, 54), (⟨"CellEngineModel", "isScalar", "(I)Z"⟩, 54), (⟨"CellEngineModel", "patch", "(I)I"⟩, 54), (⟨"CellEngineModel", "call", "()I"⟩, 54), (⟨"CellEngineModel", "tail", "()I"⟩, 54), (⟨"CellEngineModel", "hasHandlers", "()Z"⟩, 54), (⟨"CellEngineModel", "back", "()I"⟩, 54), (⟨"CellEngineModel", "branch", "(II)I"⟩, 54), (⟨"CellEngineModel", "assign", "()I"⟩, 54), (⟨"CellEngineModel", "others", "(III)I"⟩, 54), (⟨"CellEngineModel", "handle", "(I)I"⟩, 54), (⟨"CellEngineModel", "isName", "(I)Z"⟩, 54), (⟨"CellEngineModel", "raise", "(IIII)I"⟩, 54)]
theorem lw_r5 : ∀ q ∈ lw_privs_5, lw_okq q := List.forall_mem_cons.mpr ⟨lw_p64, List.forall_mem_cons.mpr ⟨lw_p65, List.forall_mem_cons.mpr ⟨lw_p66, List.forall_mem_cons.mpr ⟨lw_p67, List.forall_mem_cons.mpr ⟨lw_p68, List.forall_mem_cons.mpr ⟨lw_p69, List.forall_mem_cons.mpr ⟨lw_p70, List.forall_mem_cons.mpr ⟨lw_p71, List.forall_mem_cons.mpr ⟨lw_p72, List.forall_mem_cons.mpr ⟨lw_p73, List.forall_mem_cons.mpr ⟨lw_p74, List.forall_mem_cons.mpr ⟨lw_p75, List.forall_mem_cons.mpr ⟨lw_p76, List.forall_mem_cons.mpr ⟨lw_p77, List.forall_mem_cons.mpr ⟨lw_p78, List.forall_mem_cons.mpr ⟨lw_p79, fun _ h => absurd h List.not_mem_nil⟩⟩⟩⟩⟩⟩⟩⟩⟩⟩⟩⟩⟩⟩⟩⟩
theorem lw_p80 : lw_okq (⟨"CellEngineModel", "name", "(I)I"⟩, 54) := ⟨⟨by decide +kernel, by decide +kernel⟩, List.mem_of_getElem? (i := 1008) (by decide +kernel), List.mem_of_getElem? (i := 1377) (by decide +kernel), List.mem_of_getElem? (i := 1378) (by decide +kernel)⟩
theorem lw_p81 : lw_okq (⟨"CellEngineModel", "packet", "()I"⟩, 54) := ⟨⟨by decide +kernel, by decide +kernel⟩, List.mem_of_getElem? (i := 1008) (by decide +kernel), List.mem_of_getElem? (i := 1382) (by decide +kernel), List.mem_of_getElem? (i := 1383) (by decide +kernel)⟩
theorem lw_p82 : lw_okq (⟨"CellEngineModel", "isSame", "(II)Z"⟩, 54) := ⟨⟨by decide +kernel, by decide +kernel⟩, List.mem_of_getElem? (i := 1008) (by decide +kernel), List.mem_of_getElem? (i := 1386) (by decide +kernel), List.mem_of_getElem? (i := 1387) (by decide +kernel)⟩
theorem lw_p83 : lw_okq (⟨"CellEngineModel", "isEqual", "()Z"⟩, 54) := ⟨⟨by decide +kernel, by decide +kernel⟩, List.mem_of_getElem? (i := 1008) (by decide +kernel), List.mem_of_getElem? (i := 1393) (by decide +kernel), List.mem_of_getElem? (i := 1394) (by decide +kernel)⟩
theorem lw_p84 : lw_okq (⟨"CellEngineModel", "meets", "(IIII)Z"⟩, 54) := ⟨⟨by decide +kernel, by decide +kernel⟩, List.mem_of_getElem? (i := 1008) (by decide +kernel), List.mem_of_getElem? (i := 1397) (by decide +kernel), List.mem_of_getElem? (i := 1398) (by decide +kernel)⟩
theorem lw_p85 : lw_okq (⟨"CellEngineModel", "compare", "(II)I"⟩, 54) := ⟨⟨by decide +kernel, by decide +kernel⟩, List.mem_of_getElem? (i := 1008) (by decide +kernel), List.mem_of_getElem? (i := 1401) (by decide +kernel), List.mem_of_getElem? (i := 1402) (by decide +kernel)⟩
theorem lw_p86 : lw_okq (⟨"CellEngineModel", "byteAt", "(II)I"⟩, 54) := ⟨⟨by decide +kernel, by decide +kernel⟩, List.mem_of_getElem? (i := 1008) (by decide +kernel), List.mem_of_getElem? (i := 1405) (by decide +kernel), List.mem_of_getElem? (i := 1406) (by decide +kernel)⟩
theorem lw_p87 : lw_okq (⟨"CellEngineModel", "leader", "(I)I"⟩, 54) := ⟨⟨by decide +kernel, by decide +kernel⟩, List.mem_of_getElem? (i := 1008) (by decide +kernel), List.mem_of_getElem? (i := 1409) (by decide +kernel), List.mem_of_getElem? (i := 1410) (by decide +kernel)⟩
theorem lw_p88 : lw_okq (⟨"CellEngineModel", "compareLater", "(III)V"⟩, 54) := ⟨⟨by decide +kernel, by decide +kernel⟩, List.mem_of_getElem? (i := 1008) (by decide +kernel), List.mem_of_getElem? (i := 1413) (by decide +kernel), List.mem_of_getElem? (i := 1414) (by decide +kernel)⟩
theorem lw_p89 : lw_okq (⟨"CellEngineModel", "primitive", "(I)I"⟩, 54) := ⟨⟨by decide +kernel, by decide +kernel⟩, List.mem_of_getElem? (i := 1008) (by decide +kernel), List.mem_of_getElem? (i := 1417) (by decide +kernel), List.mem_of_getElem? (i := 1418) (by decide +kernel)⟩
theorem lw_p90 : lw_okq (⟨"CellEngineModel", "numbers", "(IZ)I"⟩, 54) := ⟨⟨by decide +kernel, by decide +kernel⟩, List.mem_of_getElem? (i := 1008) (by decide +kernel), List.mem_of_getElem? (i := 1421) (by decide +kernel), List.mem_of_getElem? (i := 1422) (by decide +kernel)⟩
theorem lw_p91 : lw_okq (⟨"CellEngineModel", "raiseGlobal", "(II)I"⟩, 54) := ⟨⟨by decide +kernel, by decide +kernel⟩, List.mem_of_getElem? (i := 1008) (by decide +kernel), List.mem_of_getElem? (i := 1425) (by decide +kernel), List.mem_of_getElem? (i := 1426) (by decide +kernel)⟩
theorem lw_p92 : lw_okq (⟨"CellEngineModel", "divide", "(III)I"⟩, 54) := ⟨⟨by decide +kernel, by decide +kernel⟩, List.mem_of_getElem? (i := 1008) (by decide +kernel), List.mem_of_getElem? (i := 1429) (by decide +kernel), List.mem_of_getElem? (i := 1430) (by decide +kernel)⟩
theorem lw_p93 : lw_okq (⟨"CellEngineModel", "oneByte", "(I)I"⟩, 54) := ⟨⟨by decide +kernel, by decide +kernel⟩, List.mem_of_getElem? (i := 1008) (by decide +kernel), List.mem_of_getElem? (i := 1434) (by decide +kernel), List.mem_of_getElem? (i := 1435) (by decide +kernel)⟩
theorem lw_p94 : lw_okq (⟨"CellEngineModel", "makes", "(I)Z"⟩, 54) := ⟨⟨by decide +kernel, by decide +kernel⟩, List.mem_of_getElem? (i := 1008) (by decide +kernel), List.mem_of_getElem? (i := 1438) (by decide +kernel), List.mem_of_getElem? (i := 1439) (by decide +kernel)⟩
theorem lw_p95 : lw_okq (⟨"CellEngineModel", "decimal", "(I)I"⟩, 54) := ⟨⟨by decide +kernel, by decide +kernel⟩, List.mem_of_getElem? (i := 1008) (by decide +kernel), List.mem_of_getElem? (i := 1442) (by decide +kernel), List.mem_of_getElem? (i := 1443) (by decide +kernel)⟩
def lw_privs_6 : List (MethodName × Nat) := [(⟨"CellEngineModel", "name", "(I)I"⟩, 54), (⟨"CellEngineModel", "packet", "()I"⟩, 54), (⟨"CellEngineModel", "isSame", "(II)Z"⟩, 54), (⟨"CellEngineModel", "isEqual", "()Z"⟩, 54), (⟨"CellEngineModel", "meets", "(IIII)Z"⟩, 54), (⟨"CellEngineModel", "compare", "(II)I"⟩, 54), (⟨"CellEngineModel", "byteAt", "(II)I"⟩, 54), (⟨"CellEngineModel", "leader", "(I)I"⟩, 54), (⟨"CellEngineModel", "compareLater", "(III)V"⟩, 54), (⟨"CellEngineModel", "primitive", "(I)I"⟩, 54), (⟨"CellEngineModel", "numbers", "(IZ)I"⟩, 54), (⟨"CellEngineModel", "raiseGlobal", "(II)I"⟩, 54), (⟨"CellEngineModel", "divide", "(III)I"⟩, 54), (⟨"CellEngineModel", "oneByte", "(I)I"⟩, 54), (⟨"CellEngineModel", "makes", "(I)Z"⟩, 54), (⟨"CellEngineModel", "decimal", "(I)I"⟩, 54)]
theorem lw_r6 : ∀ q ∈ lw_privs_6, lw_okq q := List.forall_mem_cons.mpr ⟨lw_p80, List.forall_mem_cons.mpr ⟨lw_p81, List.forall_mem_cons.mpr ⟨lw_p82, List.forall_mem_cons.mpr ⟨lw_p83, List.forall_mem_cons.mpr ⟨lw_p84, List.forall_mem_cons.mpr ⟨lw_p85, List.forall_mem_cons.mpr ⟨lw_p86, List.forall_mem_cons.mpr ⟨lw_p87, List.forall_mem_cons.mpr ⟨lw_p88, List.forall_mem_cons.mpr ⟨lw_p89, List.forall_mem_cons.mpr ⟨lw_p90, List.forall_mem_cons.mpr ⟨lw_p91, List.forall_mem_cons.mpr ⟨lw_p92, List.forall_mem_cons.mpr ⟨lw_p93, List.forall_mem_cons.mpr ⟨lw_p94, List.forall_mem_cons.mpr ⟨lw_p95, fun _ h => absurd h List.not_mem_nil⟩⟩⟩⟩⟩⟩⟩⟩⟩⟩⟩⟩⟩⟩⟩⟩
theorem lw_p96 : lw_okq (⟨"CellEngineModel", "strings", "(I)I"⟩, 54) := ⟨⟨by decide +kernel, by decide +kernel⟩, List.mem_of_getElem? (i := 1008) (by decide +kernel), List.mem_of_getElem? (i := 1452) (by decide +kernel), List.mem_of_getElem? (i := 1453) (by decide +kernel)⟩
theorem lw_p97 : lw_okq (⟨"CellEngineModel", "join", "()I"⟩, 54) := ⟨⟨by decide +kernel, by decide +kernel⟩, List.mem_of_getElem? (i := 1008) (by decide +kernel), List.mem_of_getElem? (i := 1456) (by decide +kernel), List.mem_of_getElem? (i := 1457) (by decide +kernel)⟩
theorem lw_p98 : lw_okq (⟨"CellEngineModel", "slice", "()I"⟩, 54) := ⟨⟨by decide +kernel, by decide +kernel⟩, List.mem_of_getElem? (i := 1008) (by decide +kernel), List.mem_of_getElem? (i := 1460) (by decide +kernel), List.mem_of_getElem? (i := 1461) (by decide +kernel)⟩
theorem lw_p99 : lw_okq (⟨"CellEngineModel", "print", "()I"⟩, 54) := ⟨⟨by decide +kernel, by decide +kernel⟩, List.mem_of_getElem? (i := 1008) (by decide +kernel), List.mem_of_getElem? (i := 1464) (by decide +kernel), List.mem_of_getElem? (i := 1465) (by decide +kernel)⟩
theorem lw_p100 : lw_okq (⟨"CellEngineModel", "implode", "()I"⟩, 54) := ⟨⟨by decide +kernel, by decide +kernel⟩, List.mem_of_getElem? (i := 1008) (by decide +kernel), List.mem_of_getElem? (i := 1468) (by decide +kernel), List.mem_of_getElem? (i := 1469) (by decide +kernel)⟩
theorem lw_p101 : lw_okq (⟨"CellEngineModel", "isList", "(II)Z"⟩, 54) := ⟨⟨by decide +kernel, by decide +kernel⟩, List.mem_of_getElem? (i := 1008) (by decide +kernel), List.mem_of_getElem? (i := 1472) (by decide +kernel), List.mem_of_getElem? (i := 1473) (by decide +kernel)⟩
theorem lw_p102 : lw_okq (⟨"CellEngineModel", "explode", "()I"⟩, 54) := ⟨⟨by decide +kernel, by decide +kernel⟩, List.mem_of_getElem? (i := 1008) (by decide +kernel), List.mem_of_getElem? (i := 1476) (by decide +kernel), List.mem_of_getElem? (i := 1477) (by decide +kernel)⟩
theorem lw_p103 : lw_okq (⟨"CellEngineModel", "setLocals", "(I)I"⟩, 54) := ⟨⟨by decide +kernel, by decide +kernel⟩, List.mem_of_getElem? (i := 1008) (by decide +kernel), List.mem_of_getElem? (i := 1483) (by decide +kernel), List.mem_of_getElem? (i := 1484) (by decide +kernel)⟩
theorem lw_p104 : lw_okq (⟨"CellEngineModel", "swap", "()I"⟩, 54) := ⟨⟨by decide +kernel, by decide +kernel⟩, List.mem_of_getElem? (i := 1008) (by decide +kernel), List.mem_of_getElem? (i := 1487) (by decide +kernel), List.mem_of_getElem? (i := 1488) (by decide +kernel)⟩
theorem lw_p105 : lw_okq (⟨"CellEngineModel", "find", "(IJ)Z"⟩, 54) := ⟨⟨by decide +kernel, by decide +kernel⟩, List.mem_of_getElem? (i := 1008) (by decide +kernel), List.mem_of_getElem? (i := 1495) (by decide +kernel), List.mem_of_getElem? (i := 1496) (by decide +kernel)⟩
theorem lw_p106 : lw_okq (⟨"CellEngineModel", "unmark", "()V"⟩, 54) := ⟨⟨by decide +kernel, by decide +kernel⟩, List.mem_of_getElem? (i := 1008) (by decide +kernel), List.mem_of_getElem? (i := 1523) (by decide +kernel), List.mem_of_getElem? (i := 1524) (by decide +kernel)⟩
theorem lw_p107 : lw_okq (⟨"CellEngineModel", "forget", "()V"⟩, 54) := ⟨⟨by decide +kernel, by decide +kernel⟩, List.mem_of_getElem? (i := 1008) (by decide +kernel), List.mem_of_getElem? (i := 1531) (by decide +kernel), List.mem_of_getElem? (i := 1532) (by decide +kernel)⟩
def lw_privs_7 : List (MethodName × Nat) := [(⟨"CellEngineModel", "strings", "(I)I"⟩, 54), (⟨"CellEngineModel", "join", "()I"⟩, 54), (⟨"CellEngineModel", "slice", "()I"⟩, 54), (⟨"CellEngineModel", "print", "()I"⟩, 54), (⟨"CellEngineModel", "implode", "()I"⟩, 54), (⟨"CellEngineModel", "isList", "(II)Z"⟩, 54), (⟨"CellEngineModel", "explode", "()I"⟩, 54), (⟨"CellEngineModel", "setLocals", "(I)I"⟩, 54), (⟨"CellEngineModel", "swap", "()I"⟩, 54), (⟨"CellEngineModel", "find", "(IJ)Z"⟩, 54), (⟨"CellEngineModel", "unmark", "()V"⟩, 54), (⟨"CellEngineModel", "forget", "()V"⟩, 54)]
theorem lw_r7 : ∀ q ∈ lw_privs_7, lw_okq q := List.forall_mem_cons.mpr ⟨lw_p96, List.forall_mem_cons.mpr ⟨lw_p97, List.forall_mem_cons.mpr ⟨lw_p98, List.forall_mem_cons.mpr ⟨lw_p99, List.forall_mem_cons.mpr ⟨lw_p100, List.forall_mem_cons.mpr ⟨lw_p101, List.forall_mem_cons.mpr ⟨lw_p102, List.forall_mem_cons.mpr ⟨lw_p103, List.forall_mem_cons.mpr ⟨lw_p104, List.forall_mem_cons.mpr ⟨lw_p105, List.forall_mem_cons.mpr ⟨lw_p106, List.forall_mem_cons.mpr ⟨lw_p107, fun _ h => absurd h List.not_mem_nil⟩⟩⟩⟩⟩⟩⟩⟩⟩⟩⟩⟩
def lw_privs : List (MethodName × Nat) := lw_privs_1 ++ (lw_privs_2 ++ (lw_privs_3 ++ (lw_privs_4 ++ (lw_privs_5 ++ (lw_privs_6 ++ (lw_privs_7))))))
def lw_tbl : List Cond := k2_sels lw_privs ++ tables_1
theorem lw_privs_ok : ∀ q ∈ lw_privs, lw_okq q := by
  show ∀ q ∈ lw_privs_1 ++ (lw_privs_2 ++ (lw_privs_3 ++ (lw_privs_4 ++ (lw_privs_5 ++ (lw_privs_6 ++ (lw_privs_7)))))), lw_okq q
  exact List.forall_mem_append.mpr ⟨lw_r1, List.forall_mem_append.mpr ⟨lw_r2, List.forall_mem_append.mpr ⟨lw_r3, List.forall_mem_append.mpr ⟨lw_r4, List.forall_mem_append.mpr ⟨lw_r5, List.forall_mem_append.mpr ⟨lw_r6, lw_r7⟩⟩⟩⟩⟩⟩
end
section
/-! Rows for decompiled methods: m_TAG .. = some z is a run of the method, c_TAG its contract. -/
def dz_let {α β : Type} (e : α) (f : α → β) : β := f e
theorem dz_lt {α β : Type} {e : α} {f : α → Option β} {z : β} (h : dz_let e f = some z) : ∃ x, x = e ∧ f x = some z := ⟨e, rfl, h⟩
theorem dz_ob {α β : Type} {o : Option α} {f : α → Option β} {z : β} (h : o.bind f = some z) : ∃ r, o = some r ∧ f r = some z := by
  cases o with
  | none => cases h
  | some r => exact ⟨r, rfl, h⟩
theorem dz_oi {c : Prop} [Decidable c] {β : Type} {x : Option β} {z : β} (h : (if c then none else x) = some z) : ¬ c ∧ x = some z := by
  by_cases q : c
  · rw [if_pos q] at h; cases h
  · rw [if_neg q] at h; exact ⟨q, h⟩
def dz_tk {α : Type} (k n : Nat) (o : Option (α × Nat × Nat)) : Option (α × Nat × Nat) := o.map (fun z => (z.1, z.2.1 + k, z.2.2 + n))
theorem dz_tks {α : Type} {k n : Nat} {o : Option (α × Nat × Nat)} {z : α × Nat × Nat} (h : dz_tk k n o = some z) : ∃ z', o = some z' ∧ (z'.1, z'.2.1 + k, z'.2.2 + n) = z := by
  cases o with
  | none => cases h
  | some r => exact ⟨r, rfl, Option.some.inj h⟩
section DZ
variable {p : Program} {l : Launch} {e : Env} {R : Room} {s : State} {m : MethodId} {args : Array Value} {below : List Frame} {meth : Method} {c : Code} {H : Heap} {locs : List Loc} {cells slots : Nat} {Q : State → Prop} {pc : Nat} {ls : Array Slot} {rest : List Value}
theorem dz_topi {x y : Int32} (h : x = y) (k : W p l e R s m args below meth c H locs cells slots Q (F0 m pc ls (.int x :: rest))) : W p l e R s m args below meth c H locs cells slots Q (F0 m pc ls (.int y :: rest)) := h ▸ k
theorem dz_topl {x y : Int64} (h : x = y) (k : W p l e R s m args below meth c H locs cells slots Q (F0 m pc ls (.long x :: rest))) : W p l e R s m args below meth c H locs cells slots Q (F0 m pc ls (.long y :: rest)) := h ▸ k
end DZ
theorem dz_blind {av : List Value} {sz : Nat} {D : va_G} {cl : List vw_C} {ws : va_W} {tys : List (ClassId × FieldType)} : FrameBlind (va_Pc av (fun U => U.heap.size = sz ∧ va_P D cl ws U.heap ∧ va_K D cl tys U ∧ va_D (fun _ => True) ws)) := fun a U g mk q => by
  obtain ⟨q0, q1, qP, qK, qD⟩ := q
  exact ⟨q0, q1, qP, va_K.moved (u := U) (U := U.calling g mk a) (Vm.Alike.refl U.vm) qK, qD⟩
theorem dz_blindR {av : List Value} {D : va_G} {cl : List vw_C} {ws : va_W} {tys : List (ClassId × FieldType)} : FrameBlind (va_Pc av (fun U => va_P D cl ws U.heap ∧ va_K D cl tys U)) := fun a U g mk q => by
  obtain ⟨q0, qP, qK⟩ := q
  exact ⟨q0, qP, va_K.moved (u := U) (U := U.calling g mk a) (Vm.Alike.refl U.vm) qK⟩
def lw_g : List Cond := lw_tbl.filter goodWord
theorem lw_gg (w : Cond) (h : w ∈ lw_g) : (w.onTables && w.keeps) = true ∨ ∃ ty, w = .arrayClass ty := good_of_word (List.mem_filter.mp h).2
theorem kg {w : Cond} (h : w ∈ lw_tbl) (g : goodWord w = true) : w ∈ lw_g := List.mem_filter.mpr ⟨h, g⟩
theorem gd_N {y : MethodName} {b : ByteArray} {n : Nat} {r : Option FieldType} (hc : Cond.code y b n r ∈ lw_g) : GoodIn lw_g (.code y b n r :: lw_g) := fun w h => by
  rcases List.mem_cons.mp h with rfl | h
  · exact ⟨hc, lw_gg _ hc⟩
  · exact ⟨h, lw_gg _ h⟩
theorem gd_V {own : String} {idx : Nat} {C : String} {y : MethodName} {b : ByteArray} {n : Nat} {r : Option FieldType} (h1 : Cond.methodLink own idx y ∈ lw_g) (h2 : Cond.instanceMethod y ∈ lw_g) (h3 : Cond.selects C y y ∈ lw_g) (h4 : Cond.initialized C ∈ lw_g) (hc : Cond.code y b n r ∈ lw_g) : GoodIn lw_g (wsV own idx C y (.code y b n r :: lw_g)) := by
  intro w hw
  unfold wsV at hw
  rcases List.mem_append.mp hw with h | h
  · simp only [List.mem_cons, List.not_mem_nil, or_false] at h
    rcases h with rfl | rfl | rfl | rfl
    · exact ⟨h1, lw_gg _ h1⟩
    · exact ⟨h2, lw_gg _ h2⟩
    · exact ⟨h3, lw_gg _ h3⟩
    · exact ⟨h4, lw_gg _ h4⟩
  · exact gd_N hc w h
theorem gd_S {own : String} {idx : Nat} {y : MethodName} {b : ByteArray} {n : Nat} {r : Option FieldType} (h1 : Cond.methodLink own idx y ∈ lw_g) (h2 : Cond.static y ∈ lw_g) (h4 : Cond.initialized y.cls ∈ lw_g) (hc : Cond.code y b n r ∈ lw_g) : GoodIn lw_g (va_wsS own idx y (.code y b n r :: lw_g)) := by
  intro w hw
  unfold va_wsS at hw
  rcases List.mem_append.mp hw with h | h
  · simp only [List.mem_cons, List.not_mem_nil, or_false] at h
    rcases h with rfl | rfl | rfl
    · exact ⟨h1, lw_gg _ h1⟩
    · exact ⟨h2, lw_gg _ h2⟩
    · exact ⟨h4, lw_gg _ h4⟩
  · exact gd_N hc w h
/-- z is what is left of (Z1, Zc, Zs) when c cells of n slots have been made -/
def dz_G {α : Type} (Z1 : α) (Zc Zs : Nat) (z : α × Nat × Nat) (c n : Nat) : Prop := z.1 = Z1 ∧ Zc = c + z.2.1 ∧ Zs = n + z.2.2
theorem dz_Gc {α : Type} {Z1 : α} {Zc Zs : Nat} {z : α × Nat × Nat} {c n : Nat} (h : dz_G Z1 Zc Zs z c n) : c ≤ Zc := by
  have := h.2.1
  omega
theorem dz_Gs {α : Type} {Z1 : α} {Zc Zs : Nat} {z : α × Nat × Nat} {c n : Nat} (h : dz_G Z1 Zc Zs z c n) : n ≤ Zs := by
  have := h.2.2
  omega
theorem dz_tkG {α : Type} {Z1 : α} {Zc Zs k i : Nat} {o : Option (α × Nat × Nat)} {z : α × Nat × Nat} {c n : Nat} (h : dz_tk k i o = some z) (hG : dz_G Z1 Zc Zs z c n) : ∃ z', o = some z' ∧ dz_G Z1 Zc Zs z' (c + k) (n + i) := by
  obtain ⟨z', h1, rfl⟩ := dz_tks h
  obtain ⟨g1, g2, g3⟩ := hG
  refine ⟨z', h1, g1, ?_, ?_⟩
  · rw [g2]; show c + (z'.2.1 + k) = c + k + z'.2.1; omega
  · rw [g3]; show n + (z'.2.2 + i) = n + i + z'.2.2; omega
end
section
/-! Names: classes, fields, methods -/
def R_Arrays : String := "java/util/Arrays"
def R_Engine : String := "CellEngine"
def R_Equality : String := "CellEngine$Equality"
def R_Heap : String := "CellEngine$Heap"
def R_Machine : String := "CellEngine$Machine"
def R_Math : String := "java/lang/Math"
def R_Model : String := "CellEngineModel"
def R_Numbers : String := "CellEngine$Numbers"
def R_Object : String := "java/lang/Object"
def R_Objects : String := "CellEngine$Objects"
def R_Output : String := "CellEngine$Output"
def R_Program : String := "CellEngine$Program"
def R_Stacks : String := "CellEngine$Stacks"
def R_Status : String := "CellEngine$Status"
def R_Strings : String := "CellEngine$Strings"
def R_System : String := "java/lang/System"
def R_Value : String := "CellEngine$Value"
def F_Program : u_T := fun k => match k with
  | 0 => ("CellEngine$Program", "words", "[I", false)
  | 1 => ("CellEngine$Program", "size", "I", false)
  | 2 => ("CellEngine$Program", "bytes", "[B", false)
  | 3 => ("CellEngine$Program", "ends", "[I", false)
  | 4 => ("CellEngine$Program", "constants", "I", false)
  | 5 => ("CellEngine$Program", "closed", "I", false)
  | _ => ("CellEngine$Program", "open", "I", false)
def t_Program : Nat → FieldType := fun k => match k with
  | 0 => .array .int
  | 1 => .int
  | 2 => .array .byte
  | 3 => .array .int
  | 4 => .int
  | 5 => .int
  | _ => .int
theorem n_Program : ∀ a, a < 7 → ∀ b, b < 7 → a ≠ b → (F_Program a).2.1 ≠ (F_Program b).2.1 := by decide +kernel
theorem t_Program_ok : ∀ k, k < 7 → parseFieldDescriptor (F_Program k).2.2.1 = some (t_Program k) := by decide +kernel
theorem i_Program : ∀ w ∈ u_ws R_Program F_Program 7, w ∈ lw_g := fun w h => kg (List.mem_append_right _ ((by decide +kernel : ∀ w ∈ u_ws R_Program F_Program 7, w ∈ tables_1) w h)) ((by decide +kernel : ∀ w ∈ u_ws R_Program F_Program 7, goodWord w = true) w h)
def F_Output : u_T := fun k => match k with
  | 0 => ("CellEngine$Output", "bytes", "[B", false)
  | _ => ("CellEngine$Output", "size", "I", false)
def t_Output : Nat → FieldType := fun k => match k with
  | 0 => .array .byte
  | _ => .int
theorem n_Output : ∀ a, a < 2 → ∀ b, b < 2 → a ≠ b → (F_Output a).2.1 ≠ (F_Output b).2.1 := by decide +kernel
theorem t_Output_ok : ∀ k, k < 2 → parseFieldDescriptor (F_Output k).2.2.1 = some (t_Output k) := by decide +kernel
theorem i_Output : ∀ w ∈ u_ws R_Output F_Output 2, w ∈ lw_g := fun w h => kg (List.mem_append_right _ ((by decide +kernel : ∀ w ∈ u_ws R_Output F_Output 2, w ∈ tables_1) w h)) ((by decide +kernel : ∀ w ∈ u_ws R_Output F_Output 2, goodWord w = true) w h)
def F_Stacks : u_T := fun k => match k with
  | 0 => ("CellEngine$Stacks", "values", "[J", false)
  | 1 => ("CellEngine$Stacks", "top", "I", false)
  | 2 => ("CellEngine$Stacks", "bases", "[I", false)
  | 3 => ("CellEngine$Stacks", "floors", "[I", false)
  | 4 => ("CellEngine$Stacks", "returns", "[I", false)
  | 5 => ("CellEngine$Stacks", "closures", "[J", false)
  | 6 => ("CellEngine$Stacks", "frames", "I", false)
  | 7 => ("CellEngine$Stacks", "handlerFrames", "[I", false)
  | 8 => ("CellEngine$Stacks", "handlerPlaces", "[I", false)
  | 9 => ("CellEngine$Stacks", "handlerHeights", "[I", false)
  | 10 => ("CellEngine$Stacks", "handlerDepths", "[I", false)
  | _ => ("CellEngine$Stacks", "handlers", "I", false)
def t_Stacks : Nat → FieldType := fun k => match k with
  | 0 => .array .long
  | 1 => .int
  | 2 => .array .int
  | 3 => .array .int
  | 4 => .array .int
  | 5 => .array .long
  | 6 => .int
  | 7 => .array .int
  | 8 => .array .int
  | 9 => .array .int
  | 10 => .array .int
  | _ => .int
theorem n_Stacks : ∀ a, a < 12 → ∀ b, b < 12 → a ≠ b → (F_Stacks a).2.1 ≠ (F_Stacks b).2.1 := by decide +kernel
theorem t_Stacks_ok : ∀ k, k < 12 → parseFieldDescriptor (F_Stacks k).2.2.1 = some (t_Stacks k) := by decide +kernel
theorem i_Stacks : ∀ w ∈ u_ws R_Stacks F_Stacks 12, w ∈ lw_g := fun w h => kg (List.mem_append_right _ ((by decide +kernel : ∀ w ∈ u_ws R_Stacks F_Stacks 12, w ∈ tables_1) w h)) ((by decide +kernel : ∀ w ∈ u_ws R_Stacks F_Stacks 12, goodWord w = true) w h)
def F_Heap : u_T := fun k => match k with
  | 0 => ("CellEngine$Heap", "stacks", "LCellEngine$Stacks;", true)
  | 1 => ("CellEngine$Heap", "globals", "[J", true)
  | 2 => ("CellEngine$Heap", "globalsUsed", "I", false)
  | 3 => ("CellEngine$Heap", "cells", "[J", false)
  | 4 => ("CellEngine$Heap", "used", "I", false)
  | 5 => ("CellEngine$Heap", "spare", "[J", false)
  | 6 => ("CellEngine$Heap", "spareUsed", "I", false)
  | 7 => ("CellEngine$Heap", "old", "I", false)
  | 8 => ("CellEngine$Heap", "oldLeadsToNew", "Z", false)
  | 9 => ("CellEngine$Heap", "limit", "I", false)
  | 10 => ("CellEngine$Heap", "every", "I", false)
  | 11 => ("CellEngine$Heap", "fresh", "I", false)
  | 12 => ("CellEngine$Heap", "made", "I", false)
  | 13 => ("CellEngine$Heap", "madeLimit", "I", false)
  | 14 => ("CellEngine$Heap", "reachedFromGlobals", "I", false)
  | 15 => ("CellEngine$Heap", "reachedInAll", "I", false)
  | 16 => ("CellEngine$Heap", "keptGlobals", "[J", true)
  | 17 => ("CellEngine$Heap", "keptGlobalsUsed", "I", false)
  | 18 => ("CellEngine$Heap", "keptCells", "[J", false)
  | _ => ("CellEngine$Heap", "kept", "I", false)
def t_Heap : Nat → FieldType := fun k => match k with
  | 0 => .object "CellEngine$Stacks"
  | 1 => .array .long
  | 2 => .int
  | 3 => .array .long
  | 4 => .int
  | 5 => .array .long
  | 6 => .int
  | 7 => .int
  | 8 => .boolean
  | 9 => .int
  | 10 => .int
  | 11 => .int
  | 12 => .int
  | 13 => .int
  | 14 => .int
  | 15 => .int
  | 16 => .array .long
  | 17 => .int
  | 18 => .array .long
  | _ => .int
theorem n_Heap : ∀ a, a < 20 → ∀ b, b < 20 → a ≠ b → (F_Heap a).2.1 ≠ (F_Heap b).2.1 := by decide +kernel
theorem t_Heap_ok : ∀ k, k < 20 → parseFieldDescriptor (F_Heap k).2.2.1 = some (t_Heap k) := by decide +kernel
theorem i_Heap : ∀ w ∈ u_ws R_Heap F_Heap 20, w ∈ lw_g := fun w h => kg (List.mem_append_right _ ((by decide +kernel : ∀ w ∈ u_ws R_Heap F_Heap 20, w ∈ tables_1) w h)) ((by decide +kernel : ∀ w ∈ u_ws R_Heap F_Heap 20, goodWord w = true) w h)
def F_Objects : u_T := fun k => match k with
  | 0 => ("CellEngine$Objects", "program", "LCellEngine$Program;", true)
  | 1 => ("CellEngine$Objects", "stacks", "LCellEngine$Stacks;", true)
  | 2 => ("CellEngine$Objects", "heap", "LCellEngine$Heap;", true)
  | _ => ("CellEngine$Objects", "names", "I", false)
def t_Objects : Nat → FieldType := fun k => match k with
  | 0 => .object "CellEngine$Program"
  | 1 => .object "CellEngine$Stacks"
  | 2 => .object "CellEngine$Heap"
  | _ => .int
theorem n_Objects : ∀ a, a < 4 → ∀ b, b < 4 → a ≠ b → (F_Objects a).2.1 ≠ (F_Objects b).2.1 := by decide +kernel
theorem t_Objects_ok : ∀ k, k < 4 → parseFieldDescriptor (F_Objects k).2.2.1 = some (t_Objects k) := by decide +kernel
theorem i_Objects : ∀ w ∈ u_ws R_Objects F_Objects 4, w ∈ lw_g := fun w h => kg (List.mem_append_right _ ((by decide +kernel : ∀ w ∈ u_ws R_Objects F_Objects 4, w ∈ tables_1) w h)) ((by decide +kernel : ∀ w ∈ u_ws R_Objects F_Objects 4, goodWord w = true) w h)
def F_Equality : u_T := fun k => match k with
  | 0 => ("CellEngine$Equality", "heap", "LCellEngine$Heap;", true)
  | 1 => ("CellEngine$Equality", "links", "[I", false)
  | 2 => ("CellEngine$Equality", "pairs", "[J", false)
  | _ => ("CellEngine$Equality", "size", "I", false)
def t_Equality : Nat → FieldType := fun k => match k with
  | 0 => .object "CellEngine$Heap"
  | 1 => .array .int
  | 2 => .array .long
  | _ => .int
theorem n_Equality : ∀ a, a < 4 → ∀ b, b < 4 → a ≠ b → (F_Equality a).2.1 ≠ (F_Equality b).2.1 := by decide +kernel
theorem t_Equality_ok : ∀ k, k < 4 → parseFieldDescriptor (F_Equality k).2.2.1 = some (t_Equality k) := by decide +kernel
theorem i_Equality : ∀ w ∈ u_ws R_Equality F_Equality 4, w ∈ lw_g := fun w h => kg (List.mem_append_right _ ((by decide +kernel : ∀ w ∈ u_ws R_Equality F_Equality 4, w ∈ tables_1) w h)) ((by decide +kernel : ∀ w ∈ u_ws R_Equality F_Equality 4, goodWord w = true) w h)
def F_Numbers : u_T := fun k => match k with
  | _ => ("CellEngine$Numbers", "stacks", "LCellEngine$Stacks;", true)
def t_Numbers : Nat → FieldType := fun k => match k with
  | _ => .object "CellEngine$Stacks"
theorem n_Numbers : ∀ a, a < 1 → ∀ b, b < 1 → a ≠ b → (F_Numbers a).2.1 ≠ (F_Numbers b).2.1 := by decide +kernel
theorem t_Numbers_ok : ∀ k, k < 1 → parseFieldDescriptor (F_Numbers k).2.2.1 = some (t_Numbers k) := by decide +kernel
theorem i_Numbers : ∀ w ∈ u_ws R_Numbers F_Numbers 1, w ∈ lw_g := fun w h => kg (List.mem_append_right _ ((by decide +kernel : ∀ w ∈ u_ws R_Numbers F_Numbers 1, w ∈ tables_1) w h)) ((by decide +kernel : ∀ w ∈ u_ws R_Numbers F_Numbers 1, goodWord w = true) w h)
def F_Strings : u_T := fun k => match k with
  | 0 => ("CellEngine$Strings", "stacks", "LCellEngine$Stacks;", true)
  | 1 => ("CellEngine$Strings", "heap", "LCellEngine$Heap;", true)
  | _ => ("CellEngine$Strings", "output", "LCellEngine$Output;", true)
def t_Strings : Nat → FieldType := fun k => match k with
  | 0 => .object "CellEngine$Stacks"
  | 1 => .object "CellEngine$Heap"
  | _ => .object "CellEngine$Output"
theorem n_Strings : ∀ a, a < 3 → ∀ b, b < 3 → a ≠ b → (F_Strings a).2.1 ≠ (F_Strings b).2.1 := by decide +kernel
theorem t_Strings_ok : ∀ k, k < 3 → parseFieldDescriptor (F_Strings k).2.2.1 = some (t_Strings k) := by decide +kernel
theorem i_Strings : ∀ w ∈ u_ws R_Strings F_Strings 3, w ∈ lw_g := fun w h => kg (List.mem_append_right _ ((by decide +kernel : ∀ w ∈ u_ws R_Strings F_Strings 3, w ∈ tables_1) w h)) ((by decide +kernel : ∀ w ∈ u_ws R_Strings F_Strings 3, goodWord w = true) w h)
def F_Machine : u_T := fun k => match k with
  | 0 => ("CellEngine$Machine", "program", "LCellEngine$Program;", true)
  | 1 => ("CellEngine$Machine", "stacks", "LCellEngine$Stacks;", true)
  | 2 => ("CellEngine$Machine", "heap", "LCellEngine$Heap;", true)
  | 3 => ("CellEngine$Machine", "objects", "LCellEngine$Objects;", true)
  | 4 => ("CellEngine$Machine", "equality", "LCellEngine$Equality;", true)
  | 5 => ("CellEngine$Machine", "numbers", "LCellEngine$Numbers;", true)
  | 6 => ("CellEngine$Machine", "strings", "LCellEngine$Strings;", true)
  | 7 => ("CellEngine$Machine", "status", "I", false)
  | 8 => ("CellEngine$Machine", "place", "I", false)
  | 9 => ("CellEngine$Machine", "next", "I", false)
  | 10 => ("CellEngine$Machine", "fuel", "I", false)
  | 11 => ("CellEngine$Machine", "ticks", "I", false)
  | 12 => ("CellEngine$Machine", "depth", "I", false)
  | 13 => ("CellEngine$Machine", "depthLimit", "I", false)
  | _ => ("CellEngine$Machine", "done", "I", false)
def t_Machine : Nat → FieldType := fun k => match k with
  | 0 => .object "CellEngine$Program"
  | 1 => .object "CellEngine$Stacks"
  | 2 => .object "CellEngine$Heap"
  | 3 => .object "CellEngine$Objects"
  | 4 => .object "CellEngine$Equality"
  | 5 => .object "CellEngine$Numbers"
  | 6 => .object "CellEngine$Strings"
  | 7 => .int
  | 8 => .int
  | 9 => .int
  | 10 => .int
  | 11 => .int
  | 12 => .int
  | 13 => .int
  | _ => .int
theorem n_Machine : ∀ a, a < 15 → ∀ b, b < 15 → a ≠ b → (F_Machine a).2.1 ≠ (F_Machine b).2.1 := by decide +kernel
theorem t_Machine_ok : ∀ k, k < 15 → parseFieldDescriptor (F_Machine k).2.2.1 = some (t_Machine k) := by decide +kernel
theorem i_Machine : ∀ w ∈ u_ws R_Machine F_Machine 15, w ∈ lw_g := fun w h => kg (List.mem_append_right _ ((by decide +kernel : ∀ w ∈ u_ws R_Machine F_Machine 15, w ∈ tables_1) w h)) ((by decide +kernel : ∀ w ∈ u_ws R_Machine F_Machine 15, goodWord w = true) w h)
def F_Engine : u_T := fun k => match k with
  | 0 => ("CellEngine", "program", "LCellEngine$Program;", true)
  | 1 => ("CellEngine", "heap", "LCellEngine$Heap;", true)
  | 2 => ("CellEngine", "output", "LCellEngine$Output;", true)
  | _ => ("CellEngine", "machine", "LCellEngine$Machine;", true)
def t_Engine : Nat → FieldType := fun k => match k with
  | 0 => .object "CellEngine$Program"
  | 1 => .object "CellEngine$Heap"
  | 2 => .object "CellEngine$Output"
  | _ => .object "CellEngine$Machine"
theorem n_Engine : ∀ a, a < 4 → ∀ b, b < 4 → a ≠ b → (F_Engine a).2.1 ≠ (F_Engine b).2.1 := by decide +kernel
theorem t_Engine_ok : ∀ k, k < 4 → parseFieldDescriptor (F_Engine k).2.2.1 = some (t_Engine k) := by decide +kernel
theorem i_Engine : ∀ w ∈ u_ws R_Engine F_Engine 4, w ∈ lw_g := fun w h => kg (List.mem_append_right _ ((by decide +kernel : ∀ w ∈ u_ws R_Engine F_Engine 4, w ∈ tables_1) w h)) ((by decide +kernel : ∀ w ∈ u_ws R_Engine F_Engine 4, goodWord w = true) w h)
def F_Model : u_T := fun k => match k with
  | 0 => ("CellEngineModel", "tags", "[I", true)
  | 1 => ("CellEngineModel", "cells", "[I", true)
  | 2 => ("CellEngineModel", "chain", "[I", true)
  | 3 => ("CellEngineModel", "used", "I", false)
  | 4 => ("CellEngineModel", "namesMade", "I", false)
  | 5 => ("CellEngineModel", "globalTags", "[I", true)
  | 6 => ("CellEngineModel", "globals", "[I", true)
  | 7 => ("CellEngineModel", "resultTag", "I", false)
  | 8 => ("CellEngineModel", "result", "I", false)
  | 9 => ("CellEngineModel", "savedTags", "[I", true)
  | 10 => ("CellEngineModel", "saved", "[I", true)
  | 11 => ("CellEngineModel", "savedUsed", "I", false)
  | 12 => ("CellEngineModel", "savedGlobalTags", "[I", true)
  | 13 => ("CellEngineModel", "savedGlobals", "[I", true)
  | 14 => ("CellEngineModel", "code", "[I", true)
  | 15 => ("CellEngineModel", "size", "I", false)
  | 16 => ("CellEngineModel", "texts", "[B", true)
  | 17 => ("CellEngineModel", "textAt", "[I", true)
  | 18 => ("CellEngineModel", "constants", "I", false)
  | 19 => ("CellEngineModel", "pending", "I", false)
  | 20 => ("CellEngineModel", "begun", "Z", false)
  | 21 => ("CellEngineModel", "status", "I", false)
  | 22 => ("CellEngineModel", "frames", "I", false)
  | 23 => ("CellEngineModel", "closures", "[I", true)
  | 24 => ("CellEngineModel", "bases", "[I", true)
  | 25 => ("CellEngineModel", "locals", "[I", true)
  | 26 => ("CellEngineModel", "backs", "[I", true)
  | 27 => ("CellEngineModel", "valueTags", "[I", true)
  | 28 => ("CellEngineModel", "values", "[I", true)
  | 29 => ("CellEngineModel", "top", "I", false)
  | 30 => ("CellEngineModel", "handlers", "I", false)
  | 31 => ("CellEngineModel", "handlerFrames", "[I", true)
  | 32 => ("CellEngineModel", "handlerPlaces", "[I", true)
  | 33 => ("CellEngineModel", "handlerHeights", "[I", true)
  | 34 => ("CellEngineModel", "handlerDepths", "[I", true)
  | 35 => ("CellEngineModel", "at", "I", false)
  | 36 => ("CellEngineModel", "fuel", "I", false)
  | 37 => ("CellEngineModel", "ticks", "I", false)
  | 38 => ("CellEngineModel", "made", "I", false)
  | 39 => ("CellEngineModel", "depth", "I", false)
  | 40 => ("CellEngineModel", "done", "I", false)
  | 41 => ("CellEngineModel", "output", "[B", true)
  | 42 => ("CellEngineModel", "written", "I", false)
  | 43 => ("CellEngineModel", "mostReached", "I", false)
  | 44 => ("CellEngineModel", "mostMade", "I", false)
  | 45 => ("CellEngineModel", "mostDepth", "I", false)
  | 46 => ("CellEngineModel", "pairs", "[I", true)
  | 47 => ("CellEngineModel", "paired", "I", false)
  | 48 => ("CellEngineModel", "joined", "[I", true)
  | 49 => ("CellEngineModel", "joins", "I", false)
  | 50 => ("CellEngineModel", "marked", "I", false)
  | 51 => ("CellEngineModel", "reached", "I", false)
  | 52 => ("CellEngineModel", "foundTag", "I", false)
  | _ => ("CellEngineModel", "found", "I", false)
def t_Model : Nat → FieldType := fun k => match k with
  | 0 => .array .int
  | 1 => .array .int
  | 2 => .array .int
  | 3 => .int
  | 4 => .int
  | 5 => .array .int
  | 6 => .array .int
  | 7 => .int
  | 8 => .int
  | 9 => .array .int
  | 10 => .array .int
  | 11 => .int
  | 12 => .array .int
  | 13 => .array .int
  | 14 => .array .int
  | 15 => .int
  | 16 => .array .byte
  | 17 => .array .int
  | 18 => .int
  | 19 => .int
  | 20 => .boolean
  | 21 => .int
  | 22 => .int
  | 23 => .array .int
  | 24 => .array .int
  | 25 => .array .int
  | 26 => .array .int
  | 27 => .array .int
  | 28 => .array .int
  | 29 => .int
  | 30 => .int
  | 31 => .array .int
  | 32 => .array .int
  | 33 => .array .int
  | 34 => .array .int
  | 35 => .int
  | 36 => .int
  | 37 => .int
  | 38 => .int
  | 39 => .int
  | 40 => .int
  | 41 => .array .byte
  | 42 => .int
  | 43 => .int
  | 44 => .int
  | 45 => .int
  | 46 => .array .int
  | 47 => .int
  | 48 => .array .int
  | 49 => .int
  | 50 => .int
  | 51 => .int
  | 52 => .int
  | _ => .int
theorem n_Model : ∀ a, a < 54 → ∀ b, b < 54 → a ≠ b → (F_Model a).2.1 ≠ (F_Model b).2.1 := by decide +kernel
theorem t_Model_ok : ∀ k, k < 54 → parseFieldDescriptor (F_Model k).2.2.1 = some (t_Model k) := by decide +kernel
theorem i_Model : ∀ w ∈ u_ws R_Model F_Model 54, w ∈ lw_g := fun w h => kg (List.mem_append_right _ ((by decide +kernel : ∀ w ∈ u_ws R_Model F_Model 54, w ∈ tables_1) w h)) ((by decide +kernel : ∀ w ∈ u_ws R_Model F_Model 54, goodWord w = true) w h)
def y_Arrays_copyOfB : MethodName := ⟨R_Arrays, "copyOf", "([BI)[B"⟩
abbrev b_Arrays_copyOfB : ByteArray := prog_18_method_121_code
def y_Arrays_copyOfI : MethodName := ⟨R_Arrays, "copyOf", "([II)[I"⟩
abbrev b_Arrays_copyOfI : ByteArray := prog_18_method_123_code
def y_Arrays_copyOfJ : MethodName := ⟨R_Arrays, "copyOf", "([JI)[J"⟩
abbrev b_Arrays_copyOfJ : ByteArray := prog_18_method_124_code
def y_Arrays_fill : MethodName := ⟨R_Arrays, "fill", "([JIIJ)V"⟩
abbrev b_Arrays_fill : ByteArray := prog_18_method_102_code
def y_Arrays_rangeCheck : MethodName := ⟨R_Arrays, "rangeCheck", "(III)V"⟩
abbrev b_Arrays_rangeCheck : ByteArray := prog_18_method_30_code
def y_Engine_byteOf : MethodName := ⟨R_Engine, "byteOf", "(IJI)I"⟩
abbrev b_Engine_byteOf : ByteArray := prog_1_method_9_code
def y_Engine_code : MethodName := ⟨R_Engine, "code", "(I)I"⟩
abbrev b_Engine_code : ByteArray := prog_1_method_2_code
def y_Engine_collect : MethodName := ⟨R_Engine, "collect", "(I)Z"⟩
abbrev b_Engine_collect : ByteArray := prog_1_method_13_code
def y_Engine_constant : MethodName := ⟨R_Engine, "constant", "()I"⟩
abbrev b_Engine_constant : ByteArray := prog_1_method_5_code
def y_Engine_count : MethodName := ⟨R_Engine, "count", "(I)I"⟩
abbrev b_Engine_count : ByteArray := prog_1_method_17_code
def y_Engine_cut : MethodName := ⟨R_Engine, "cut", "(I)I"⟩
abbrev b_Engine_cut : ByteArray := prog_1_method_3_code
def y_Engine_init : MethodName := ⟨R_Engine, "<init>", "()V"⟩
abbrev b_Engine_init : ByteArray := prog_1_method_1_code
def y_Engine_limits : MethodName := ⟨R_Engine, "limits", "(III)Z"⟩
abbrev b_Engine_limits : ByteArray := prog_1_method_12_code
def y_Engine_longer : MethodName := ⟨R_Engine, "longer", "(III)I"⟩
abbrev b_Engine_longer : ByteArray := prog_1_method_18_code
def y_Engine_look : MethodName := ⟨R_Engine, "look", "(IJI)I"⟩
abbrev b_Engine_look : ByteArray := prog_1_method_8_code
def y_Engine_out : MethodName := ⟨R_Engine, "out", "(I)I"⟩
abbrev b_Engine_out : ByteArray := prog_1_method_11_code
def y_Engine_put : MethodName := ⟨R_Engine, "put", "(J)I"⟩
abbrev b_Engine_put : ByteArray := prog_1_method_4_code
def y_Engine_reached : MethodName := ⟨R_Engine, "reached", "()I"⟩
abbrev b_Engine_reached : ByteArray := prog_1_method_14_code
def y_Engine_restore : MethodName := ⟨R_Engine, "restore", "()I"⟩
abbrev b_Engine_restore : ByteArray := prog_1_method_16_code
def y_Engine_same : MethodName := ⟨R_Engine, "same", "(IJIJ)Z"⟩
abbrev b_Engine_same : ByteArray := prog_1_method_10_code
def y_Engine_save : MethodName := ⟨R_Engine, "save", "()I"⟩
abbrev b_Engine_save : ByteArray := prog_1_method_15_code
def y_Engine_start : MethodName := ⟨R_Engine, "start", "(II)Z"⟩
abbrev b_Engine_start : ByteArray := prog_1_method_6_code
def y_Engine_step : MethodName := ⟨R_Engine, "step", "(I)I"⟩
abbrev b_Engine_step : ByteArray := prog_1_method_7_code
def y_Equality_addPair : MethodName := ⟨R_Equality, "addPair", "(II)V"⟩
abbrev b_Equality_addPair : ByteArray := prog_2_method_6_code
def y_Equality_holds : MethodName := ⟨R_Equality, "holds", "(JJ)Z"⟩
abbrev b_Equality_holds : ByteArray := prog_2_method_2_code
def y_Equality_init : MethodName := ⟨R_Equality, "<init>", "(LCellEngine$Heap;)V"⟩
abbrev b_Equality_init : ByteArray := prog_2_method_1_code
def y_Equality_join : MethodName := ⟨R_Equality, "join", "(JJ)Z"⟩
abbrev b_Equality_join : ByteArray := prog_2_method_4_code
def y_Equality_joinParts : MethodName := ⟨R_Equality, "joinParts", "(II)Z"⟩
abbrev b_Equality_joinParts : ByteArray := prog_2_method_3_code
def y_Equality_leader : MethodName := ⟨R_Equality, "leader", "(I)I"⟩
abbrev b_Equality_leader : ByteArray := prog_2_method_5_code
def y_Heap_ask : MethodName := ⟨R_Heap, "ask", "(II)Z"⟩
abbrev b_Heap_ask : ByteArray := prog_3_method_3_code
def y_Heap_bringBack : MethodName := ⟨R_Heap, "bringBack", "()I"⟩
abbrev b_Heap_bringBack : ByteArray := prog_3_method_12_code
def y_Heap_byteAt : MethodName := ⟨R_Heap, "byteAt", "(II)I"⟩
abbrev b_Heap_byteAt : ByteArray := prog_3_method_17_code
def y_Heap_change : MethodName := ⟨R_Heap, "change", "(IJ)V"⟩
abbrev b_Heap_change : ByteArray := prog_3_method_6_code
def y_Heap_find : MethodName := ⟨R_Heap, "find", "(IJ)J"⟩
abbrev b_Heap_find : ByteArray := prog_3_method_13_code
def y_Heap_gather : MethodName := ⟨R_Heap, "gather", "(IZ)V"⟩
abbrev b_Heap_gather : ByteArray := prog_3_method_7_code
def y_Heap_init : MethodName := ⟨R_Heap, "<init>", "(LCellEngine$Stacks;)V"⟩
abbrev b_Heap_init : ByteArray := prog_3_method_1_code
def y_Heap_keep : MethodName := ⟨R_Heap, "keep", "()I"⟩
abbrev b_Heap_keep : ByteArray := prog_3_method_11_code
def y_Heap_lay : MethodName := ⟨R_Heap, "lay", "(JI)I"⟩
abbrev b_Heap_lay : ByteArray := prog_3_method_4_code
def y_Heap_layString : MethodName := ⟨R_Heap, "layString", "(I)I"⟩
abbrev b_Heap_layString : ByteArray := prog_3_method_5_code
def y_Heap_moveBack : MethodName := ⟨R_Heap, "moveBack", "(I)V"⟩
abbrev b_Heap_moveBack : ByteArray := prog_3_method_8_code
def y_Heap_moved : MethodName := ⟨R_Heap, "moved", "(JI)J"⟩
abbrev b_Heap_moved : ByteArray := prog_3_method_9_code
def y_Heap_part : MethodName := ⟨R_Heap, "part", "(JI)J"⟩
abbrev b_Heap_part : ByteArray := prog_3_method_16_code
def y_Heap_parts : MethodName := ⟨R_Heap, "parts", "(J)I"⟩
abbrev b_Heap_parts : ByteArray := prog_3_method_14_code
def y_Heap_setByte : MethodName := ⟨R_Heap, "setByte", "(III)V"⟩
abbrev b_Heap_setByte : ByteArray := prog_3_method_18_code
def y_Heap_setGlobal : MethodName := ⟨R_Heap, "setGlobal", "(IJ)V"⟩
abbrev b_Heap_setGlobal : ByteArray := prog_3_method_2_code
def y_Heap_sizeOf : MethodName := ⟨R_Heap, "sizeOf", "(J)I"⟩
abbrev b_Heap_sizeOf : ByteArray := prog_3_method_10_code
def y_Heap_told : MethodName := ⟨R_Heap, "told", "(J)I"⟩
abbrev b_Heap_told : ByteArray := prog_3_method_15_code
def y_Machine_advance : MethodName := ⟨R_Machine, "advance", "(I)I"⟩
abbrev b_Machine_advance : ByteArray := prog_4_method_5_code
def y_Machine_begin : MethodName := ⟨R_Machine, "begin", "(II)V"⟩
abbrev b_Machine_begin : ByteArray := prog_4_method_2_code
def y_Machine_choose : MethodName := ⟨R_Machine, "choose", "(I)I"⟩
abbrev b_Machine_choose : ByteArray := prog_4_method_14_code
def y_Machine_deepen : MethodName := ⟨R_Machine, "deepen", "(I)I"⟩
abbrev b_Machine_deepen : ByteArray := prog_4_method_22_code
def y_Machine_enterFrame : MethodName := ⟨R_Machine, "enterFrame", "()I"⟩
abbrev b_Machine_enterFrame : ByteArray := prog_4_method_10_code
def y_Machine_forget : MethodName := ⟨R_Machine, "forget", "()V"⟩
abbrev b_Machine_forget : ByteArray := prog_4_method_3_code
def y_Machine_goOn : MethodName := ⟨R_Machine, "goOn", "(I)I"⟩
abbrev b_Machine_goOn : ByteArray := prog_4_method_9_code
def y_Machine_init : MethodName := ⟨R_Machine, "<init>", "(LCellEngine$Program;LCellEngine$Stacks;LCellEngine$Heap;LCellEngine$Output;)V"⟩
abbrev b_Machine_init : ByteArray := prog_4_method_1_code
def y_Machine_leaveFrame : MethodName := ⟨R_Machine, "leaveFrame", "()I"⟩
abbrev b_Machine_leaveFrame : ByteArray := prog_4_method_12_code
def y_Machine_make : MethodName := ⟨R_Machine, "make", "(I)I"⟩
abbrev b_Machine_make : ByteArray := prog_4_method_21_code
def y_Machine_number : MethodName := ⟨R_Machine, "number", "(I)I"⟩
abbrev b_Machine_number : ByteArray := prog_4_method_4_code
def y_Machine_operandsHere : MethodName := ⟨R_Machine, "operandsHere", "()I"⟩
abbrev b_Machine_operandsHere : ByteArray := prog_4_method_6_code
def y_Machine_perform : MethodName := ⟨R_Machine, "perform", "(II)I"⟩
abbrev b_Machine_perform : ByteArray := prog_4_method_7_code
def y_Machine_primitiveFits : MethodName := ⟨R_Machine, "primitiveFits", "(I)Z"⟩
abbrev b_Machine_primitiveFits : ByteArray := prog_4_method_18_code
def y_Machine_raise : MethodName := ⟨R_Machine, "raise", "(JI)I"⟩
abbrev b_Machine_raise : ByteArray := prog_4_method_17_code
def y_Machine_raiseTop : MethodName := ⟨R_Machine, "raiseTop", "()I"⟩
abbrev b_Machine_raiseTop : ByteArray := prog_4_method_16_code
def y_Machine_replaceFrame : MethodName := ⟨R_Machine, "replaceFrame", "()I"⟩
abbrev b_Machine_replaceFrame : ByteArray := prog_4_method_11_code
def y_Machine_settle : MethodName := ⟨R_Machine, "settle", "(II)I"⟩
abbrev b_Machine_settle : ByteArray := prog_4_method_19_code
def y_Machine_stop : MethodName := ⟨R_Machine, "stop", "()I"⟩
abbrev b_Machine_stop : ByteArray := prog_4_method_8_code
def y_Machine_tick : MethodName := ⟨R_Machine, "tick", "()I"⟩
abbrev b_Machine_tick : ByteArray := prog_4_method_20_code
def y_Machine_unhandle : MethodName := ⟨R_Machine, "unhandle", "()I"⟩
abbrev b_Machine_unhandle : ByteArray := prog_4_method_15_code
def y_Machine_unless : MethodName := ⟨R_Machine, "unless", "(I)I"⟩
abbrev b_Machine_unless : ByteArray := prog_4_method_13_code
def y_Math_floorDiv : MethodName := ⟨R_Math, "floorDiv", "(JJ)J"⟩
abbrev b_Math_floorDiv : ByteArray := prog_16_method_49_code
def y_Math_floorMod : MethodName := ⟨R_Math, "floorMod", "(JJ)J"⟩
abbrev b_Math_floorMod : ByteArray := prog_16_method_52_code
def y_Math_max : MethodName := ⟨R_Math, "max", "(II)I"⟩
abbrev b_Math_max : ByteArray := prog_16_method_65_code
def y_Math_min : MethodName := ⟨R_Math, "min", "(II)I"⟩
abbrev b_Math_min : ByteArray := prog_16_method_69_code
def y_Model_areSame : MethodName := ⟨R_Model, "areSame", "(IIII)Z"⟩
abbrev b_Model_areSame : ByteArray := prog_14_method_57_code
def y_Model_assign : MethodName := ⟨R_Model, "assign", "()I"⟩
abbrev b_Model_assign : ByteArray := prog_14_method_45_code
def y_Model_back : MethodName := ⟨R_Model, "back", "()I"⟩
abbrev b_Model_back : ByteArray := prog_14_method_49_code
def y_Model_branch : MethodName := ⟨R_Model, "branch", "(II)I"⟩
abbrev b_Model_branch : ByteArray := prog_14_method_50_code
def y_Model_byteAt : MethodName := ⟨R_Model, "byteAt", "(II)I"⟩
abbrev b_Model_byteAt : ByteArray := prog_14_method_38_code
def y_Model_byteOf : MethodName := ⟨R_Model, "byteOf", "(IJI)I"⟩
abbrev b_Model_byteOf : ByteArray := prog_14_method_81_code
def y_Model_call : MethodName := ⟨R_Model, "call", "()I"⟩
abbrev b_Model_call : ByteArray := prog_14_method_46_code
def y_Model_code : MethodName := ⟨R_Model, "code", "(I)I"⟩
abbrev b_Model_code : ByteArray := prog_14_method_16_code
def y_Model_collect : MethodName := ⟨R_Model, "collect", "(I)Z"⟩
abbrev b_Model_collect : ByteArray := prog_14_method_85_code
def y_Model_compare : MethodName := ⟨R_Model, "compare", "(II)I"⟩
abbrev b_Model_compare : ByteArray := prog_14_method_63_code
def y_Model_compareLater : MethodName := ⟨R_Model, "compareLater", "(III)V"⟩
abbrev b_Model_compareLater : ByteArray := prog_14_method_60_code
def y_Model_constant : MethodName := ⟨R_Model, "constant", "()I"⟩
abbrev b_Model_constant : ByteArray := prog_14_method_19_code
def y_Model_count : MethodName := ⟨R_Model, "count", "(I)I"⟩
abbrev b_Model_count : ByteArray := prog_14_method_90_code
def y_Model_cut : MethodName := ⟨R_Model, "cut", "(I)I"⟩
abbrev b_Model_cut : ByteArray := prog_14_method_17_code
def y_Model_decimal : MethodName := ⟨R_Model, "decimal", "(I)I"⟩
abbrev b_Model_decimal : ByteArray := prog_14_method_70_code
def y_Model_divide : MethodName := ⟨R_Model, "divide", "(III)I"⟩
abbrev b_Model_divide : ByteArray := prog_14_method_67_code
def y_Model_explode : MethodName := ⟨R_Model, "explode", "()I"⟩
abbrev b_Model_explode : ByteArray := prog_14_method_78_code
def y_Model_find : MethodName := ⟨R_Model, "find", "(IJ)Z"⟩
abbrev b_Model_find : ByteArray := prog_14_method_79_code
def y_Model_forget : MethodName := ⟨R_Model, "forget", "()V"⟩
abbrev b_Model_forget : ByteArray := prog_14_method_87_code
def y_Model_free : MethodName := ⟨R_Model, "free", "(I)I"⟩
abbrev b_Model_free : ByteArray := prog_14_method_40_code
def y_Model_gather : MethodName := ⟨R_Model, "gather", "(III)I"⟩
abbrev b_Model_gather : ByteArray := prog_14_method_42_code
def y_Model_give : MethodName := ⟨R_Model, "give", "(III)I"⟩
abbrev b_Model_give : ByteArray := prog_14_method_27_code
def y_Model_handle : MethodName := ⟨R_Model, "handle", "(I)I"⟩
abbrev b_Model_handle : ByteArray := prog_14_method_51_code
def y_Model_hasHandlers : MethodName := ⟨R_Model, "hasHandlers", "()Z"⟩
abbrev b_Model_hasHandlers : ByteArray := prog_14_method_47_code
def y_Model_hasRoom : MethodName := ⟨R_Model, "hasRoom", "(I)Z"⟩
abbrev b_Model_hasRoom : ByteArray := prog_14_method_13_code
def y_Model_height : MethodName := ⟨R_Model, "height", "()I"⟩
abbrev b_Model_height : ByteArray := prog_14_method_22_code
def y_Model_implode : MethodName := ⟨R_Model, "implode", "()I"⟩
abbrev b_Model_implode : ByteArray := prog_14_method_77_code
def y_Model_init : MethodName := ⟨R_Model, "<init>", "()V"⟩
abbrev b_Model_init : ByteArray := prog_14_method_1_code
def y_Model_instruction : MethodName := ⟨R_Model, "instruction", "()I"⟩
abbrev b_Model_instruction : ByteArray := prog_14_method_33_code
def y_Model_is : MethodName := ⟨R_Model, "is", "(II)Z"⟩
abbrev b_Model_is : ByteArray := prog_14_method_24_code
def y_Model_isEqual : MethodName := ⟨R_Model, "isEqual", "()Z"⟩
abbrev b_Model_isEqual : ByteArray := prog_14_method_61_code
def y_Model_isList : MethodName := ⟨R_Model, "isList", "(II)Z"⟩
abbrev b_Model_isList : ByteArray := prog_14_method_76_code
def y_Model_isName : MethodName := ⟨R_Model, "isName", "(I)Z"⟩
abbrev b_Model_isName : ByteArray := prog_14_method_25_code
def y_Model_isOn : MethodName := ⟨R_Model, "isOn", "()Z"⟩
abbrev b_Model_isOn : ByteArray := prog_14_method_9_code
def y_Model_isSame : MethodName := ⟨R_Model, "isSame", "(II)Z"⟩
abbrev b_Model_isSame : ByteArray := prog_14_method_58_code
def y_Model_isScalar : MethodName := ⟨R_Model, "isScalar", "(I)Z"⟩
abbrev b_Model_isScalar : ByteArray := prog_14_method_23_code
def y_Model_join : MethodName := ⟨R_Model, "join", "()I"⟩
abbrev b_Model_join : ByteArray := prog_14_method_73_code
def y_Model_kindAt : MethodName := ⟨R_Model, "kindAt", "(I)I"⟩
abbrev b_Model_kindAt : ByteArray := prog_14_method_2_code
def y_Model_leader : MethodName := ⟨R_Model, "leader", "(I)I"⟩
abbrev b_Model_leader : ByteArray := prog_14_method_59_code
def y_Model_limits : MethodName := ⟨R_Model, "limits", "(III)Z"⟩
abbrev b_Model_limits : ByteArray := prog_14_method_84_code
def y_Model_look : MethodName := ⟨R_Model, "look", "(IJI)I"⟩
abbrev b_Model_look : ByteArray := prog_14_method_80_code
def y_Model_make : MethodName := ⟨R_Model, "make", "(IIII)I"⟩
abbrev b_Model_make : ByteArray := prog_14_method_15_code
def y_Model_makes : MethodName := ⟨R_Model, "makes", "(I)Z"⟩
abbrev b_Model_makes : ByteArray := prog_14_method_14_code
def y_Model_mark : MethodName := ⟨R_Model, "mark", "(II)V"⟩
abbrev b_Model_mark : ByteArray := prog_14_method_5_code
def y_Model_markAll : MethodName := ⟨R_Model, "markAll", "()V"⟩
abbrev b_Model_markAll : ByteArray := prog_14_method_6_code
def y_Model_markGlobals : MethodName := ⟨R_Model, "markGlobals", "()V"⟩
abbrev b_Model_markGlobals : ByteArray := prog_14_method_7_code
def y_Model_markRun : MethodName := ⟨R_Model, "markRun", "()V"⟩
abbrev b_Model_markRun : ByteArray := prog_14_method_10_code
def y_Model_meets : MethodName := ⟨R_Model, "meets", "(IIII)Z"⟩
abbrev b_Model_meets : ByteArray := prog_14_method_62_code
def y_Model_more : MethodName := ⟨R_Model, "more", "(II)I"⟩
abbrev b_Model_more : ByteArray := prog_14_method_28_code
def y_Model_name : MethodName := ⟨R_Model, "name", "(I)I"⟩
abbrev b_Model_name : ByteArray := prog_14_method_53_code
def y_Model_needs : MethodName := ⟨R_Model, "needs", "(II)I"⟩
abbrev b_Model_needs : ByteArray := prog_14_method_32_code
def y_Model_next : MethodName := ⟨R_Model, "next", "(II)I"⟩
abbrev b_Model_next : ByteArray := prog_14_method_29_code
def y_Model_numbers : MethodName := ⟨R_Model, "numbers", "(IZ)I"⟩
abbrev b_Model_numbers : ByteArray := prog_14_method_66_code
def y_Model_oneByte : MethodName := ⟨R_Model, "oneByte", "(I)I"⟩
abbrev b_Model_oneByte : ByteArray := prog_14_method_69_code
def y_Model_ordered : MethodName := ⟨R_Model, "ordered", "(II)I"⟩
abbrev b_Model_ordered : ByteArray := prog_14_method_72_code
def y_Model_others : MethodName := ⟨R_Model, "others", "(III)I"⟩
abbrev b_Model_others : ByteArray := prog_14_method_34_code
def y_Model_out : MethodName := ⟨R_Model, "out", "(I)I"⟩
abbrev b_Model_out : ByteArray := prog_14_method_83_code
def y_Model_packet : MethodName := ⟨R_Model, "packet", "()I"⟩
abbrev b_Model_packet : ByteArray := prog_14_method_54_code
def y_Model_part : MethodName := ⟨R_Model, "part", "(I)I"⟩
abbrev b_Model_part : ByteArray := prog_14_method_43_code
def y_Model_partsAt : MethodName := ⟨R_Model, "partsAt", "(I)I"⟩
abbrev b_Model_partsAt : ByteArray := prog_14_method_3_code
def y_Model_patch : MethodName := ⟨R_Model, "patch", "(I)I"⟩
abbrev b_Model_patch : ByteArray := prog_14_method_44_code
def y_Model_plain : MethodName := ⟨R_Model, "plain", "(III)I"⟩
abbrev b_Model_plain : ByteArray := prog_14_method_68_code
def y_Model_primitive : MethodName := ⟨R_Model, "primitive", "(I)I"⟩
abbrev b_Model_primitive : ByteArray := prog_14_method_65_code
def y_Model_print : MethodName := ⟨R_Model, "print", "()I"⟩
abbrev b_Model_print : ByteArray := prog_14_method_75_code
def y_Model_put : MethodName := ⟨R_Model, "put", "(J)I"⟩
abbrev b_Model_put : ByteArray := prog_14_method_18_code
def y_Model_raise : MethodName := ⟨R_Model, "raise", "(IIII)I"⟩
abbrev b_Model_raise : ByteArray := prog_14_method_52_code
def y_Model_raiseGlobal : MethodName := ⟨R_Model, "raiseGlobal", "(II)I"⟩
abbrev b_Model_raiseGlobal : ByteArray := prog_14_method_64_code
def y_Model_reached : MethodName := ⟨R_Model, "reached", "()I"⟩
abbrev b_Model_reached : ByteArray := prog_14_method_86_code
def y_Model_restore : MethodName := ⟨R_Model, "restore", "()I"⟩
abbrev b_Model_restore : ByteArray := prog_14_method_89_code
def y_Model_same : MethodName := ⟨R_Model, "same", "(IJIJ)Z"⟩
abbrev b_Model_same : ByteArray := prog_14_method_82_code
def y_Model_save : MethodName := ⟨R_Model, "save", "()I"⟩
abbrev b_Model_save : ByteArray := prog_14_method_88_code
def y_Model_scalar : MethodName := ⟨R_Model, "scalar", "(I)I"⟩
abbrev b_Model_scalar : ByteArray := prog_14_method_26_code
def y_Model_setByte : MethodName := ⟨R_Model, "setByte", "(III)V"⟩
abbrev b_Model_setByte : ByteArray := prog_14_method_37_code
def y_Model_setGlobal : MethodName := ⟨R_Model, "setGlobal", "(I)I"⟩
abbrev b_Model_setGlobal : ByteArray := prog_14_method_41_code
def y_Model_setLocals : MethodName := ⟨R_Model, "setLocals", "(I)I"⟩
abbrev b_Model_setLocals : ByteArray := prog_14_method_55_code
def y_Model_settle : MethodName := ⟨R_Model, "settle", "()I"⟩
abbrev b_Model_settle : ByteArray := prog_14_method_11_code
def y_Model_sizeAt : MethodName := ⟨R_Model, "sizeAt", "(I)I"⟩
abbrev b_Model_sizeAt : ByteArray := prog_14_method_4_code
def y_Model_slice : MethodName := ⟨R_Model, "slice", "()I"⟩
abbrev b_Model_slice : ByteArray := prog_14_method_74_code
def y_Model_slide : MethodName := ⟨R_Model, "slide", "()V"⟩
abbrev b_Model_slide : ByteArray := prog_14_method_12_code
def y_Model_start : MethodName := ⟨R_Model, "start", "(II)Z"⟩
abbrev b_Model_start : ByteArray := prog_14_method_20_code
def y_Model_step : MethodName := ⟨R_Model, "step", "(I)I"⟩
abbrev b_Model_step : ByteArray := prog_14_method_21_code
def y_Model_store : MethodName := ⟨R_Model, "store", "(I)I"⟩
abbrev b_Model_store : ByteArray := prog_14_method_39_code
def y_Model_string : MethodName := ⟨R_Model, "string", "(I)I"⟩
abbrev b_Model_string : ByteArray := prog_14_method_36_code
def y_Model_strings : MethodName := ⟨R_Model, "strings", "(I)I"⟩
abbrev b_Model_strings : ByteArray := prog_14_method_71_code
def y_Model_swap : MethodName := ⟨R_Model, "swap", "()I"⟩
abbrev b_Model_swap : ByteArray := prog_14_method_56_code
def y_Model_tail : MethodName := ⟨R_Model, "tail", "()I"⟩
abbrev b_Model_tail : ByteArray := prog_14_method_48_code
def y_Model_text : MethodName := ⟨R_Model, "text", "(I)I"⟩
abbrev b_Model_text : ByteArray := prog_14_method_35_code
def y_Model_unmark : MethodName := ⟨R_Model, "unmark", "()V"⟩
abbrev b_Model_unmark : ByteArray := prog_14_method_8_code
def y_Model_word : MethodName := ⟨R_Model, "word", "(I)I"⟩
abbrev b_Model_word : ByteArray := prog_14_method_30_code
def y_Model_words : MethodName := ⟨R_Model, "words", "()I"⟩
abbrev b_Model_words : ByteArray := prog_14_method_31_code
def y_Numbers_apply : MethodName := ⟨R_Numbers, "apply", "(II)I"⟩
abbrev b_Numbers_apply : ByteArray := prog_5_method_2_code
def y_Numbers_bits : MethodName := ⟨R_Numbers, "bits", "(III)I"⟩
abbrev b_Numbers_bits : ByteArray := prog_5_method_5_code
def y_Numbers_init : MethodName := ⟨R_Numbers, "<init>", "(LCellEngine$Stacks;)V"⟩
abbrev b_Numbers_init : ByteArray := prog_5_method_1_code
def y_Numbers_signed : MethodName := ⟨R_Numbers, "signed", "(IJJ)J"⟩
abbrev b_Numbers_signed : ByteArray := prog_5_method_3_code
def y_Numbers_unsigned : MethodName := ⟨R_Numbers, "unsigned", "(IJJ)I"⟩
abbrev b_Numbers_unsigned : ByteArray := prog_5_method_4_code
def y_Object_clone : MethodName := ⟨R_Object, "clone", "()Ljava/lang/Object;"⟩
def y_Object_init : MethodName := ⟨R_Object, "<init>", "()V"⟩
abbrev b_Object_init : ByteArray := object_method_1_code
def y_Objects_argument : MethodName := ⟨R_Objects, "argument", "()I"⟩
abbrev b_Objects_argument : ByteArray := prog_6_method_7_code
def y_Objects_captured : MethodName := ⟨R_Objects, "captured", "(I)I"⟩
abbrev b_Objects_captured : ByteArray := prog_6_method_9_code
def y_Objects_closure : MethodName := ⟨R_Objects, "closure", "(II)I"⟩
abbrev b_Objects_closure : ByteArray := prog_6_method_5_code
def y_Objects_field : MethodName := ⟨R_Objects, "field", "(I)I"⟩
abbrev b_Objects_field : ByteArray := prog_6_method_6_code
def y_Objects_global : MethodName := ⟨R_Objects, "global", "(I)I"⟩
abbrev b_Objects_global : ByteArray := prog_6_method_11_code
def y_Objects_init : MethodName := ⟨R_Objects, "<init>", "(LCellEngine$Program;LCellEngine$Stacks;LCellEngine$Heap;)V"⟩
abbrev b_Objects_init : ByteArray := prog_6_method_1_code
def y_Objects_isSame : MethodName := ⟨R_Objects, "isSame", "()I"⟩
abbrev b_Objects_isSame : ByteArray := prog_6_method_18_code
def y_Objects_likeConstant : MethodName := ⟨R_Objects, "likeConstant", "(I)I"⟩
abbrev b_Objects_likeConstant : ByteArray := prog_6_method_2_code
def y_Objects_name : MethodName := ⟨R_Objects, "name", "(I)I"⟩
abbrev b_Objects_name : ByteArray := prog_6_method_15_code
def y_Objects_nameOf : MethodName := ⟨R_Objects, "nameOf", "()I"⟩
abbrev b_Objects_nameOf : ByteArray := prog_6_method_17_code
def y_Objects_packet : MethodName := ⟨R_Objects, "packet", "()I"⟩
abbrev b_Objects_packet : ByteArray := prog_6_method_16_code
def y_Objects_patch : MethodName := ⟨R_Objects, "patch", "(I)I"⟩
abbrev b_Objects_patch : ByteArray := prog_6_method_10_code
def y_Objects_record : MethodName := ⟨R_Objects, "record", "(I)I"⟩
abbrev b_Objects_record : ByteArray := prog_6_method_4_code
def y_Objects_refer : MethodName := ⟨R_Objects, "refer", "()I"⟩
abbrev b_Objects_refer : ByteArray := prog_6_method_14_code
def y_Objects_referredTo : MethodName := ⟨R_Objects, "referredTo", "()I"⟩
abbrev b_Objects_referredTo : ByteArray := prog_6_method_13_code
def y_Objects_setGlobal : MethodName := ⟨R_Objects, "setGlobal", "(I)I"⟩
abbrev b_Objects_setGlobal : ByteArray := prog_6_method_12_code
def y_Objects_tag : MethodName := ⟨R_Objects, "tag", "()I"⟩
abbrev b_Objects_tag : ByteArray := prog_6_method_8_code
def y_Objects_wrap : MethodName := ⟨R_Objects, "wrap", "(III)I"⟩
abbrev b_Objects_wrap : ByteArray := prog_6_method_3_code
def y_Output_accept : MethodName := ⟨R_Output, "accept", "(I)I"⟩
abbrev b_Output_accept : ByteArray := prog_7_method_2_code
def y_Output_add : MethodName := ⟨R_Output, "add", "(I)V"⟩
abbrev b_Output_add : ByteArray := prog_7_method_3_code
def y_Output_init : MethodName := ⟨R_Output, "<init>", "()V"⟩
abbrev b_Output_init : ByteArray := prog_7_method_1_code
def y_Program_addBytes : MethodName := ⟨R_Program, "addBytes", "(J)I"⟩
abbrev b_Program_addBytes : ByteArray := prog_8_method_4_code
def y_Program_append : MethodName := ⟨R_Program, "append", "(I)I"⟩
abbrev b_Program_append : ByteArray := prog_8_method_2_code
def y_Program_beginOf : MethodName := ⟨R_Program, "beginOf", "(I)I"⟩
abbrev b_Program_beginOf : ByteArray := prog_8_method_7_code
def y_Program_bytesBeforeZero : MethodName := ⟨R_Program, "bytesBeforeZero", "(J)I"⟩
abbrev b_Program_bytesBeforeZero : ByteArray := prog_8_method_5_code
def y_Program_endConstant : MethodName := ⟨R_Program, "endConstant", "()I"⟩
abbrev b_Program_endConstant : ByteArray := prog_8_method_6_code
def y_Program_init : MethodName := ⟨R_Program, "<init>", "()V"⟩
abbrev b_Program_init : ByteArray := prog_8_method_1_code
def y_Program_shorten : MethodName := ⟨R_Program, "shorten", "(I)I"⟩
abbrev b_Program_shorten : ByteArray := prog_8_method_3_code
def y_Stacks_addHandler : MethodName := ⟨R_Stacks, "addHandler", "(II)I"⟩
abbrev b_Stacks_addHandler : ByteArray := prog_9_method_22_code
def y_Stacks_become : MethodName := ⟨R_Stacks, "become", "()V"⟩
abbrev b_Stacks_become : ByteArray := prog_9_method_20_code
def y_Stacks_begin : MethodName := ⟨R_Stacks, "begin", "()V"⟩
abbrev b_Stacks_begin : ByteArray := prog_9_method_2_code
def y_Stacks_clear : MethodName := ⟨R_Stacks, "clear", "()V"⟩
abbrev b_Stacks_clear : ByteArray := prog_9_method_3_code
def y_Stacks_closure : MethodName := ⟨R_Stacks, "closure", "()J"⟩
abbrev b_Stacks_closure : ByteArray := prog_9_method_7_code
def y_Stacks_drop : MethodName := ⟨R_Stacks, "drop", "()I"⟩
abbrev b_Stacks_drop : ByteArray := prog_9_method_14_code
def y_Stacks_enter : MethodName := ⟨R_Stacks, "enter", "(I)I"⟩
abbrev b_Stacks_enter : ByteArray := prog_9_method_18_code
def y_Stacks_hasHandler : MethodName := ⟨R_Stacks, "hasHandler", "()Z"⟩
abbrev b_Stacks_hasHandler : ByteArray := prog_9_method_17_code
def y_Stacks_height : MethodName := ⟨R_Stacks, "height", "()I"⟩
abbrev b_Stacks_height : ByteArray := prog_9_method_4_code
def y_Stacks_init : MethodName := ⟨R_Stacks, "<init>", "()V"⟩
abbrev b_Stacks_init : ByteArray := prog_9_method_1_code
def y_Stacks_isFull : MethodName := ⟨R_Stacks, "isFull", "()Z"⟩
abbrev b_Stacks_isFull : ByteArray := prog_9_method_6_code
def y_Stacks_leave : MethodName := ⟨R_Stacks, "leave", "()I"⟩
abbrev b_Stacks_leave : ByteArray := prog_9_method_21_code
def y_Stacks_local : MethodName := ⟨R_Stacks, "local", "(I)I"⟩
abbrev b_Stacks_local : ByteArray := prog_9_method_12_code
def y_Stacks_locals : MethodName := ⟨R_Stacks, "locals", "()I"⟩
abbrev b_Stacks_locals : ByteArray := prog_9_method_5_code
def y_Stacks_peek : MethodName := ⟨R_Stacks, "peek", "(I)J"⟩
abbrev b_Stacks_peek : ByteArray := prog_9_method_8_code
def y_Stacks_push : MethodName := ⟨R_Stacks, "push", "(J)I"⟩
abbrev b_Stacks_push : ByteArray := prog_9_method_9_code
def y_Stacks_replace : MethodName := ⟨R_Stacks, "replace", "(IJ)I"⟩
abbrev b_Stacks_replace : ByteArray := prog_9_method_10_code
def y_Stacks_setLocals : MethodName := ⟨R_Stacks, "setLocals", "(I)I"⟩
abbrev b_Stacks_setLocals : ByteArray := prog_9_method_16_code
def y_Stacks_store : MethodName := ⟨R_Stacks, "store", "(I)I"⟩
abbrev b_Stacks_store : ByteArray := prog_9_method_13_code
def y_Stacks_swap : MethodName := ⟨R_Stacks, "swap", "()I"⟩
abbrev b_Stacks_swap : ByteArray := prog_9_method_15_code
def y_Stacks_unwind : MethodName := ⟨R_Stacks, "unwind", "(JI)Z"⟩
abbrev b_Stacks_unwind : ByteArray := prog_9_method_24_code
def y_Stacks_widen : MethodName := ⟨R_Stacks, "widen", "(I)V"⟩
abbrev b_Stacks_widen : ByteArray := prog_9_method_11_code
def y_Stacks_widenFrames : MethodName := ⟨R_Stacks, "widenFrames", "()V"⟩
abbrev b_Stacks_widenFrames : ByteArray := prog_9_method_19_code
def y_Stacks_widenHandlers : MethodName := ⟨R_Stacks, "widenHandlers", "()V"⟩
abbrev b_Stacks_widenHandlers : ByteArray := prog_9_method_23_code
def y_Status_isDone : MethodName := ⟨R_Status, "isDone", "(I)Z"⟩
abbrev b_Status_isDone : ByteArray := prog_10_method_2_code
def y_Strings_apply : MethodName := ⟨R_Strings, "apply", "(I)I"⟩
abbrev b_Strings_apply : ByteArray := prog_11_method_2_code
def y_Strings_concatenate : MethodName := ⟨R_Strings, "concatenate", "()I"⟩
abbrev b_Strings_concatenate : ByteArray := prog_11_method_4_code
def y_Strings_copyBytes : MethodName := ⟨R_Strings, "copyBytes", "(IIIII)V"⟩
abbrev b_Strings_copyBytes : ByteArray := prog_11_method_5_code
def y_Strings_decimal : MethodName := ⟨R_Strings, "decimal", "()I"⟩
abbrev b_Strings_decimal : ByteArray := prog_11_method_11_code
def y_Strings_element : MethodName := ⟨R_Strings, "element", "()I"⟩
abbrev b_Strings_element : ByteArray := prog_11_method_8_code
def y_Strings_explode : MethodName := ⟨R_Strings, "explode", "()I"⟩
abbrev b_Strings_explode : ByteArray := prog_11_method_14_code
def y_Strings_implode : MethodName := ⟨R_Strings, "implode", "()I"⟩
abbrev b_Strings_implode : ByteArray := prog_11_method_12_code
def y_Strings_init : MethodName := ⟨R_Strings, "<init>", "(LCellEngine$Stacks;LCellEngine$Heap;LCellEngine$Output;)V"⟩
abbrev b_Strings_init : ByteArray := prog_11_method_1_code
def y_Strings_isByte : MethodName := ⟨R_Strings, "isByte", "(J)Z"⟩
abbrev b_Strings_isByte : ByteArray := prog_11_method_3_code
def y_Strings_listLength : MethodName := ⟨R_Strings, "listLength", "(J)I"⟩
abbrev b_Strings_listLength : ByteArray := prog_11_method_13_code
def y_Strings_order : MethodName := ⟨R_Strings, "order", "()I"⟩
abbrev b_Strings_order : ByteArray := prog_11_method_9_code
def y_Strings_print : MethodName := ⟨R_Strings, "print", "()I"⟩
abbrev b_Strings_print : ByteArray := prog_11_method_10_code
def y_Strings_single : MethodName := ⟨R_Strings, "single", "()I"⟩
abbrev b_Strings_single : ByteArray := prog_11_method_6_code
def y_Strings_substring : MethodName := ⟨R_Strings, "substring", "()I"⟩
abbrev b_Strings_substring : ByteArray := prog_11_method_7_code
def y_System_arraycopy : MethodName := ⟨R_System, "arraycopy", "(Ljava/lang/Object;ILjava/lang/Object;II)V"⟩
def y_Value_cellsOfString : MethodName := ⟨R_Value, "cellsOfString", "(I)I"⟩
abbrev b_Value_cellsOfString : ByteArray := prog_12_method_9_code
def y_Value_head : MethodName := ⟨R_Value, "head", "(III)J"⟩
abbrev b_Value_head : ByteArray := prog_12_method_7_code
def y_Value_kind : MethodName := ⟨R_Value, "kind", "(J)I"⟩
abbrev b_Value_kind : ByteArray := prog_12_method_2_code
def y_Value_number : MethodName := ⟨R_Value, "number", "(J)I"⟩
abbrev b_Value_number : ByteArray := prog_12_method_3_code
def y_Value_object : MethodName := ⟨R_Value, "object", "(II)J"⟩
abbrev b_Value_object : ByteArray := prog_12_method_6_code
def y_Value_scalar : MethodName := ⟨R_Value, "scalar", "(I)J"⟩
abbrev b_Value_scalar : ByteArray := prog_12_method_4_code
def y_Value_truth : MethodName := ⟨R_Value, "truth", "(Z)J"⟩
abbrev b_Value_truth : ByteArray := prog_12_method_5_code
def y_Value_withKind : MethodName := ⟨R_Value, "withKind", "(JI)J"⟩
abbrev b_Value_withKind : ByteArray := prog_12_method_8_code
abbrev classes : List vw_C := [(R_Program, F_Program, 7), (R_Output, F_Output, 2), (R_Stacks, F_Stacks, 12), (R_Heap, F_Heap, 20), (R_Objects, F_Objects, 4), (R_Equality, F_Equality, 4), (R_Numbers, F_Numbers, 1), (R_Strings, F_Strings, 3), (R_Machine, F_Machine, 15), (R_Engine, F_Engine, 4), (R_Model, F_Model, 54)]
end
section
theorem d_Math_min_0 : decode b_Math_min 0 = .ok (.iload_n 0, 1) := by decide +kernel
theorem d_Math_min_1 : decode b_Math_min 1 = .ok (.iload_n 1, 1) := by decide +kernel
theorem d_Math_min_2 : decode b_Math_min 2 = .ok (.if_icmp .gt 7, 3) := by decide +kernel
theorem d_Math_min_5 : decode b_Math_min 5 = .ok (.iload_n 0, 1) := by decide +kernel
theorem d_Math_min_6 : decode b_Math_min 6 = .ok (.goto 4, 3) := by decide +kernel
theorem d_Math_min_9 : decode b_Math_min 9 = .ok (.iload_n 1, 1) := by decide +kernel
theorem d_Math_min_10 : decode b_Math_min 10 = .ok (.ireturn, 1) := by decide +kernel
theorem d_Math_max_0 : decode b_Math_max 0 = .ok (.iload_n 0, 1) := by decide +kernel
theorem d_Math_max_1 : decode b_Math_max 1 = .ok (.iload_n 1, 1) := by decide +kernel
theorem d_Math_max_2 : decode b_Math_max 2 = .ok (.if_icmp .lt 7, 3) := by decide +kernel
theorem d_Math_max_5 : decode b_Math_max 5 = .ok (.iload_n 0, 1) := by decide +kernel
theorem d_Math_max_6 : decode b_Math_max 6 = .ok (.goto 4, 3) := by decide +kernel
theorem d_Math_max_9 : decode b_Math_max 9 = .ok (.iload_n 1, 1) := by decide +kernel
theorem d_Math_max_10 : decode b_Math_max 10 = .ok (.ireturn, 1) := by decide +kernel
theorem d_Math_floorDiv_0 : decode b_Math_floorDiv 0 = .ok (.lload_n 0, 1) := by decide +kernel
theorem d_Math_floorDiv_1 : decode b_Math_floorDiv 1 = .ok (.lload_n 2, 1) := by decide +kernel
theorem d_Math_floorDiv_2 : decode b_Math_floorDiv 2 = .ok (.ldiv, 1) := by decide +kernel
theorem d_Math_floorDiv_3 : decode b_Math_floorDiv 3 = .ok (.lstore 4, 2) := by decide +kernel
theorem d_Math_floorDiv_5 : decode b_Math_floorDiv 5 = .ok (.lload_n 0, 1) := by decide +kernel
theorem d_Math_floorDiv_6 : decode b_Math_floorDiv 6 = .ok (.lload_n 2, 1) := by decide +kernel
theorem d_Math_floorDiv_7 : decode b_Math_floorDiv 7 = .ok (.lxor, 1) := by decide +kernel
theorem d_Math_floorDiv_8 : decode b_Math_floorDiv 8 = .ok (.lconst 0, 1) := by decide +kernel
theorem d_Math_floorDiv_9 : decode b_Math_floorDiv 9 = .ok (.lcmp, 1) := by decide +kernel
theorem d_Math_floorDiv_10 : decode b_Math_floorDiv 10 = .ok (.ifCond .ge 17, 3) := by decide +kernel
theorem d_Math_floorDiv_13 : decode b_Math_floorDiv 13 = .ok (.lload 4, 2) := by decide +kernel
theorem d_Math_floorDiv_15 : decode b_Math_floorDiv 15 = .ok (.lload_n 2, 1) := by decide +kernel
theorem d_Math_floorDiv_16 : decode b_Math_floorDiv 16 = .ok (.lmul, 1) := by decide +kernel
theorem d_Math_floorDiv_17 : decode b_Math_floorDiv 17 = .ok (.lload_n 0, 1) := by decide +kernel
theorem d_Math_floorDiv_18 : decode b_Math_floorDiv 18 = .ok (.lcmp, 1) := by decide +kernel
theorem d_Math_floorDiv_19 : decode b_Math_floorDiv 19 = .ok (.ifCond .eq 8, 3) := by decide +kernel
theorem d_Math_floorDiv_22 : decode b_Math_floorDiv 22 = .ok (.lload 4, 2) := by decide +kernel
theorem d_Math_floorDiv_24 : decode b_Math_floorDiv 24 = .ok (.lconst 1, 1) := by decide +kernel
theorem d_Math_floorDiv_25 : decode b_Math_floorDiv 25 = .ok (.lsub, 1) := by decide +kernel
theorem d_Math_floorDiv_26 : decode b_Math_floorDiv 26 = .ok (.lreturn, 1) := by decide +kernel
theorem d_Math_floorDiv_27 : decode b_Math_floorDiv 27 = .ok (.lload 4, 2) := by decide +kernel
theorem d_Math_floorDiv_29 : decode b_Math_floorDiv 29 = .ok (.lreturn, 1) := by decide +kernel
theorem d_Math_floorMod_0 : decode b_Math_floorMod 0 = .ok (.lload_n 0, 1) := by decide +kernel
theorem d_Math_floorMod_1 : decode b_Math_floorMod 1 = .ok (.lload_n 2, 1) := by decide +kernel
theorem d_Math_floorMod_2 : decode b_Math_floorMod 2 = .ok (.lrem, 1) := by decide +kernel
theorem d_Math_floorMod_3 : decode b_Math_floorMod 3 = .ok (.lstore 4, 2) := by decide +kernel
theorem d_Math_floorMod_5 : decode b_Math_floorMod 5 = .ok (.lload_n 0, 1) := by decide +kernel
theorem d_Math_floorMod_6 : decode b_Math_floorMod 6 = .ok (.lload_n 2, 1) := by decide +kernel
theorem d_Math_floorMod_7 : decode b_Math_floorMod 7 = .ok (.lxor, 1) := by decide +kernel
theorem d_Math_floorMod_8 : decode b_Math_floorMod 8 = .ok (.lconst 0, 1) := by decide +kernel
theorem d_Math_floorMod_9 : decode b_Math_floorMod 9 = .ok (.lcmp, 1) := by decide +kernel
theorem d_Math_floorMod_10 : decode b_Math_floorMod 10 = .ok (.ifCond .ge 15, 3) := by decide +kernel
theorem d_Math_floorMod_13 : decode b_Math_floorMod 13 = .ok (.lload 4, 2) := by decide +kernel
theorem d_Math_floorMod_15 : decode b_Math_floorMod 15 = .ok (.lconst 0, 1) := by decide +kernel
theorem d_Math_floorMod_16 : decode b_Math_floorMod 16 = .ok (.lcmp, 1) := by decide +kernel
theorem d_Math_floorMod_17 : decode b_Math_floorMod 17 = .ok (.ifCond .eq 8, 3) := by decide +kernel
theorem d_Math_floorMod_20 : decode b_Math_floorMod 20 = .ok (.lload 4, 2) := by decide +kernel
theorem d_Math_floorMod_22 : decode b_Math_floorMod 22 = .ok (.lload_n 2, 1) := by decide +kernel
theorem d_Math_floorMod_23 : decode b_Math_floorMod 23 = .ok (.ladd, 1) := by decide +kernel
theorem d_Math_floorMod_24 : decode b_Math_floorMod 24 = .ok (.lreturn, 1) := by decide +kernel
theorem d_Math_floorMod_25 : decode b_Math_floorMod 25 = .ok (.lload 4, 2) := by decide +kernel
theorem d_Math_floorMod_27 : decode b_Math_floorMod 27 = .ok (.lreturn, 1) := by decide +kernel
theorem d_Value_kind_0 : decode b_Value_kind 0 = .ok (.lload_n 0, 1) := by decide +kernel
theorem d_Value_kind_1 : decode b_Value_kind 1 = .ok (.l2i, 1) := by decide +kernel
theorem d_Value_kind_2 : decode b_Value_kind 2 = .ok (.bipush 7, 2) := by decide +kernel
theorem d_Value_kind_4 : decode b_Value_kind 4 = .ok (.iand, 1) := by decide +kernel
theorem d_Value_kind_5 : decode b_Value_kind 5 = .ok (.ireturn, 1) := by decide +kernel
theorem d_Value_number_0 : decode b_Value_number 0 = .ok (.lload_n 0, 1) := by decide +kernel
theorem d_Value_number_1 : decode b_Value_number 1 = .ok (.iconst 3, 1) := by decide +kernel
theorem d_Value_number_2 : decode b_Value_number 2 = .ok (.lshr, 1) := by decide +kernel
theorem d_Value_number_3 : decode b_Value_number 3 = .ok (.l2i, 1) := by decide +kernel
theorem d_Value_number_4 : decode b_Value_number 4 = .ok (.ireturn, 1) := by decide +kernel
theorem d_Value_scalar_0 : decode b_Value_scalar 0 = .ok (.iload_n 0, 1) := by decide +kernel
theorem d_Value_scalar_1 : decode b_Value_scalar 1 = .ok (.i2l, 1) := by decide +kernel
theorem d_Value_scalar_2 : decode b_Value_scalar 2 = .ok (.iconst 3, 1) := by decide +kernel
theorem d_Value_scalar_3 : decode b_Value_scalar 3 = .ok (.lshl, 1) := by decide +kernel
theorem d_Value_scalar_4 : decode b_Value_scalar 4 = .ok (.lreturn, 1) := by decide +kernel
theorem d_Value_truth_0 : decode b_Value_truth 0 = .ok (.iload_n 0, 1) := by decide +kernel
theorem d_Value_truth_1 : decode b_Value_truth 1 = .ok (.ifCond .eq 9, 3) := by decide +kernel
theorem d_Value_truth_4 : decode b_Value_truth 4 = .ok (.ldc2_w 9, 3) := by decide +kernel
theorem d_Value_truth_7 : decode b_Value_truth 7 = .ok (.goto 4, 3) := by decide +kernel
theorem d_Value_truth_10 : decode b_Value_truth 10 = .ok (.lconst 0, 1) := by decide +kernel
theorem d_Value_truth_11 : decode b_Value_truth 11 = .ok (.lreturn, 1) := by decide +kernel
theorem d_Value_object_0 : decode b_Value_object 0 = .ok (.iload_n 1, 1) := by decide +kernel
theorem d_Value_object_1 : decode b_Value_object 1 = .ok (.i2l, 1) := by decide +kernel
theorem d_Value_object_2 : decode b_Value_object 2 = .ok (.iconst 3, 1) := by decide +kernel
theorem d_Value_object_3 : decode b_Value_object 3 = .ok (.lshl, 1) := by decide +kernel
theorem d_Value_object_4 : decode b_Value_object 4 = .ok (.iload_n 0, 1) := by decide +kernel
theorem d_Value_object_5 : decode b_Value_object 5 = .ok (.i2l, 1) := by decide +kernel
theorem d_Value_object_6 : decode b_Value_object 6 = .ok (.lor, 1) := by decide +kernel
theorem d_Value_object_7 : decode b_Value_object 7 = .ok (.lreturn, 1) := by decide +kernel
theorem d_Value_head_0 : decode b_Value_head 0 = .ok (.iload_n 2, 1) := by decide +kernel
theorem d_Value_head_1 : decode b_Value_head 1 = .ok (.i2l, 1) := by decide +kernel
theorem d_Value_head_2 : decode b_Value_head 2 = .ok (.bipush 35, 2) := by decide +kernel
theorem d_Value_head_4 : decode b_Value_head 4 = .ok (.lshl, 1) := by decide +kernel
theorem d_Value_head_5 : decode b_Value_head 5 = .ok (.iload_n 1, 1) := by decide +kernel
theorem d_Value_head_6 : decode b_Value_head 6 = .ok (.i2l, 1) := by decide +kernel
theorem d_Value_head_7 : decode b_Value_head 7 = .ok (.ldc2_w 11, 3) := by decide +kernel
theorem d_Value_head_10 : decode b_Value_head 10 = .ok (.land, 1) := by decide +kernel
theorem d_Value_head_11 : decode b_Value_head 11 = .ok (.iconst 3, 1) := by decide +kernel
theorem d_Value_head_12 : decode b_Value_head 12 = .ok (.lshl, 1) := by decide +kernel
theorem d_Value_head_13 : decode b_Value_head 13 = .ok (.lor, 1) := by decide +kernel
theorem d_Value_head_14 : decode b_Value_head 14 = .ok (.iload_n 0, 1) := by decide +kernel
theorem d_Value_head_15 : decode b_Value_head 15 = .ok (.i2l, 1) := by decide +kernel
theorem d_Value_head_16 : decode b_Value_head 16 = .ok (.lor, 1) := by decide +kernel
theorem d_Value_head_17 : decode b_Value_head 17 = .ok (.lreturn, 1) := by decide +kernel
theorem d_Value_withKind_0 : decode b_Value_withKind 0 = .ok (.lload_n 0, 1) := by decide +kernel
theorem d_Value_withKind_1 : decode b_Value_withKind 1 = .ok (.ldc2_w 13, 3) := by decide +kernel
theorem d_Value_withKind_4 : decode b_Value_withKind 4 = .ok (.land, 1) := by decide +kernel
theorem d_Value_withKind_5 : decode b_Value_withKind 5 = .ok (.iload_n 2, 1) := by decide +kernel
theorem d_Value_withKind_6 : decode b_Value_withKind 6 = .ok (.i2l, 1) := by decide +kernel
theorem d_Value_withKind_7 : decode b_Value_withKind 7 = .ok (.lor, 1) := by decide +kernel
theorem d_Value_withKind_8 : decode b_Value_withKind 8 = .ok (.lreturn, 1) := by decide +kernel
theorem d_Value_cellsOfString_0 : decode b_Value_cellsOfString 0 = .ok (.iconst 1, 1) := by decide +kernel
theorem d_Value_cellsOfString_1 : decode b_Value_cellsOfString 1 = .ok (.iload_n 0, 1) := by decide +kernel
theorem d_Value_cellsOfString_2 : decode b_Value_cellsOfString 2 = .ok (.iconst 3, 1) := by decide +kernel
theorem d_Value_cellsOfString_3 : decode b_Value_cellsOfString 3 = .ok (.iadd, 1) := by decide +kernel
theorem d_Value_cellsOfString_4 : decode b_Value_cellsOfString 4 = .ok (.iconst 4, 1) := by decide +kernel
theorem d_Value_cellsOfString_5 : decode b_Value_cellsOfString 5 = .ok (.idiv, 1) := by decide +kernel
theorem d_Value_cellsOfString_6 : decode b_Value_cellsOfString 6 = .ok (.iadd, 1) := by decide +kernel
theorem d_Value_cellsOfString_7 : decode b_Value_cellsOfString 7 = .ok (.ireturn, 1) := by decide +kernel
theorem d_Status_isDone_0 : decode b_Status_isDone 0 = .ok (.iload_n 0, 1) := by decide +kernel
theorem d_Status_isDone_1 : decode b_Status_isDone 1 = .ok (.iconst 5, 1) := by decide +kernel
theorem d_Status_isDone_2 : decode b_Status_isDone 2 = .ok (.if_icmp .eq 12, 3) := by decide +kernel
theorem d_Status_isDone_5 : decode b_Status_isDone 5 = .ok (.iload_n 0, 1) := by decide +kernel
theorem d_Status_isDone_6 : decode b_Status_isDone 6 = .ok (.ifCond .eq 8, 3) := by decide +kernel
theorem d_Status_isDone_9 : decode b_Status_isDone 9 = .ok (.iload_n 0, 1) := by decide +kernel
theorem d_Status_isDone_10 : decode b_Status_isDone 10 = .ok (.iconst 1, 1) := by decide +kernel
theorem d_Status_isDone_11 : decode b_Status_isDone 11 = .ok (.if_icmp .ne 7, 3) := by decide +kernel
theorem d_Status_isDone_14 : decode b_Status_isDone 14 = .ok (.iconst 1, 1) := by decide +kernel
theorem d_Status_isDone_15 : decode b_Status_isDone 15 = .ok (.goto 4, 3) := by decide +kernel
theorem d_Status_isDone_18 : decode b_Status_isDone 18 = .ok (.iconst 0, 1) := by decide +kernel
theorem d_Status_isDone_19 : decode b_Status_isDone 19 = .ok (.ireturn, 1) := by decide +kernel
theorem d_Engine_longer_0 : decode b_Engine_longer 0 = .ok (.iload_n 2, 1) := by decide +kernel
theorem d_Engine_longer_1 : decode b_Engine_longer 1 = .ok (.iload_n 1, 1) := by decide +kernel
theorem d_Engine_longer_2 : decode b_Engine_longer 2 = .ok (.iconst 2, 1) := by decide +kernel
theorem d_Engine_longer_3 : decode b_Engine_longer 3 = .ok (.iload_n 0, 1) := by decide +kernel
theorem d_Engine_longer_4 : decode b_Engine_longer 4 = .ok (.imul, 1) := by decide +kernel
theorem d_Engine_longer_5 : decode b_Engine_longer 5 = .ok (.invokestatic 143, 3) := by decide +kernel
theorem d_Engine_longer_8 : decode b_Engine_longer 8 = .ok (.invokestatic 148, 3) := by decide +kernel
theorem d_Engine_longer_11 : decode b_Engine_longer 11 = .ok (.ireturn, 1) := by decide +kernel
theorem k1 : Cond.constantLong R_Value 9 8 ∈ lw_g := kg (List.mem_append_right _ (List.mem_of_getElem? (i := 761) (by decide +kernel))) rfl
theorem k2 : Cond.constantLong R_Value 11 4294967295 ∈ lw_g := kg (List.mem_append_right _ (List.mem_of_getElem? (i := 538) (by decide +kernel))) rfl
theorem k3 : Cond.constantLong R_Value 13 (-8) ∈ lw_g := kg (List.mem_append_right _ (List.mem_of_getElem? (i := 749) (by decide +kernel))) rfl
theorem k4 : Cond.code y_Math_max b_Math_max 2 (some .int) ∈ lw_g := kg (List.mem_append_right _ (List.mem_of_getElem? (i := 358) (by decide +kernel))) rfl
theorem k5 : Cond.methodLink R_Engine 143 y_Math_max ∈ lw_g := kg (List.mem_append_right _ (List.mem_of_getElem? (i := 356) (by decide +kernel))) rfl
theorem k6 : Cond.static y_Math_max ∈ lw_g := kg (List.mem_append_right _ (List.mem_of_getElem? (i := 357) (by decide +kernel))) rfl
theorem k7 : Cond.initialized R_Math ∈ lw_g := kg (List.mem_append_right _ (List.mem_of_getElem? (i := 12) (by decide +kernel))) rfl
theorem k8 : Cond.code y_Math_min b_Math_min 2 (some .int) ∈ lw_g := kg (List.mem_append_right _ (List.mem_of_getElem? (i := 361) (by decide +kernel))) rfl
theorem k9 : Cond.methodLink R_Engine 148 y_Math_min ∈ lw_g := kg (List.mem_append_right _ (List.mem_of_getElem? (i := 359) (by decide +kernel))) rfl
theorem k10 : Cond.static y_Math_min ∈ lw_g := kg (List.mem_append_right _ (List.mem_of_getElem? (i := 360) (by decide +kernel))) rfl
def m_Math_min (N : Nat) (p0 : Int32) (p1 : Int32) : Option (Int32) := (if p1 < p0 then some p1 else some p0)
set_option maxHeartbeats 4000000 in
set_option maxRecDepth 100000 in
theorem c_Math_min (l : Launch) (dC : Nat → ClassId) (dI : Nat → Nat → Nat) (N : Nat) (p0 : Int32) (p1 : Int32) (z : Int32) (h : m_Math_min N p0 p1 = some z) : Met l y_Math_min (.code y_Math_min b_Math_min 2 (some .int) :: lw_g) ({ frames := 0, cells := 0, slots := 0, locals := 0 }) (va_Pc [.int p0, .int p1] (fun U => va_P (dC, dI) classes [] U.heap ∧ va_K (dC, dI) classes [] U)) (vp_Si (fun r => r = z)) 0 0 (fun _ => False) := by
  refine va_MetF (cc := b_Math_min) (maxL := 2) (ret := (some .int)) (by decide +kernel) rfl ?_
  intro p e s m args below meth c s₁ B hml hv
  obtain ⟨rfl, hP, hK⟩ := hv
  have hx := B.exec
  have hb := B.bytes
  have hr := B.returns
  have hg : ∀ w ∈ lw_g, w.before _ s = true := fun w hw => atoms_spec (ws := .code y_Math_min b_Math_min 2 (some .int) :: lw_g) B.pre w (List.mem_cons_of_mem _ hw)
  have hown : s.vm.findClass R_Math = some m.cls := findClass_of_methodNamed B.named
  have hlocks := B.notSynchronized
  clear B
  have hP : va_P (dC, dI) classes [] s.heap := hP
  have hl := lv_entry ([.int p0, .int p1]) (n := 2) (Nat.le_of_ble_eq_true rfl)
  rw [lg_entry_eq]
  generalize (lg_sl ([.int p0, .int p1]) ++ List.replicate (2 - (lg_sl ([.int p0, .int p1])).length) Slot.unset).toArray = ls at hl ⊢
  have hl : lv_has ls 2 [(0, .int p0), (1, .int p1)] := hl
  unfold m_Math_min at h
  refine lv_iload_n hx hb d_Math_min_0 rfl (lv_at hl 0 rfl) ?_
  refine lv_iload_n hx hb d_Math_min_1 rfl (lv_at hl 1 rfl) ?_
  refine lv_icmp_gt (tgt := 9) hx hb d_Math_min_2 (by decide) (fun c1 => ?_) (fun c1 => ?_)
  · rw [if_pos c1] at h
    refine lv_iload_n hx hb d_Math_min_9 rfl (lv_at hl 1 rfl) ?_
    obtain rfl := Option.some.inj h
    exact W.iret (v := p1) hx hb hr (fun t ht hW => ⟨_, rfl, rfl, ht⟩) (fun _ h => by cases h) d_Math_min_10
  · rw [if_neg c1] at h
    refine lv_iload_n hx hb d_Math_min_5 rfl (lv_at hl 0 rfl) ?_
    refine lv_goto (tgt := 10) hx hb d_Math_min_6 (by decide) ?_
    obtain rfl := Option.some.inj h
    exact W.iret (v := p0) hx hb hr (fun t ht hW => ⟨_, rfl, rfl, ht⟩) (fun _ h => by cases h) d_Math_min_10

def m_Math_max (N : Nat) (p0 : Int32) (p1 : Int32) : Option (Int32) := (if p0 < p1 then some p1 else some p0)
set_option maxHeartbeats 4000000 in
set_option maxRecDepth 100000 in
theorem c_Math_max (l : Launch) (dC : Nat → ClassId) (dI : Nat → Nat → Nat) (N : Nat) (p0 : Int32) (p1 : Int32) (z : Int32) (h : m_Math_max N p0 p1 = some z) : Met l y_Math_max (.code y_Math_max b_Math_max 2 (some .int) :: lw_g) ({ frames := 0, cells := 0, slots := 0, locals := 0 }) (va_Pc [.int p0, .int p1] (fun U => va_P (dC, dI) classes [] U.heap ∧ va_K (dC, dI) classes [] U)) (vp_Si (fun r => r = z)) 0 0 (fun _ => False) := by
  refine va_MetF (cc := b_Math_max) (maxL := 2) (ret := (some .int)) (by decide +kernel) rfl ?_
  intro p e s m args below meth c s₁ B hml hv
  obtain ⟨rfl, hP, hK⟩ := hv
  have hx := B.exec
  have hb := B.bytes
  have hr := B.returns
  have hg : ∀ w ∈ lw_g, w.before _ s = true := fun w hw => atoms_spec (ws := .code y_Math_max b_Math_max 2 (some .int) :: lw_g) B.pre w (List.mem_cons_of_mem _ hw)
  have hown : s.vm.findClass R_Math = some m.cls := findClass_of_methodNamed B.named
  have hlocks := B.notSynchronized
  clear B
  have hP : va_P (dC, dI) classes [] s.heap := hP
  have hl := lv_entry ([.int p0, .int p1]) (n := 2) (Nat.le_of_ble_eq_true rfl)
  rw [lg_entry_eq]
  generalize (lg_sl ([.int p0, .int p1]) ++ List.replicate (2 - (lg_sl ([.int p0, .int p1])).length) Slot.unset).toArray = ls at hl ⊢
  have hl : lv_has ls 2 [(0, .int p0), (1, .int p1)] := hl
  unfold m_Math_max at h
  refine lv_iload_n hx hb d_Math_max_0 rfl (lv_at hl 0 rfl) ?_
  refine lv_iload_n hx hb d_Math_max_1 rfl (lv_at hl 1 rfl) ?_
  refine lv_icmp_lt (tgt := 9) hx hb d_Math_max_2 (by decide) (fun c1 => ?_) (fun c1 => ?_)
  · rw [if_pos c1] at h
    refine lv_iload_n hx hb d_Math_max_9 rfl (lv_at hl 1 rfl) ?_
    obtain rfl := Option.some.inj h
    exact W.iret (v := p1) hx hb hr (fun t ht hW => ⟨_, rfl, rfl, ht⟩) (fun _ h => by cases h) d_Math_max_10
  · rw [if_neg c1] at h
    refine lv_iload_n hx hb d_Math_max_5 rfl (lv_at hl 0 rfl) ?_
    refine lv_goto (tgt := 10) hx hb d_Math_max_6 (by decide) ?_
    obtain rfl := Option.some.inj h
    exact W.iret (v := p0) hx hb hr (fun t ht hW => ⟨_, rfl, rfl, ht⟩) (fun _ h => by cases h) d_Math_max_10

def m_Math_floorDiv (N : Nat) (p0 : Int64) (p1 : Int64) : Option (Int64) := (if p1 = 0 then none else (if 0 ≤ (lg_cmp (p0 ^^^ p1) 0) then some (p0 / p1) else (if (lg_cmp ((p0 / p1) * p1) p0) = 0 then some (p0 / p1) else some ((p0 / p1) - 1))))
set_option maxHeartbeats 4000000 in
set_option maxRecDepth 100000 in
theorem c_Math_floorDiv (l : Launch) (dC : Nat → ClassId) (dI : Nat → Nat → Nat) (N : Nat) (p0 : Int64) (p1 : Int64) (z : Int64) (h : m_Math_floorDiv N p0 p1 = some z) : Met l y_Math_floorDiv (.code y_Math_floorDiv b_Math_floorDiv 6 (some .long) :: lw_g) ({ frames := 0, cells := 0, slots := 0, locals := 0 }) (va_Pc [.long p0, .long p1] (fun U => va_P (dC, dI) classes [] U.heap ∧ va_K (dC, dI) classes [] U)) (vp_Sl (fun r => r = z)) 0 0 (fun _ => False) := by
  refine va_MetF (cc := b_Math_floorDiv) (maxL := 6) (ret := (some .long)) (by decide +kernel) rfl ?_
  intro p e s m args below meth c s₁ B hml hv
  obtain ⟨rfl, hP, hK⟩ := hv
  have hx := B.exec
  have hb := B.bytes
  have hr := B.returns
  have hg : ∀ w ∈ lw_g, w.before _ s = true := fun w hw => atoms_spec (ws := .code y_Math_floorDiv b_Math_floorDiv 6 (some .long) :: lw_g) B.pre w (List.mem_cons_of_mem _ hw)
  have hown : s.vm.findClass R_Math = some m.cls := findClass_of_methodNamed B.named
  have hlocks := B.notSynchronized
  clear B
  have hP : va_P (dC, dI) classes [] s.heap := hP
  have hl := lv_entry ([.long p0, .long p1]) (n := 6) (Nat.le_of_ble_eq_true rfl)
  rw [lg_entry_eq]
  generalize (lg_sl ([.long p0, .long p1]) ++ List.replicate (6 - (lg_sl ([.long p0, .long p1])).length) Slot.unset).toArray = ls at hl ⊢
  have hl : lv_has ls 6 [(0, .long p0), (2, .long p1)] := hl
  unfold m_Math_floorDiv at h
  refine lv_lload_n hx hb d_Math_floorDiv_0 rfl (lv_at hl 0 rfl) ?_
  refine lv_lload_n hx hb d_Math_floorDiv_1 rfl (lv_at hl 1 rfl) ?_
  obtain ⟨i1, h⟩ := dz_oi h
  refine lv_ldiv hx hb d_Math_floorDiv_2 i1 ?_
  refine lv_lstore (lv' := [(4, .long (p0 / p1)), (0, .long p0), (2, .long p1)]) hx hb d_Math_floorDiv_3 hl (by decide) rfl (fun ls hl => ?_)
  refine lv_lload_n hx hb d_Math_floorDiv_5 rfl (lv_at hl 1 rfl) ?_
  refine lv_lload_n hx hb d_Math_floorDiv_6 rfl (lv_at hl 2 rfl) ?_
  refine lv_lxor hx hb d_Math_floorDiv_7 ?_
  refine lv_lconst (v := 0) hx hb d_Math_floorDiv_8 (by decide) ?_
  refine W.lcmp hx hb d_Math_floorDiv_9 ?_
  refine lv_if_ge (tgt := 27) hx hb d_Math_floorDiv_10 (by decide) (fun c2 => ?_) (fun c2 => ?_)
  · rw [if_pos c2] at h
    refine lv_lload hx hb d_Math_floorDiv_27 (lv_at hl 0 rfl) ?_
    obtain rfl := Option.some.inj h
    exact W.lret (v := p0 / p1) hx hb hr (fun t ht hW => ⟨_, rfl, rfl, ht⟩) (fun _ h => by cases h) d_Math_floorDiv_29
  · rw [if_neg c2] at h
    refine lv_lload hx hb d_Math_floorDiv_13 (lv_at hl 0 rfl) ?_
    refine lv_lload_n hx hb d_Math_floorDiv_15 rfl (lv_at hl 2 rfl) ?_
    refine lv_lmul hx hb d_Math_floorDiv_16 ?_
    refine lv_lload_n hx hb d_Math_floorDiv_17 rfl (lv_at hl 1 rfl) ?_
    refine W.lcmp hx hb d_Math_floorDiv_18 ?_
    refine lv_if_eq (tgt := 27) hx hb d_Math_floorDiv_19 (by decide) (fun c3 => ?_) (fun c3 => ?_)
    · rw [if_pos c3] at h
      refine lv_lload hx hb d_Math_floorDiv_27 (lv_at hl 0 rfl) ?_
      obtain rfl := Option.some.inj h
      exact W.lret (v := p0 / p1) hx hb hr (fun t ht hW => ⟨_, rfl, rfl, ht⟩) (fun _ h => by cases h) d_Math_floorDiv_29
    · rw [if_neg c3] at h
      refine lv_lload hx hb d_Math_floorDiv_22 (lv_at hl 0 rfl) ?_
      refine lv_lconst (v := 1) hx hb d_Math_floorDiv_24 (by decide) ?_
      refine lv_lsub hx hb d_Math_floorDiv_25 ?_
      obtain rfl := Option.some.inj h
      exact W.lret (v := (p0 / p1) - 1) hx hb hr (fun t ht hW => ⟨_, rfl, rfl, ht⟩) (fun _ h => by cases h) d_Math_floorDiv_26

def m_Math_floorMod (N : Nat) (p0 : Int64) (p1 : Int64) : Option (Int64) := (if p1 = 0 then none else (if 0 ≤ (lg_cmp (p0 ^^^ p1) 0) then some (p0 - p0 / p1 * p1) else (if (lg_cmp (p0 - p0 / p1 * p1) 0) = 0 then some (p0 - p0 / p1 * p1) else some ((p0 - p0 / p1 * p1) + p1))))
set_option maxHeartbeats 4000000 in
set_option maxRecDepth 100000 in
theorem c_Math_floorMod (l : Launch) (dC : Nat → ClassId) (dI : Nat → Nat → Nat) (N : Nat) (p0 : Int64) (p1 : Int64) (z : Int64) (h : m_Math_floorMod N p0 p1 = some z) : Met l y_Math_floorMod (.code y_Math_floorMod b_Math_floorMod 6 (some .long) :: lw_g) ({ frames := 0, cells := 0, slots := 0, locals := 0 }) (va_Pc [.long p0, .long p1] (fun U => va_P (dC, dI) classes [] U.heap ∧ va_K (dC, dI) classes [] U)) (vp_Sl (fun r => r = z)) 0 0 (fun _ => False) := by
  refine va_MetF (cc := b_Math_floorMod) (maxL := 6) (ret := (some .long)) (by decide +kernel) rfl ?_
  intro p e s m args below meth c s₁ B hml hv
  obtain ⟨rfl, hP, hK⟩ := hv
  have hx := B.exec
  have hb := B.bytes
  have hr := B.returns
  have hg : ∀ w ∈ lw_g, w.before _ s = true := fun w hw => atoms_spec (ws := .code y_Math_floorMod b_Math_floorMod 6 (some .long) :: lw_g) B.pre w (List.mem_cons_of_mem _ hw)
  have hown : s.vm.findClass R_Math = some m.cls := findClass_of_methodNamed B.named
  have hlocks := B.notSynchronized
  clear B
  have hP : va_P (dC, dI) classes [] s.heap := hP
  have hl := lv_entry ([.long p0, .long p1]) (n := 6) (Nat.le_of_ble_eq_true rfl)
  rw [lg_entry_eq]
  generalize (lg_sl ([.long p0, .long p1]) ++ List.replicate (6 - (lg_sl ([.long p0, .long p1])).length) Slot.unset).toArray = ls at hl ⊢
  have hl : lv_has ls 6 [(0, .long p0), (2, .long p1)] := hl
  unfold m_Math_floorMod at h
  refine lv_lload_n hx hb d_Math_floorMod_0 rfl (lv_at hl 0 rfl) ?_
  refine lv_lload_n hx hb d_Math_floorMod_1 rfl (lv_at hl 1 rfl) ?_
  obtain ⟨i1, h⟩ := dz_oi h
  refine lv_lrem hx hb d_Math_floorMod_2 i1 ?_
  refine lv_lstore (lv' := [(4, .long (p0 - p0 / p1 * p1)), (0, .long p0), (2, .long p1)]) hx hb d_Math_floorMod_3 hl (by decide) rfl (fun ls hl => ?_)
  refine lv_lload_n hx hb d_Math_floorMod_5 rfl (lv_at hl 1 rfl) ?_
  refine lv_lload_n hx hb d_Math_floorMod_6 rfl (lv_at hl 2 rfl) ?_
  refine lv_lxor hx hb d_Math_floorMod_7 ?_
  refine lv_lconst (v := 0) hx hb d_Math_floorMod_8 (by decide) ?_
  refine W.lcmp hx hb d_Math_floorMod_9 ?_
  refine lv_if_ge (tgt := 25) hx hb d_Math_floorMod_10 (by decide) (fun c2 => ?_) (fun c2 => ?_)
  · rw [if_pos c2] at h
    refine lv_lload hx hb d_Math_floorMod_25 (lv_at hl 0 rfl) ?_
    obtain rfl := Option.some.inj h
    exact W.lret (v := p0 - p0 / p1 * p1) hx hb hr (fun t ht hW => ⟨_, rfl, rfl, ht⟩) (fun _ h => by cases h) d_Math_floorMod_27
  · rw [if_neg c2] at h
    refine lv_lload hx hb d_Math_floorMod_13 (lv_at hl 0 rfl) ?_
    refine lv_lconst (v := 0) hx hb d_Math_floorMod_15 (by decide) ?_
    refine W.lcmp hx hb d_Math_floorMod_16 ?_
    refine lv_if_eq (tgt := 25) hx hb d_Math_floorMod_17 (by decide) (fun c3 => ?_) (fun c3 => ?_)
    · rw [if_pos c3] at h
      refine lv_lload hx hb d_Math_floorMod_25 (lv_at hl 0 rfl) ?_
      obtain rfl := Option.some.inj h
      exact W.lret (v := p0 - p0 / p1 * p1) hx hb hr (fun t ht hW => ⟨_, rfl, rfl, ht⟩) (fun _ h => by cases h) d_Math_floorMod_27
    · rw [if_neg c3] at h
      refine lv_lload hx hb d_Math_floorMod_20 (lv_at hl 0 rfl) ?_
      refine lv_lload_n hx hb d_Math_floorMod_22 rfl (lv_at hl 2 rfl) ?_
      refine lv_ladd hx hb d_Math_floorMod_23 ?_
      obtain rfl := Option.some.inj h
      exact W.lret (v := (p0 - p0 / p1 * p1) + p1) hx hb hr (fun t ht hW => ⟨_, rfl, rfl, ht⟩) (fun _ h => by cases h) d_Math_floorMod_24

def m_Value_kind (N : Nat) (p0 : Int64) : Option (Int32) := some (p0.toInt32 &&& 7)
set_option maxHeartbeats 4000000 in
set_option maxRecDepth 100000 in
theorem c_Value_kind (l : Launch) (dC : Nat → ClassId) (dI : Nat → Nat → Nat) (N : Nat) (p0 : Int64) (z : Int32) (h : m_Value_kind N p0 = some z) : Met l y_Value_kind (.code y_Value_kind b_Value_kind 2 (some .int) :: lw_g) ({ frames := 0, cells := 0, slots := 0, locals := 0 }) (va_Pc [.long p0] (fun U => va_P (dC, dI) classes [] U.heap ∧ va_K (dC, dI) classes [] U)) (vp_Si (fun r => r = z)) 0 0 (fun _ => False) := by
  refine Met.ofW (cc := b_Value_kind) (maxL := 2) (ret := (some .int)) (by decide +kernel) rfl ?_
  intro p e s m args below meth c s₁ B hml hv
  obtain ⟨rfl, hP, hK⟩ := hv
  have hx := B.exec
  have hb := B.bytes
  have hr := B.returns
  have hg : ∀ w ∈ lw_g, w.before _ s = true := fun w hw => atoms_spec (ws := .code y_Value_kind b_Value_kind 2 (some .int) :: lw_g) B.pre w (List.mem_cons_of_mem _ hw)
  have hown : s.vm.findClass R_Value = some m.cls := findClass_of_methodNamed B.named
  have hlocks := B.notSynchronized
  clear B
  have hP : va_P (dC, dI) classes [] s.heap := hP
  have hl := lv_entry ([.long p0]) (n := 2) (Nat.le_of_ble_eq_true rfl)
  rw [lg_entry_eq]
  generalize (lg_sl ([.long p0]) ++ List.replicate (2 - (lg_sl ([.long p0])).length) Slot.unset).toArray = ls at hl ⊢
  have hl : lv_has ls 2 [(0, .long p0)] := hl
  unfold m_Value_kind at h
  refine lv_lload_n hx hb d_Value_kind_0 rfl (lv_at hl 0 rfl) ?_
  refine lv_l2i (v := p0.toInt32) hx hb d_Value_kind_1 rfl ?_
  refine lv_bipush (v := 7) hx hb d_Value_kind_2 (by decide) ?_
  refine lv_iand hx hb d_Value_kind_4 ?_
  obtain rfl := Option.some.inj h
  exact W.iret (v := p0.toInt32 &&& 7) hx hb hr (fun t ht hW => ⟨_, rfl, rfl, ht⟩) (fun _ h => by cases h) d_Value_kind_5

def m_Value_number (N : Nat) (p0 : Int64) : Option (Int32) := some ((p0 >>> ((3 : Int32).toInt64 &&& 63)).toInt32)
set_option maxHeartbeats 4000000 in
set_option maxRecDepth 100000 in
theorem c_Value_number (l : Launch) (dC : Nat → ClassId) (dI : Nat → Nat → Nat) (N : Nat) (p0 : Int64) (z : Int32) (h : m_Value_number N p0 = some z) : Met l y_Value_number (.code y_Value_number b_Value_number 2 (some .int) :: lw_g) ({ frames := 0, cells := 0, slots := 0, locals := 0 }) (va_Pc [.long p0] (fun U => va_P (dC, dI) classes [] U.heap ∧ va_K (dC, dI) classes [] U)) (vp_Si (fun r => r = z)) 0 0 (fun _ => False) := by
  refine Met.ofW (cc := b_Value_number) (maxL := 2) (ret := (some .int)) (by decide +kernel) rfl ?_
  intro p e s m args below meth c s₁ B hml hv
  obtain ⟨rfl, hP, hK⟩ := hv
  have hx := B.exec
  have hb := B.bytes
  have hr := B.returns
  have hg : ∀ w ∈ lw_g, w.before _ s = true := fun w hw => atoms_spec (ws := .code y_Value_number b_Value_number 2 (some .int) :: lw_g) B.pre w (List.mem_cons_of_mem _ hw)
  have hown : s.vm.findClass R_Value = some m.cls := findClass_of_methodNamed B.named
  have hlocks := B.notSynchronized
  clear B
  have hP : va_P (dC, dI) classes [] s.heap := hP
  have hl := lv_entry ([.long p0]) (n := 2) (Nat.le_of_ble_eq_true rfl)
  rw [lg_entry_eq]
  generalize (lg_sl ([.long p0]) ++ List.replicate (2 - (lg_sl ([.long p0])).length) Slot.unset).toArray = ls at hl ⊢
  have hl : lv_has ls 2 [(0, .long p0)] := hl
  unfold m_Value_number at h
  refine lv_lload_n hx hb d_Value_number_0 rfl (lv_at hl 0 rfl) ?_
  refine lv_iconst (v := 3) hx hb d_Value_number_1 (by decide) ?_
  refine lv_lshr (v := p0 >>> ((3 : Int32).toInt64 &&& 63)) hx hb d_Value_number_2 rfl ?_
  refine lv_l2i (v := (p0 >>> ((3 : Int32).toInt64 &&& 63)).toInt32) hx hb d_Value_number_3 rfl ?_
  obtain rfl := Option.some.inj h
  exact W.iret (v := (p0 >>> ((3 : Int32).toInt64 &&& 63)).toInt32) hx hb hr (fun t ht hW => ⟨_, rfl, rfl, ht⟩) (fun _ h => by cases h) d_Value_number_4

def m_Value_scalar (N : Nat) (p0 : Int32) : Option (Int64) := some (p0.toInt64 <<< ((3 : Int32).toInt64 &&& 63))
set_option maxHeartbeats 4000000 in
set_option maxRecDepth 100000 in
theorem c_Value_scalar (l : Launch) (dC : Nat → ClassId) (dI : Nat → Nat → Nat) (N : Nat) (p0 : Int32) (z : Int64) (h : m_Value_scalar N p0 = some z) : Met l y_Value_scalar (.code y_Value_scalar b_Value_scalar 1 (some .long) :: lw_g) ({ frames := 0, cells := 0, slots := 0, locals := 0 }) (va_Pc [.int p0] (fun U => va_P (dC, dI) classes [] U.heap ∧ va_K (dC, dI) classes [] U)) (vp_Sl (fun r => r = z)) 0 0 (fun _ => False) := by
  refine Met.ofW (cc := b_Value_scalar) (maxL := 1) (ret := (some .long)) (by decide +kernel) rfl ?_
  intro p e s m args below meth c s₁ B hml hv
  obtain ⟨rfl, hP, hK⟩ := hv
  have hx := B.exec
  have hb := B.bytes
  have hr := B.returns
  have hg : ∀ w ∈ lw_g, w.before _ s = true := fun w hw => atoms_spec (ws := .code y_Value_scalar b_Value_scalar 1 (some .long) :: lw_g) B.pre w (List.mem_cons_of_mem _ hw)
  have hown : s.vm.findClass R_Value = some m.cls := findClass_of_methodNamed B.named
  have hlocks := B.notSynchronized
  clear B
  have hP : va_P (dC, dI) classes [] s.heap := hP
  have hl := lv_entry ([.int p0]) (n := 1) (Nat.le_of_ble_eq_true rfl)
  rw [lg_entry_eq]
  generalize (lg_sl ([.int p0]) ++ List.replicate (1 - (lg_sl ([.int p0])).length) Slot.unset).toArray = ls at hl ⊢
  have hl : lv_has ls 1 [(0, .int p0)] := hl
  unfold m_Value_scalar at h
  refine lv_iload_n hx hb d_Value_scalar_0 rfl (lv_at hl 0 rfl) ?_
  refine lv_i2l (v := p0.toInt64) hx hb d_Value_scalar_1 rfl ?_
  refine lv_iconst (v := 3) hx hb d_Value_scalar_2 (by decide) ?_
  refine lv_lshl (v := p0.toInt64 <<< ((3 : Int32).toInt64 &&& 63)) hx hb d_Value_scalar_3 rfl ?_
  obtain rfl := Option.some.inj h
  exact W.lret (v := p0.toInt64 <<< ((3 : Int32).toInt64 &&& 63)) hx hb hr (fun t ht hW => ⟨_, rfl, rfl, ht⟩) (fun _ h => by cases h) d_Value_scalar_4

def m_Value_truth (N : Nat) (p0 : Int32) : Option (Int64) := (if p0 = 0 then some (0 : Int64) else some (8 : Int64))
set_option maxHeartbeats 4000000 in
set_option maxRecDepth 100000 in
theorem c_Value_truth (l : Launch) (dC : Nat → ClassId) (dI : Nat → Nat → Nat) (N : Nat) (p0 : Int32) (z : Int64) (h : m_Value_truth N p0 = some z) : Met l y_Value_truth (.code y_Value_truth b_Value_truth 1 (some .long) :: lw_g) ({ frames := 0, cells := 0, slots := 0, locals := 0 }) (va_Pc [.int p0] (fun U => va_P (dC, dI) classes [] U.heap ∧ va_K (dC, dI) classes [] U)) (vp_Sl (fun r => r = z)) 0 0 (fun _ => False) := by
  refine Met.ofW (cc := b_Value_truth) (maxL := 1) (ret := (some .long)) (by decide +kernel) rfl ?_
  intro p e s m args below meth c s₁ B hml hv
  obtain ⟨rfl, hP, hK⟩ := hv
  have hx := B.exec
  have hb := B.bytes
  have hr := B.returns
  have hg : ∀ w ∈ lw_g, w.before _ s = true := fun w hw => atoms_spec (ws := .code y_Value_truth b_Value_truth 1 (some .long) :: lw_g) B.pre w (List.mem_cons_of_mem _ hw)
  have hown : s.vm.findClass R_Value = some m.cls := findClass_of_methodNamed B.named
  have hlocks := B.notSynchronized
  clear B
  have hP : va_P (dC, dI) classes [] s.heap := hP
  have hl := lv_entry ([.int p0]) (n := 1) (Nat.le_of_ble_eq_true rfl)
  rw [lg_entry_eq]
  generalize (lg_sl ([.int p0]) ++ List.replicate (1 - (lg_sl ([.int p0])).length) Slot.unset).toArray = ls at hl ⊢
  have hl : lv_has ls 1 [(0, .int p0)] := hl
  unfold m_Value_truth at h
  refine lv_iload_n hx hb d_Value_truth_0 rfl (lv_at hl 0 rfl) ?_
  refine lv_if_eq (tgt := 10) hx hb d_Value_truth_1 (by decide) (fun c1 => ?_) (fun c1 => ?_)
  · rw [if_pos c1] at h
    refine lv_lconst (v := 0) hx hb d_Value_truth_10 (by decide) ?_
    obtain rfl := Option.some.inj h
    exact W.lret (v := 0) hx hb hr (fun t ht hW => ⟨_, rfl, rfl, ht⟩) (fun _ h => by cases h) d_Value_truth_11
  · rw [if_neg c1] at h
    refine lv_ldc2 (v := 8) hx hb hown (hg _ k1) d_Value_truth_4 ?_
    refine lv_goto (tgt := 11) hx hb d_Value_truth_7 (by decide) ?_
    obtain rfl := Option.some.inj h
    exact W.lret (v := 8) hx hb hr (fun t ht hW => ⟨_, rfl, rfl, ht⟩) (fun _ h => by cases h) d_Value_truth_11

def m_Value_object (N : Nat) (p0 : Int32) (p1 : Int32) : Option (Int64) := some ((p1.toInt64 <<< ((3 : Int32).toInt64 &&& 63)) ||| p0.toInt64)
set_option maxHeartbeats 4000000 in
set_option maxRecDepth 100000 in
theorem c_Value_object (l : Launch) (dC : Nat → ClassId) (dI : Nat → Nat → Nat) (N : Nat) (p0 : Int32) (p1 : Int32) (z : Int64) (h : m_Value_object N p0 p1 = some z) : Met l y_Value_object (.code y_Value_object b_Value_object 2 (some .long) :: lw_g) ({ frames := 0, cells := 0, slots := 0, locals := 0 }) (va_Pc [.int p0, .int p1] (fun U => va_P (dC, dI) classes [] U.heap ∧ va_K (dC, dI) classes [] U)) (vp_Sl (fun r => r = z)) 0 0 (fun _ => False) := by
  refine Met.ofW (cc := b_Value_object) (maxL := 2) (ret := (some .long)) (by decide +kernel) rfl ?_
  intro p e s m args below meth c s₁ B hml hv
  obtain ⟨rfl, hP, hK⟩ := hv
  have hx := B.exec
  have hb := B.bytes
  have hr := B.returns
  have hg : ∀ w ∈ lw_g, w.before _ s = true := fun w hw => atoms_spec (ws := .code y_Value_object b_Value_object 2 (some .long) :: lw_g) B.pre w (List.mem_cons_of_mem _ hw)
  have hown : s.vm.findClass R_Value = some m.cls := findClass_of_methodNamed B.named
  have hlocks := B.notSynchronized
  clear B
  have hP : va_P (dC, dI) classes [] s.heap := hP
  have hl := lv_entry ([.int p0, .int p1]) (n := 2) (Nat.le_of_ble_eq_true rfl)
  rw [lg_entry_eq]
  generalize (lg_sl ([.int p0, .int p1]) ++ List.replicate (2 - (lg_sl ([.int p0, .int p1])).length) Slot.unset).toArray = ls at hl ⊢
  have hl : lv_has ls 2 [(0, .int p0), (1, .int p1)] := hl
  unfold m_Value_object at h
  refine lv_iload_n hx hb d_Value_object_0 rfl (lv_at hl 1 rfl) ?_
  refine lv_i2l (v := p1.toInt64) hx hb d_Value_object_1 rfl ?_
  refine lv_iconst (v := 3) hx hb d_Value_object_2 (by decide) ?_
  refine lv_lshl (v := p1.toInt64 <<< ((3 : Int32).toInt64 &&& 63)) hx hb d_Value_object_3 rfl ?_
  refine lv_iload_n hx hb d_Value_object_4 rfl (lv_at hl 0 rfl) ?_
  refine lv_i2l (v := p0.toInt64) hx hb d_Value_object_5 rfl ?_
  refine lv_lor hx hb d_Value_object_6 ?_
  obtain rfl := Option.some.inj h
  exact W.lret (v := (p1.toInt64 <<< ((3 : Int32).toInt64 &&& 63)) ||| p0.toInt64) hx hb hr (fun t ht hW => ⟨_, rfl, rfl, ht⟩) (fun _ h => by cases h) d_Value_object_7

def m_Value_head (N : Nat) (p0 : Int32) (p1 : Int32) (p2 : Int32) : Option (Int64) := dz_let ((p2.toInt64 <<< ((35 : Int32).toInt64 &&& 63)) ||| ((p1.toInt64 &&& 4294967295) <<< ((3 : Int32).toInt64 &&& 63))) (fun x1 => some (x1 ||| p0.toInt64))
set_option maxHeartbeats 4000000 in
set_option maxRecDepth 100000 in
theorem c_Value_head (l : Launch) (dC : Nat → ClassId) (dI : Nat → Nat → Nat) (N : Nat) (p0 : Int32) (p1 : Int32) (p2 : Int32) (z : Int64) (h : m_Value_head N p0 p1 p2 = some z) : Met l y_Value_head (.code y_Value_head b_Value_head 3 (some .long) :: lw_g) ({ frames := 0, cells := 0, slots := 0, locals := 0 }) (va_Pc [.int p0, .int p1, .int p2] (fun U => va_P (dC, dI) classes [] U.heap ∧ va_K (dC, dI) classes [] U)) (vp_Sl (fun r => r = z)) 0 0 (fun _ => False) := by
  refine Met.ofW (cc := b_Value_head) (maxL := 3) (ret := (some .long)) (by decide +kernel) rfl ?_
  intro p e s m args below meth c s₁ B hml hv
  obtain ⟨rfl, hP, hK⟩ := hv
  have hx := B.exec
  have hb := B.bytes
  have hr := B.returns
  have hg : ∀ w ∈ lw_g, w.before _ s = true := fun w hw => atoms_spec (ws := .code y_Value_head b_Value_head 3 (some .long) :: lw_g) B.pre w (List.mem_cons_of_mem _ hw)
  have hown : s.vm.findClass R_Value = some m.cls := findClass_of_methodNamed B.named
  have hlocks := B.notSynchronized
  clear B
  have hP : va_P (dC, dI) classes [] s.heap := hP
  have hl := lv_entry ([.int p0, .int p1, .int p2]) (n := 3) (Nat.le_of_ble_eq_true rfl)
  rw [lg_entry_eq]
  generalize (lg_sl ([.int p0, .int p1, .int p2]) ++ List.replicate (3 - (lg_sl ([.int p0, .int p1, .int p2])).length) Slot.unset).toArray = ls at hl ⊢
  have hl : lv_has ls 3 [(0, .int p0), (1, .int p1), (2, .int p2)] := hl
  unfold m_Value_head at h
  refine lv_iload_n hx hb d_Value_head_0 rfl (lv_at hl 2 rfl) ?_
  refine lv_i2l (v := p2.toInt64) hx hb d_Value_head_1 rfl ?_
  refine lv_bipush (v := 35) hx hb d_Value_head_2 (by decide) ?_
  refine lv_lshl (v := p2.toInt64 <<< ((35 : Int32).toInt64 &&& 63)) hx hb d_Value_head_4 rfl ?_
  refine lv_iload_n hx hb d_Value_head_5 rfl (lv_at hl 1 rfl) ?_
  refine lv_i2l (v := p1.toInt64) hx hb d_Value_head_6 rfl ?_
  refine lv_ldc2 (v := 4294967295) hx hb hown (hg _ k2) d_Value_head_7 ?_
  refine lv_land hx hb d_Value_head_10 ?_
  refine lv_iconst (v := 3) hx hb d_Value_head_11 (by decide) ?_
  refine lv_lshl (v := (p1.toInt64 &&& 4294967295) <<< ((3 : Int32).toInt64 &&& 63)) hx hb d_Value_head_12 rfl ?_
  refine lv_lor hx hb d_Value_head_13 ?_
  obtain ⟨x1, ex1, h⟩ := dz_lt h
  refine dz_topl ex1 ?_
  refine lv_iload_n hx hb d_Value_head_14 rfl (lv_at hl 0 rfl) ?_
  refine lv_i2l (v := p0.toInt64) hx hb d_Value_head_15 rfl ?_
  refine lv_lor hx hb d_Value_head_16 ?_
  obtain rfl := Option.some.inj h
  exact W.lret (v := x1 ||| p0.toInt64) hx hb hr (fun t ht hW => ⟨_, rfl, rfl, ht⟩) (fun _ h => by cases h) d_Value_head_17

def m_Value_withKind (N : Nat) (p0 : Int64) (p1 : Int32) : Option (Int64) := some ((p0 &&& (-8)) ||| p1.toInt64)
set_option maxHeartbeats 4000000 in
set_option maxRecDepth 100000 in
theorem c_Value_withKind (l : Launch) (dC : Nat → ClassId) (dI : Nat → Nat → Nat) (N : Nat) (p0 : Int64) (p1 : Int32) (z : Int64) (h : m_Value_withKind N p0 p1 = some z) : Met l y_Value_withKind (.code y_Value_withKind b_Value_withKind 3 (some .long) :: lw_g) ({ frames := 0, cells := 0, slots := 0, locals := 0 }) (va_Pc [.long p0, .int p1] (fun U => va_P (dC, dI) classes [] U.heap ∧ va_K (dC, dI) classes [] U)) (vp_Sl (fun r => r = z)) 0 0 (fun _ => False) := by
  refine Met.ofW (cc := b_Value_withKind) (maxL := 3) (ret := (some .long)) (by decide +kernel) rfl ?_
  intro p e s m args below meth c s₁ B hml hv
  obtain ⟨rfl, hP, hK⟩ := hv
  have hx := B.exec
  have hb := B.bytes
  have hr := B.returns
  have hg : ∀ w ∈ lw_g, w.before _ s = true := fun w hw => atoms_spec (ws := .code y_Value_withKind b_Value_withKind 3 (some .long) :: lw_g) B.pre w (List.mem_cons_of_mem _ hw)
  have hown : s.vm.findClass R_Value = some m.cls := findClass_of_methodNamed B.named
  have hlocks := B.notSynchronized
  clear B
  have hP : va_P (dC, dI) classes [] s.heap := hP
  have hl := lv_entry ([.long p0, .int p1]) (n := 3) (Nat.le_of_ble_eq_true rfl)
  rw [lg_entry_eq]
  generalize (lg_sl ([.long p0, .int p1]) ++ List.replicate (3 - (lg_sl ([.long p0, .int p1])).length) Slot.unset).toArray = ls at hl ⊢
  have hl : lv_has ls 3 [(0, .long p0), (2, .int p1)] := hl
  unfold m_Value_withKind at h
  refine lv_lload_n hx hb d_Value_withKind_0 rfl (lv_at hl 0 rfl) ?_
  refine lv_ldc2 (v := (-8)) hx hb hown (hg _ k3) d_Value_withKind_1 ?_
  refine lv_land hx hb d_Value_withKind_4 ?_
  refine lv_iload_n hx hb d_Value_withKind_5 rfl (lv_at hl 1 rfl) ?_
  refine lv_i2l (v := p1.toInt64) hx hb d_Value_withKind_6 rfl ?_
  refine lv_lor hx hb d_Value_withKind_7 ?_
  obtain rfl := Option.some.inj h
  exact W.lret (v := (p0 &&& (-8)) ||| p1.toInt64) hx hb hr (fun t ht hW => ⟨_, rfl, rfl, ht⟩) (fun _ h => by cases h) d_Value_withKind_8

def m_Value_cellsOfString (N : Nat) (p0 : Int32) : Option (Int32) := some (1 + ((p0 + 3) / 4))
set_option maxHeartbeats 4000000 in
set_option maxRecDepth 100000 in
theorem c_Value_cellsOfString (l : Launch) (dC : Nat → ClassId) (dI : Nat → Nat → Nat) (N : Nat) (p0 : Int32) (z : Int32) (h : m_Value_cellsOfString N p0 = some z) : Met l y_Value_cellsOfString (.code y_Value_cellsOfString b_Value_cellsOfString 1 (some .int) :: lw_g) ({ frames := 0, cells := 0, slots := 0, locals := 0 }) (va_Pc [.int p0] (fun U => va_P (dC, dI) classes [] U.heap ∧ va_K (dC, dI) classes [] U)) (vp_Si (fun r => r = z)) 0 0 (fun _ => False) := by
  refine Met.ofW (cc := b_Value_cellsOfString) (maxL := 1) (ret := (some .int)) (by decide +kernel) rfl ?_
  intro p e s m args below meth c s₁ B hml hv
  obtain ⟨rfl, hP, hK⟩ := hv
  have hx := B.exec
  have hb := B.bytes
  have hr := B.returns
  have hg : ∀ w ∈ lw_g, w.before _ s = true := fun w hw => atoms_spec (ws := .code y_Value_cellsOfString b_Value_cellsOfString 1 (some .int) :: lw_g) B.pre w (List.mem_cons_of_mem _ hw)
  have hown : s.vm.findClass R_Value = some m.cls := findClass_of_methodNamed B.named
  have hlocks := B.notSynchronized
  clear B
  have hP : va_P (dC, dI) classes [] s.heap := hP
  have hl := lv_entry ([.int p0]) (n := 1) (Nat.le_of_ble_eq_true rfl)
  rw [lg_entry_eq]
  generalize (lg_sl ([.int p0]) ++ List.replicate (1 - (lg_sl ([.int p0])).length) Slot.unset).toArray = ls at hl ⊢
  have hl : lv_has ls 1 [(0, .int p0)] := hl
  unfold m_Value_cellsOfString at h
  refine lv_iconst (v := 1) hx hb d_Value_cellsOfString_0 (by decide) ?_
  refine lv_iload_n hx hb d_Value_cellsOfString_1 rfl (lv_at hl 0 rfl) ?_
  refine lv_iconst (v := 3) hx hb d_Value_cellsOfString_2 (by decide) ?_
  refine lv_iadd hx hb d_Value_cellsOfString_3 ?_
  refine lv_iconst (v := 4) hx hb d_Value_cellsOfString_4 (by decide) ?_
  refine lv_idiv hx hb d_Value_cellsOfString_5 (by decide) ?_
  refine lv_iadd hx hb d_Value_cellsOfString_6 ?_
  obtain rfl := Option.some.inj h
  exact W.iret (v := 1 + ((p0 + 3) / 4)) hx hb hr (fun t ht hW => ⟨_, rfl, rfl, ht⟩) (fun _ h => by cases h) d_Value_cellsOfString_7

def m_Status_isDone (N : Nat) (p0 : Int32) : Option (Int32) := (if p0 = 5 then some (1 : Int32) else (if p0 = 0 then some (1 : Int32) else (if p0 = 1 then some (1 : Int32) else some (0 : Int32))))
set_option maxHeartbeats 4000000 in
set_option maxRecDepth 100000 in
theorem c_Status_isDone (l : Launch) (dC : Nat → ClassId) (dI : Nat → Nat → Nat) (N : Nat) (p0 : Int32) (z : Int32) (h : m_Status_isDone N p0 = some z) : Met l y_Status_isDone (.code y_Status_isDone b_Status_isDone 1 (some .boolean) :: lw_g) ({ frames := 0, cells := 0, slots := 0, locals := 0 }) (va_Pc [.int p0] (fun U => va_P (dC, dI) classes [] U.heap ∧ va_K (dC, dI) classes [] U)) (vp_Si (fun r => r = z ∧ narrow .boolean (.int z) = .int z ∧ fits .boolean (.int z) = true)) 0 0 (fun _ => False) := by
  refine Met.ofW (cc := b_Status_isDone) (maxL := 1) (ret := (some .boolean)) (by decide +kernel) rfl ?_
  intro p e s m args below meth c s₁ B hml hv
  obtain ⟨rfl, hP, hK⟩ := hv
  have hx := B.exec
  have hb := B.bytes
  have hr := B.returns
  have hg : ∀ w ∈ lw_g, w.before _ s = true := fun w hw => atoms_spec (ws := .code y_Status_isDone b_Status_isDone 1 (some .boolean) :: lw_g) B.pre w (List.mem_cons_of_mem _ hw)
  have hown : s.vm.findClass R_Status = some m.cls := findClass_of_methodNamed B.named
  have hlocks := B.notSynchronized
  clear B
  have hP : va_P (dC, dI) classes [] s.heap := hP
  have hl := lv_entry ([.int p0]) (n := 1) (Nat.le_of_ble_eq_true rfl)
  rw [lg_entry_eq]
  generalize (lg_sl ([.int p0]) ++ List.replicate (1 - (lg_sl ([.int p0])).length) Slot.unset).toArray = ls at hl ⊢
  have hl : lv_has ls 1 [(0, .int p0)] := hl
  unfold m_Status_isDone at h
  refine lv_iload_n hx hb d_Status_isDone_0 rfl (lv_at hl 0 rfl) ?_
  refine lv_iconst (v := 5) hx hb d_Status_isDone_1 (by decide) ?_
  refine lv_icmp_eq (tgt := 14) hx hb d_Status_isDone_2 (by decide) (fun c1 => ?_) (fun c1 => ?_)
  · rw [if_pos c1] at h
    refine lv_iconst (v := 1) hx hb d_Status_isDone_14 (by decide) ?_
    refine lv_goto (tgt := 19) hx hb d_Status_isDone_15 (by decide) ?_
    obtain rfl := Option.some.inj h
    exact W.zret (v := 1) (ty := .boolean) hx hb hr rfl (fun t ht hW => ⟨_, rfl, ⟨rfl, rfl, rfl⟩, ht⟩) (fun _ h => by cases h) d_Status_isDone_19
  · rw [if_neg c1] at h
    refine lv_iload_n hx hb d_Status_isDone_5 rfl (lv_at hl 0 rfl) ?_
    refine lv_if_eq (tgt := 14) hx hb d_Status_isDone_6 (by decide) (fun c2 => ?_) (fun c2 => ?_)
    · rw [if_pos c2] at h
      refine lv_iconst (v := 1) hx hb d_Status_isDone_14 (by decide) ?_
      refine lv_goto (tgt := 19) hx hb d_Status_isDone_15 (by decide) ?_
      obtain rfl := Option.some.inj h
      exact W.zret (v := 1) (ty := .boolean) hx hb hr rfl (fun t ht hW => ⟨_, rfl, ⟨rfl, rfl, rfl⟩, ht⟩) (fun _ h => by cases h) d_Status_isDone_19
    · rw [if_neg c2] at h
      refine lv_iload_n hx hb d_Status_isDone_9 rfl (lv_at hl 0 rfl) ?_
      refine lv_iconst (v := 1) hx hb d_Status_isDone_10 (by decide) ?_
      refine lv_icmp_ne (tgt := 18) hx hb d_Status_isDone_11 (by decide) (fun c3 => ?_) (fun c3 => ?_)
      · rw [if_neg c3] at h
        refine lv_iconst (v := 0) hx hb d_Status_isDone_18 (by decide) ?_
        obtain rfl := Option.some.inj h
        exact W.zret (v := 0) (ty := .boolean) hx hb hr rfl (fun t ht hW => ⟨_, rfl, ⟨rfl, rfl, rfl⟩, ht⟩) (fun _ h => by cases h) d_Status_isDone_19
      · rw [if_pos c3] at h
        refine lv_iconst (v := 1) hx hb d_Status_isDone_14 (by decide) ?_
        refine lv_goto (tgt := 19) hx hb d_Status_isDone_15 (by decide) ?_
        obtain rfl := Option.some.inj h
        exact W.zret (v := 1) (ty := .boolean) hx hb hr rfl (fun t ht hW => ⟨_, rfl, ⟨rfl, rfl, rfl⟩, ht⟩) (fun _ h => by cases h) d_Status_isDone_19

def m_Engine_longer (N : Nat) (p0 : Int32) (p1 : Int32) (p2 : Int32) : Option (Int32) := ((m_Math_max N p1 (2 * p0)).bind fun z1_1 => ((m_Math_min N p2 z1_1).bind fun z2_1 => some z2_1))
set_option maxHeartbeats 4000000 in
set_option maxRecDepth 100000 in
theorem c_Engine_longer (l : Launch) (dC : Nat → ClassId) (dI : Nat → Nat → Nat) (N : Nat) (p0 : Int32) (p1 : Int32) (p2 : Int32) (z : Int32) (h : m_Engine_longer N p0 p1 p2 = some z) : Met l y_Engine_longer (.code y_Engine_longer b_Engine_longer 3 (some .int) :: lw_g) ({ frames := 1, cells := 0, slots := 0, locals := 21 }) (va_Pc [.int p0, .int p1, .int p2] (fun U => va_P (dC, dI) classes [] U.heap ∧ va_K (dC, dI) classes [] U)) (vp_Si (fun r => r = z)) 0 0 (fun _ => False) := by
  refine Met.ofW (cc := b_Engine_longer) (maxL := 3) (ret := (some .int)) (by decide +kernel) rfl ?_
  intro p e s m args below meth c s₁ B hml hv
  obtain ⟨rfl, hP, hK⟩ := hv
  have hx := B.exec
  have hb := B.bytes
  have hr := B.returns
  have hg : ∀ w ∈ lw_g, w.before _ s = true := fun w hw => atoms_spec (ws := .code y_Engine_longer b_Engine_longer 3 (some .int) :: lw_g) B.pre w (List.mem_cons_of_mem _ hw)
  have hown : s.vm.findClass R_Engine = some m.cls := findClass_of_methodNamed B.named
  have hlocks := B.notSynchronized
  clear B
  have hP : va_P (dC, dI) classes [] s.heap := hP
  have hl := lv_entry ([.int p0, .int p1, .int p2]) (n := 3) (Nat.le_of_ble_eq_true rfl)
  rw [lg_entry_eq]
  generalize (lg_sl ([.int p0, .int p1, .int p2]) ++ List.replicate (3 - (lg_sl ([.int p0, .int p1, .int p2])).length) Slot.unset).toArray = ls at hl ⊢
  have hl : lv_has ls 3 [(0, .int p0), (1, .int p1), (2, .int p2)] := hl
  unfold m_Engine_longer at h
  refine lv_iload_n hx hb d_Engine_longer_0 rfl (lv_at hl 2 rfl) ?_
  refine lv_iload_n hx hb d_Engine_longer_1 rfl (lv_at hl 1 rfl) ?_
  refine lv_iconst (v := 2) hx hb d_Engine_longer_2 (by decide) ?_
  refine lv_iload_n hx hb d_Engine_longer_3 rfl (lv_at hl 0 rfl) ?_
  refine lv_imul hx hb d_Engine_longer_4 ?_
  obtain ⟨z1_1, hc1, h⟩ := dz_ob h
  try dsimp only at h
  have hPc := hP.sub (ws' := []) [] rfl
  have hKc := hK.sub (tys' := []) [] rfl
  refine vp_callSi (va_Run.run (va_runS (As := [.int p1, .int (2 * p0)]) (rest := [.int p2]) ⟨hx, hb, hml, hown, hg⟩ (c_Math_max l dC dI N p1 (2 * p0) z1_1 hc1) (va_cwS 2 hg (gd_S k5 k6 k7 k4) rfl rfl rfl (by decide +kernel) ⟨Nat.le_of_ble_eq_true rfl, Nat.le_of_ble_eq_true rfl⟩) ⟨dz_blindR, fun U hU hW => ⟨rfl, by rw [hU]; exact hPc, va_K.moved hW.alike hKc⟩⟩ rfl rfl hl.1 rfl (lv_room (Nat.le_of_ble_eq_true rfl)) d_Engine_longer_5 ⟨Nat.le_of_ble_eq_true rfl, Nat.le_of_ble_eq_true rfl⟩)) (fun r1 hw => ?_)
  have hw : z1_1 = r1 := hw.symm
  subst hw
  obtain ⟨z2_1, hc2, h⟩ := dz_ob h
  try dsimp only at h
  have hPc := hP.sub (ws' := []) [] rfl
  have hKc := hK.sub (tys' := []) [] rfl
  refine vp_callSi (va_Run.run (va_runS (As := [.int p2, .int z1_1]) (rest := []) ⟨hx, hb, hml, hown, hg⟩ (c_Math_min l dC dI N p2 z1_1 z2_1 hc2) (va_cwS 2 hg (gd_S k9 k10 k7 k8) rfl rfl rfl (by decide +kernel) ⟨Nat.le_of_ble_eq_true rfl, Nat.le_of_ble_eq_true rfl⟩) ⟨dz_blindR, fun U hU hW => ⟨rfl, by rw [hU]; exact hPc, va_K.moved hW.alike hKc⟩⟩ rfl rfl hl.1 rfl (lv_room (Nat.le_of_ble_eq_true rfl)) d_Engine_longer_8 ⟨Nat.le_of_ble_eq_true rfl, Nat.le_of_ble_eq_true rfl⟩)) (fun r2 hw => ?_)
  have hw : z2_1 = r2 := hw.symm
  subst hw
  obtain rfl := Option.some.inj h
  exact W.iret (v := z2_1) hx hb hr (fun t ht hW => ⟨_, rfl, rfl, ht⟩) (fun _ h => by cases h) d_Engine_longer_11
end

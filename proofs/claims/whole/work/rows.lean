section
-- ===== PART A: goes FIRST, ahead of the names: the tables' words, and 'selects' of the private methods out of them =====
/-- a private method of a class that the tables say can be made, by its rows of tables_1 -/
def lw_okq (q : MethodName × Nat) : Prop := (q.1.cls ≠ "java/lang/invoke/MethodHandle" ∧ q.1.cls ≠ "java/lang/invoke/VarHandle") ∧ Cond.instantiable q.1.cls q.2 ∈ tables_1 ∧ Cond.privateMethod q.1 ∈ tables_1 ∧ Cond.instanceMethod q.1 ∈ tables_1
theorem lw_p0 : lw_okq (⟨"CellEngine$Program", "bytesBeforeZero", "(J)I"⟩, 7) := ⟨⟨by decide +kernel, by decide +kernel⟩, List.mem_of_getElem? (i := 82) (by decide +kernel), List.mem_of_getElem? (i := 393) (by decide +kernel), List.mem_of_getElem? (i := 394) (by decide +kernel)⟩
theorem lw_p1 : lw_okq (⟨"CellEngine$Machine", "operandsHere", "()I"⟩, 15) := ⟨⟨by decide +kernel, by decide +kernel⟩, List.mem_of_getElem? (i := 214) (by decide +kernel), List.mem_of_getElem? (i := 442) (by decide +kernel), List.mem_of_getElem? (i := 443) (by decide +kernel)⟩
theorem lw_p2 : lw_okq (⟨"CellEngine$Machine", "perform", "(II)I"⟩, 15) := ⟨⟨by decide +kernel, by decide +kernel⟩, List.mem_of_getElem? (i := 214) (by decide +kernel), List.mem_of_getElem? (i := 454) (by decide +kernel), List.mem_of_getElem? (i := 455) (by decide +kernel)⟩
theorem lw_p3 : lw_okq (⟨"CellEngine$Machine", "stop", "()I"⟩, 15) := ⟨⟨by decide +kernel, by decide +kernel⟩, List.mem_of_getElem? (i := 214) (by decide +kernel), List.mem_of_getElem? (i := 458) (by decide +kernel), List.mem_of_getElem? (i := 459) (by decide +kernel)⟩
theorem lw_p4 : lw_okq (⟨"CellEngine$Stacks", "widen", "(I)V"⟩, 12) := ⟨⟨by decide +kernel, by decide +kernel⟩, List.mem_of_getElem? (i := 26) (by decide +kernel), List.mem_of_getElem? (i := 482) (by decide +kernel), List.mem_of_getElem? (i := 483) (by decide +kernel)⟩
theorem lw_p5 : lw_okq (⟨"CellEngine$Heap", "moved", "(JI)J"⟩, 20) := ⟨⟨by decide +kernel, by decide +kernel⟩, List.mem_of_getElem? (i := 133) (by decide +kernel), List.mem_of_getElem? (i := 515) (by decide +kernel), List.mem_of_getElem? (i := 516) (by decide +kernel)⟩
theorem lw_p6 : lw_okq (⟨"CellEngine$Heap", "sizeOf", "(J)I"⟩, 20) := ⟨⟨by decide +kernel, by decide +kernel⟩, List.mem_of_getElem? (i := 133) (by decide +kernel), List.mem_of_getElem? (i := 520) (by decide +kernel), List.mem_of_getElem? (i := 521) (by decide +kernel)⟩
theorem lw_p7 : lw_okq (⟨"CellEngine$Heap", "moveBack", "(I)V"⟩, 20) := ⟨⟨by decide +kernel, by decide +kernel⟩, List.mem_of_getElem? (i := 133) (by decide +kernel), List.mem_of_getElem? (i := 524) (by decide +kernel), List.mem_of_getElem? (i := 525) (by decide +kernel)⟩
theorem lw_p8 : lw_okq (⟨"CellEngine$Machine", "enterFrame", "()I"⟩, 15) := ⟨⟨by decide +kernel, by decide +kernel⟩, List.mem_of_getElem? (i := 214) (by decide +kernel), List.mem_of_getElem? (i := 656) (by decide +kernel), List.mem_of_getElem? (i := 657) (by decide +kernel)⟩
theorem lw_p9 : lw_okq (⟨"CellEngine$Stacks", "widenFrames", "()V"⟩, 12) := ⟨⟨by decide +kernel, by decide +kernel⟩, List.mem_of_getElem? (i := 26) (by decide +kernel), List.mem_of_getElem? (i := 665) (by decide +kernel), List.mem_of_getElem? (i := 666) (by decide +kernel)⟩
theorem lw_p10 : lw_okq (⟨"CellEngine$Machine", "replaceFrame", "()I"⟩, 15) := ⟨⟨by decide +kernel, by decide +kernel⟩, List.mem_of_getElem? (i := 214) (by decide +kernel), List.mem_of_getElem? (i := 672) (by decide +kernel), List.mem_of_getElem? (i := 673) (by decide +kernel)⟩
theorem lw_p11 : lw_okq (⟨"CellEngine$Machine", "goOn", "(I)I"⟩, 15) := ⟨⟨by decide +kernel, by decide +kernel⟩, List.mem_of_getElem? (i := 214) (by decide +kernel), List.mem_of_getElem? (i := 684) (by decide +kernel), List.mem_of_getElem? (i := 685) (by decide +kernel)⟩
theorem lw_p12 : lw_okq (⟨"CellEngine$Machine", "leaveFrame", "()I"⟩, 15) := ⟨⟨by decide +kernel, by decide +kernel⟩, List.mem_of_getElem? (i := 214) (by decide +kernel), List.mem_of_getElem? (i := 688) (by decide +kernel), List.mem_of_getElem? (i := 689) (by decide +kernel)⟩
theorem lw_p13 : lw_okq (⟨"CellEngine$Machine", "unless", "(I)I"⟩, 15) := ⟨⟨by decide +kernel, by decide +kernel⟩, List.mem_of_getElem? (i := 214) (by decide +kernel), List.mem_of_getElem? (i := 696) (by decide +kernel), List.mem_of_getElem? (i := 697) (by decide +kernel)⟩
theorem lw_p14 : lw_okq (⟨"CellEngine$Machine", "choose", "(I)I"⟩, 15) := ⟨⟨by decide +kernel, by decide +kernel⟩, List.mem_of_getElem? (i := 214) (by decide +kernel), List.mem_of_getElem? (i := 701) (by decide +kernel), List.mem_of_getElem? (i := 702) (by decide +kernel)⟩
theorem lw_p15 : lw_okq (⟨"CellEngine$Stacks", "widenHandlers", "()V"⟩, 12) := ⟨⟨by decide +kernel, by decide +kernel⟩, List.mem_of_getElem? (i := 26) (by decide +kernel), List.mem_of_getElem? (i := 717) (by decide +kernel), List.mem_of_getElem? (i := 718) (by decide +kernel)⟩
def lw_privs_1 : List (MethodName × Nat) := [(⟨"CellEngine$Program", "bytesBeforeZero", "(J)I"⟩, 7), (⟨"CellEngine$Machine", "operandsHere", "()I"⟩, 15), (⟨"CellEngine$Machine", "perform", "(II)I"⟩, 15), (⟨"CellEngine$Machine", "stop", "()I"⟩, 15), (⟨"CellEngine$Stacks", "widen", "(I)V"⟩, 12), (⟨"CellEngine$Heap", "moved", "(JI)J"⟩, 20), (⟨"CellEngine$Heap", "sizeOf", "(J)I"⟩, 20), (⟨"CellEngine$Heap", "moveBack", "(I)V"⟩, 20), (⟨"CellEngine$Machine", "enterFrame", "()I"⟩, 15), (⟨"CellEngine$Stacks", "widenFrames", "()V"⟩, 12), (⟨"CellEngine$Machine", "replaceFrame", "()I"⟩, 15), (⟨"CellEngine$Machine", "goOn", "(I)I"⟩, 15), (⟨"CellEngine$Machine", "leaveFrame", "()I"⟩, 15), (⟨"CellEngine$Machine", "unless", "(I)I"⟩, 15), (⟨"CellEngine$Machine", "choose", "(I)I"⟩, 15), (⟨"CellEngine$Stacks", "widenHandlers", "()V"⟩, 12)]
theorem lw_r1 : ∀ q ∈ lw_privs_1, lw_okq q := List.forall_mem_cons.mpr ⟨lw_p0, List.forall_mem_cons.mpr ⟨lw_p1, List.forall_mem_cons.mpr ⟨lw_p2, List.forall_mem_cons.mpr ⟨lw_p3, List.forall_mem_cons.mpr ⟨lw_p4, List.forall_mem_cons.mpr ⟨lw_p5, List.forall_mem_cons.mpr ⟨lw_p6, List.forall_mem_cons.mpr ⟨lw_p7, List.forall_mem_cons.mpr ⟨lw_p8, List.forall_mem_cons.mpr ⟨lw_p9, List.forall_mem_cons.mpr ⟨lw_p10, List.forall_mem_cons.mpr ⟨lw_p11, List.forall_mem_cons.mpr ⟨lw_p12, List.forall_mem_cons.mpr ⟨lw_p13, List.forall_mem_cons.mpr ⟨lw_p14, List.forall_mem_cons.mpr ⟨lw_p15, fun _ h => absurd h List.not_mem_nil⟩⟩⟩⟩⟩⟩⟩⟩⟩⟩⟩⟩⟩⟩⟩⟩
theorem lw_p16 : lw_okq (⟨"CellEngine$Machine", "unhandle", "()I"⟩, 15) := ⟨⟨by decide +kernel, by decide +kernel⟩, List.mem_of_getElem? (i := 214) (by decide +kernel), List.mem_of_getElem? (i := 722) (by decide +kernel), List.mem_of_getElem? (i := 723) (by decide +kernel)⟩
theorem lw_p17 : lw_okq (⟨"CellEngine$Machine", "raiseTop", "()I"⟩, 15) := ⟨⟨by decide +kernel, by decide +kernel⟩, List.mem_of_getElem? (i := 214) (by decide +kernel), List.mem_of_getElem? (i := 726) (by decide +kernel), List.mem_of_getElem? (i := 727) (by decide +kernel)⟩
theorem lw_p18 : lw_okq (⟨"CellEngine$Machine", "raise", "(JI)I"⟩, 15) := ⟨⟨by decide +kernel, by decide +kernel⟩, List.mem_of_getElem? (i := 214) (by decide +kernel), List.mem_of_getElem? (i := 730) (by decide +kernel), List.mem_of_getElem? (i := 731) (by decide +kernel)⟩
theorem lw_p19 : lw_okq (⟨"CellEngine$Equality", "join", "(JJ)Z"⟩, 4) := ⟨⟨by decide +kernel, by decide +kernel⟩, List.mem_of_getElem? (i := 239) (by decide +kernel), List.mem_of_getElem? (i := 767) (by decide +kernel), List.mem_of_getElem? (i := 768) (by decide +kernel)⟩
theorem lw_p20 : lw_okq (⟨"CellEngine$Equality", "leader", "(I)I"⟩, 4) := ⟨⟨by decide +kernel, by decide +kernel⟩, List.mem_of_getElem? (i := 239) (by decide +kernel), List.mem_of_getElem? (i := 773) (by decide +kernel), List.mem_of_getElem? (i := 774) (by decide +kernel)⟩
theorem lw_p21 : lw_okq (⟨"CellEngine$Equality", "addPair", "(II)V"⟩, 4) := ⟨⟨by decide +kernel, by decide +kernel⟩, List.mem_of_getElem? (i := 239) (by decide +kernel), List.mem_of_getElem? (i := 778) (by decide +kernel), List.mem_of_getElem? (i := 779) (by decide +kernel)⟩
theorem lw_p22 : lw_okq (⟨"CellEngine$Equality", "joinParts", "(II)Z"⟩, 4) := ⟨⟨by decide +kernel, by decide +kernel⟩, List.mem_of_getElem? (i := 239) (by decide +kernel), List.mem_of_getElem? (i := 784) (by decide +kernel), List.mem_of_getElem? (i := 785) (by decide +kernel)⟩
theorem lw_p23 : lw_okq (⟨"CellEngine$Machine", "primitiveFits", "(I)Z"⟩, 15) := ⟨⟨by decide +kernel, by decide +kernel⟩, List.mem_of_getElem? (i := 214) (by decide +kernel), List.mem_of_getElem? (i := 791) (by decide +kernel), List.mem_of_getElem? (i := 792) (by decide +kernel)⟩
theorem lw_p24 : lw_okq (⟨"CellEngine$Strings", "concatenate", "()I"⟩, 3) := ⟨⟨by decide +kernel, by decide +kernel⟩, List.mem_of_getElem? (i := 268) (by decide +kernel), List.mem_of_getElem? (i := 827) (by decide +kernel), List.mem_of_getElem? (i := 828) (by decide +kernel)⟩
theorem lw_p25 : lw_okq (⟨"CellEngine$Strings", "copyBytes", "(IIIII)V"⟩, 3) := ⟨⟨by decide +kernel, by decide +kernel⟩, List.mem_of_getElem? (i := 268) (by decide +kernel), List.mem_of_getElem? (i := 838) (by decide +kernel), List.mem_of_getElem? (i := 839) (by decide +kernel)⟩
theorem lw_p26 : lw_okq (⟨"CellEngine$Strings", "single", "()I"⟩, 3) := ⟨⟨by decide +kernel, by decide +kernel⟩, List.mem_of_getElem? (i := 268) (by decide +kernel), List.mem_of_getElem? (i := 850) (by decide +kernel), List.mem_of_getElem? (i := 851) (by decide +kernel)⟩
theorem lw_p27 : lw_okq (⟨"CellEngine$Strings", "substring", "()I"⟩, 3) := ⟨⟨by decide +kernel, by decide +kernel⟩, List.mem_of_getElem? (i := 268) (by decide +kernel), List.mem_of_getElem? (i := 858) (by decide +kernel), List.mem_of_getElem? (i := 859) (by decide +kernel)⟩
theorem lw_p28 : lw_okq (⟨"CellEngine$Strings", "element", "()I"⟩, 3) := ⟨⟨by decide +kernel, by decide +kernel⟩, List.mem_of_getElem? (i := 268) (by decide +kernel), List.mem_of_getElem? (i := 862) (by decide +kernel), List.mem_of_getElem? (i := 863) (by decide +kernel)⟩
theorem lw_p29 : lw_okq (⟨"CellEngine$Strings", "order", "()I"⟩, 3) := ⟨⟨by decide +kernel, by decide +kernel⟩, List.mem_of_getElem? (i := 268) (by decide +kernel), List.mem_of_getElem? (i := 866) (by decide +kernel), List.mem_of_getElem? (i := 867) (by decide +kernel)⟩
theorem lw_p30 : lw_okq (⟨"CellEngine$Strings", "print", "()I"⟩, 3) := ⟨⟨by decide +kernel, by decide +kernel⟩, List.mem_of_getElem? (i := 268) (by decide +kernel), List.mem_of_getElem? (i := 872) (by decide +kernel), List.mem_of_getElem? (i := 873) (by decide +kernel)⟩
theorem lw_p31 : lw_okq (⟨"CellEngine$Strings", "decimal", "()I"⟩, 3) := ⟨⟨by decide +kernel, by decide +kernel⟩, List.mem_of_getElem? (i := 268) (by decide +kernel), List.mem_of_getElem? (i := 888) (by decide +kernel), List.mem_of_getElem? (i := 889) (by decide +kernel)⟩
def lw_privs_2 : List (MethodName × Nat) := [(⟨"CellEngine$Machine", "unhandle", "()I"⟩, 15), (⟨"CellEngine$Machine", "raiseTop", "()I"⟩, 15), (⟨"CellEngine$Machine", "raise", "(JI)I"⟩, 15), (⟨"CellEngine$Equality", "join", "(JJ)Z"⟩, 4), (⟨"CellEngine$Equality", "leader", "(I)I"⟩, 4), (⟨"CellEngine$Equality", "addPair", "(II)V"⟩, 4), (⟨"CellEngine$Equality", "joinParts", "(II)Z"⟩, 4), (⟨"CellEngine$Machine", "primitiveFits", "(I)Z"⟩, 15), (⟨"CellEngine$Strings", "concatenate", "()I"⟩, 3), (⟨"CellEngine$Strings", "copyBytes", "(IIIII)V"⟩, 3), (⟨"CellEngine$Strings", "single", "()I"⟩, 3), (⟨"CellEngine$Strings", "substring", "()I"⟩, 3), (⟨"CellEngine$Strings", "element", "()I"⟩, 3), (⟨"CellEngine$Strings", "order", "()I"⟩, 3), (⟨"CellEngine$Strings", "print", "()I"⟩, 3), (⟨"CellEngine$Strings", "decimal", "()I"⟩, 3)]
theorem lw_r2 : ∀ q ∈ lw_privs_2, lw_okq q := List.forall_mem_cons.mpr ⟨lw_p16, List.forall_mem_cons.mpr ⟨lw_p17, List.forall_mem_cons.mpr ⟨lw_p18, List.forall_mem_cons.mpr ⟨lw_p19, List.forall_mem_cons.mpr ⟨lw_p20, List.forall_mem_cons.mpr ⟨lw_p21, List.forall_mem_cons.mpr ⟨lw_p22, List.forall_mem_cons.mpr ⟨lw_p23, List.forall_mem_cons.mpr ⟨lw_p24, List.forall_mem_cons.mpr ⟨lw_p25, List.forall_mem_cons.mpr ⟨lw_p26, List.forall_mem_cons.mpr ⟨lw_p27, List.forall_mem_cons.mpr ⟨lw_p28, List.forall_mem_cons.mpr ⟨lw_p29, List.forall_mem_cons.mpr ⟨lw_p30, List.forall_mem_cons.mpr ⟨lw_p31, fun _ h => absurd h List.not_mem_nil⟩⟩⟩⟩⟩⟩⟩⟩⟩⟩⟩⟩⟩⟩⟩⟩
theorem lw_p32 : lw_okq (⟨"CellEngine$Strings", "implode", "()I"⟩, 3) := ⟨⟨by decide +kernel, by decide +kernel⟩, List.mem_of_getElem? (i := 268) (by decide +kernel), List.mem_of_getElem? (i := 893) (by decide +kernel), List.mem_of_getElem? (i := 894) (by decide +kernel)⟩
theorem lw_p33 : lw_okq (⟨"CellEngine$Strings", "listLength", "(J)I"⟩, 3) := ⟨⟨by decide +kernel, by decide +kernel⟩, List.mem_of_getElem? (i := 268) (by decide +kernel), List.mem_of_getElem? (i := 897) (by decide +kernel), List.mem_of_getElem? (i := 898) (by decide +kernel)⟩
theorem lw_p34 : lw_okq (⟨"CellEngine$Strings", "explode", "()I"⟩, 3) := ⟨⟨by decide +kernel, by decide +kernel⟩, List.mem_of_getElem? (i := 268) (by decide +kernel), List.mem_of_getElem? (i := 904) (by decide +kernel), List.mem_of_getElem? (i := 905) (by decide +kernel)⟩
theorem lw_p35 : lw_okq (⟨"CellEngine$Machine", "settle", "(II)I"⟩, 15) := ⟨⟨by decide +kernel, by decide +kernel⟩, List.mem_of_getElem? (i := 214) (by decide +kernel), List.mem_of_getElem? (i := 910) (by decide +kernel), List.mem_of_getElem? (i := 911) (by decide +kernel)⟩
theorem lw_p36 : lw_okq (⟨"CellEngine$Machine", "tick", "()I"⟩, 15) := ⟨⟨by decide +kernel, by decide +kernel⟩, List.mem_of_getElem? (i := 214) (by decide +kernel), List.mem_of_getElem? (i := 914) (by decide +kernel), List.mem_of_getElem? (i := 915) (by decide +kernel)⟩
theorem lw_p37 : lw_okq (⟨"CellEngine$Machine", "make", "(I)I"⟩, 15) := ⟨⟨by decide +kernel, by decide +kernel⟩, List.mem_of_getElem? (i := 214) (by decide +kernel), List.mem_of_getElem? (i := 918) (by decide +kernel), List.mem_of_getElem? (i := 919) (by decide +kernel)⟩
theorem lw_p38 : lw_okq (⟨"CellEngine$Machine", "deepen", "(I)I"⟩, 15) := ⟨⟨by decide +kernel, by decide +kernel⟩, List.mem_of_getElem? (i := 214) (by decide +kernel), List.mem_of_getElem? (i := 926) (by decide +kernel), List.mem_of_getElem? (i := 927) (by decide +kernel)⟩
theorem lw_p39 : lw_okq (⟨"CellEngineModel", "isOn", "()Z"⟩, 54) := ⟨⟨by decide +kernel, by decide +kernel⟩, List.mem_of_getElem? (i := 1008) (by decide +kernel), List.mem_of_getElem? (i := 1191) (by decide +kernel), List.mem_of_getElem? (i := 1192) (by decide +kernel)⟩
theorem lw_p40 : lw_okq (⟨"CellEngineModel", "instruction", "()I"⟩, 54) := ⟨⟨by decide +kernel, by decide +kernel⟩, List.mem_of_getElem? (i := 1008) (by decide +kernel), List.mem_of_getElem? (i := 1213) (by decide +kernel), List.mem_of_getElem? (i := 1214) (by decide +kernel)⟩
theorem lw_p41 : lw_okq (⟨"CellEngineModel", "words", "()I"⟩, 54) := ⟨⟨by decide +kernel, by decide +kernel⟩, List.mem_of_getElem? (i := 1008) (by decide +kernel), List.mem_of_getElem? (i := 1217) (by decide +kernel), List.mem_of_getElem? (i := 1218) (by decide +kernel)⟩
theorem lw_p42 : lw_okq (⟨"CellEngineModel", "word", "(I)I"⟩, 54) := ⟨⟨by decide +kernel, by decide +kernel⟩, List.mem_of_getElem? (i := 1008) (by decide +kernel), List.mem_of_getElem? (i := 1222) (by decide +kernel), List.mem_of_getElem? (i := 1223) (by decide +kernel)⟩
theorem lw_p43 : lw_okq (⟨"CellEngineModel", "height", "()I"⟩, 54) := ⟨⟨by decide +kernel, by decide +kernel⟩, List.mem_of_getElem? (i := 1008) (by decide +kernel), List.mem_of_getElem? (i := 1226) (by decide +kernel), List.mem_of_getElem? (i := 1227) (by decide +kernel)⟩
theorem lw_p44 : lw_okq (⟨"CellEngineModel", "more", "(II)I"⟩, 54) := ⟨⟨by decide +kernel, by decide +kernel⟩, List.mem_of_getElem? (i := 1008) (by decide +kernel), List.mem_of_getElem? (i := 1233) (by decide +kernel), List.mem_of_getElem? (i := 1234) (by decide +kernel)⟩
theorem lw_p45 : lw_okq (⟨"CellEngineModel", "give", "(III)I"⟩, 54) := ⟨⟨by decide +kernel, by decide +kernel⟩, List.mem_of_getElem? (i := 1008) (by decide +kernel), List.mem_of_getElem? (i := 1237) (by decide +kernel), List.mem_of_getElem? (i := 1238) (by decide +kernel)⟩
theorem lw_p46 : lw_okq (⟨"CellEngineModel", "next", "(II)I"⟩, 54) := ⟨⟨by decide +kernel, by decide +kernel⟩, List.mem_of_getElem? (i := 1008) (by decide +kernel), List.mem_of_getElem? (i := 1241) (by decide +kernel), List.mem_of_getElem? (i := 1242) (by decide +kernel)⟩
theorem lw_p47 : lw_okq (⟨"CellEngineModel", "text", "(I)I"⟩, 54) := ⟨⟨by decide +kernel, by decide +kernel⟩, List.mem_of_getElem? (i := 1008) (by decide +kernel), List.mem_of_getElem? (i := 1245) (by decide +kernel), List.mem_of_getElem? (i := 1246) (by decide +kernel)⟩
def lw_privs_3 : List (MethodName × Nat) := [(⟨"CellEngine$Strings", "implode", "()I"⟩, 3), (⟨"CellEngine$Strings", "listLength", "(J)I"⟩, 3), (⟨"CellEngine$Strings", "explode", "()I"⟩, 3), (⟨"CellEngine$Machine", "settle", "(II)I"⟩, 15), (⟨"CellEngine$Machine", "tick", "()I"⟩, 15), (⟨"CellEngine$Machine", "make", "(I)I"⟩, 15), (⟨"CellEngine$Machine", "deepen", "(I)I"⟩, 15), (⟨"CellEngineModel", "isOn", "()Z"⟩, 54), (⟨"CellEngineModel", "instruction", "()I"⟩, 54), (⟨"CellEngineModel", "words", "()I"⟩, 54), (⟨"CellEngineModel", "word", "(I)I"⟩, 54), (⟨"CellEngineModel", "height", "()I"⟩, 54), (⟨"CellEngineModel", "more", "(II)I"⟩, 54), (⟨"CellEngineModel", "give", "(III)I"⟩, 54), (⟨"CellEngineModel", "next", "(II)I"⟩, 54), (⟨"CellEngineModel", "text", "(I)I"⟩, 54)]
theorem lw_r3 : ∀ q ∈ lw_privs_3, lw_okq q := List.forall_mem_cons.mpr ⟨lw_p32, List.forall_mem_cons.mpr ⟨lw_p33, List.forall_mem_cons.mpr ⟨lw_p34, List.forall_mem_cons.mpr ⟨lw_p35, List.forall_mem_cons.mpr ⟨lw_p36, List.forall_mem_cons.mpr ⟨lw_p37, List.forall_mem_cons.mpr ⟨lw_p38, List.forall_mem_cons.mpr ⟨lw_p39, List.forall_mem_cons.mpr ⟨lw_p40, List.forall_mem_cons.mpr ⟨lw_p41, List.forall_mem_cons.mpr ⟨lw_p42, List.forall_mem_cons.mpr ⟨lw_p43, List.forall_mem_cons.mpr ⟨lw_p44, List.forall_mem_cons.mpr ⟨lw_p45, List.forall_mem_cons.mpr ⟨lw_p46, List.forall_mem_cons.mpr ⟨lw_p47, fun _ h => absurd h List.not_mem_nil⟩⟩⟩⟩⟩⟩⟩⟩⟩⟩⟩⟩⟩⟩⟩⟩
theorem lw_p48 : lw_okq (⟨"CellEngineModel", "hasRoom", "(I)Z"⟩, 54) := ⟨⟨by decide +kernel, by decide +kernel⟩, List.mem_of_getElem? (i := 1008) (by decide +kernel), List.mem_of_getElem? (i := 1249) (by decide +kernel), List.mem_of_getElem? (i := 1250) (by decide +kernel)⟩
theorem lw_p49 : lw_okq (⟨"CellEngineModel", "markGlobals", "()V"⟩, 54) := ⟨⟨by decide +kernel, by decide +kernel⟩, List.mem_of_getElem? (i := 1008) (by decide +kernel), List.mem_of_getElem? (i := 1253) (by decide +kernel), List.mem_of_getElem? (i := 1254) (by decide +kernel)⟩
theorem lw_p50 : lw_okq (⟨"CellEngineModel", "mark", "(II)V"⟩, 54) := ⟨⟨by decide +kernel, by decide +kernel⟩, List.mem_of_getElem? (i := 1008) (by decide +kernel), List.mem_of_getElem? (i := 1257) (by decide +kernel), List.mem_of_getElem? (i := 1258) (by decide +kernel)⟩
theorem lw_p51 : lw_okq (⟨"CellEngineModel", "sizeAt", "(I)I"⟩, 54) := ⟨⟨by decide +kernel, by decide +kernel⟩, List.mem_of_getElem? (i := 1008) (by decide +kernel), List.mem_of_getElem? (i := 1261) (by decide +kernel), List.mem_of_getElem? (i := 1262) (by decide +kernel)⟩
theorem lw_p52 : lw_okq (⟨"CellEngineModel", "kindAt", "(I)I"⟩, 54) := ⟨⟨by decide +kernel, by decide +kernel⟩, List.mem_of_getElem? (i := 1008) (by decide +kernel), List.mem_of_getElem? (i := 1265) (by decide +kernel), List.mem_of_getElem? (i := 1266) (by decide +kernel)⟩
theorem lw_p53 : lw_okq (⟨"CellEngineModel", "partsAt", "(I)I"⟩, 54) := ⟨⟨by decide +kernel, by decide +kernel⟩, List.mem_of_getElem? (i := 1008) (by decide +kernel), List.mem_of_getElem? (i := 1269) (by decide +kernel), List.mem_of_getElem? (i := 1270) (by decide +kernel)⟩
theorem lw_p54 : lw_okq (⟨"CellEngineModel", "markAll", "()V"⟩, 54) := ⟨⟨by decide +kernel, by decide +kernel⟩, List.mem_of_getElem? (i := 1008) (by decide +kernel), List.mem_of_getElem? (i := 1273) (by decide +kernel), List.mem_of_getElem? (i := 1274) (by decide +kernel)⟩
theorem lw_p55 : lw_okq (⟨"CellEngineModel", "markRun", "()V"⟩, 54) := ⟨⟨by decide +kernel, by decide +kernel⟩, List.mem_of_getElem? (i := 1008) (by decide +kernel), List.mem_of_getElem? (i := 1277) (by decide +kernel), List.mem_of_getElem? (i := 1278) (by decide +kernel)⟩
theorem lw_p56 : lw_okq (⟨"CellEngineModel", "slide", "()V"⟩, 54) := ⟨⟨by decide +kernel, by decide +kernel⟩, List.mem_of_getElem? (i := 1008) (by decide +kernel), List.mem_of_getElem? (i := 1281) (by decide +kernel), List.mem_of_getElem? (i := 1282) (by decide +kernel)⟩
theorem lw_p57 : lw_okq (⟨"CellEngineModel", "settle", "()I"⟩, 54) := ⟨⟨by decide +kernel, by decide +kernel⟩, List.mem_of_getElem? (i := 1008) (by decide +kernel), List.mem_of_getElem? (i := 1285) (by decide +kernel), List.mem_of_getElem? (i := 1286) (by decide +kernel)⟩
theorem lw_p58 : lw_okq (⟨"CellEngineModel", "string", "(I)I"⟩, 54) := ⟨⟨by decide +kernel, by decide +kernel⟩, List.mem_of_getElem? (i := 1008) (by decide +kernel), List.mem_of_getElem? (i := 1289) (by decide +kernel), List.mem_of_getElem? (i := 1290) (by decide +kernel)⟩
theorem lw_p59 : lw_okq (⟨"CellEngineModel", "make", "(IIII)I"⟩, 54) := ⟨⟨by decide +kernel, by decide +kernel⟩, List.mem_of_getElem? (i := 1008) (by decide +kernel), List.mem_of_getElem? (i := 1293) (by decide +kernel), List.mem_of_getElem? (i := 1294) (by decide +kernel)⟩
theorem lw_p60 : lw_okq (⟨"CellEngineModel", "setByte", "(III)V"⟩, 54) := ⟨⟨by decide +kernel, by decide +kernel⟩, List.mem_of_getElem? (i := 1008) (by decide +kernel), List.mem_of_getElem? (i := 1297) (by decide +kernel), List.mem_of_getElem? (i := 1298) (by decide +kernel)⟩
theorem lw_p61 : lw_okq (⟨"CellEngineModel", "store", "(I)I"⟩, 54) := ⟨⟨by decide +kernel, by decide +kernel⟩, List.mem_of_getElem? (i := 1008) (by decide +kernel), List.mem_of_getElem? (i := 1301) (by decide +kernel), List.mem_of_getElem? (i := 1302) (by decide +kernel)⟩
theorem lw_p62 : lw_okq (⟨"CellEngineModel", "free", "(I)I"⟩, 54) := ⟨⟨by decide +kernel, by decide +kernel⟩, List.mem_of_getElem? (i := 1008) (by decide +kernel), List.mem_of_getElem? (i := 1305) (by decide +kernel), List.mem_of_getElem? (i := 1306) (by decide +kernel)⟩
theorem lw_p63 : lw_okq (⟨"CellEngineModel", "setGlobal", "(I)I"⟩, 54) := ⟨⟨by decide +kernel, by decide +kernel⟩, List.mem_of_getElem? (i := 1008) (by decide +kernel), List.mem_of_getElem? (i := 1309) (by decide +kernel), List.mem_of_getElem? (i := 1310) (by decide +kernel)⟩
def lw_privs_4 : List (MethodName × Nat) := [(⟨"CellEngineModel", "hasRoom", "(I)Z"⟩, 54), (⟨"CellEngineModel", "markGlobals", "()V"⟩, 54), (⟨"CellEngineModel", "mark", "(II)V"⟩, 54), (⟨"CellEngineModel", "sizeAt", "(I)I"⟩, 54), (⟨"CellEngineModel", "kindAt", "(I)I"⟩, 54), (⟨"CellEngineModel", "partsAt", "(I)I"⟩, 54), (⟨"CellEngineModel", "markAll", "()V"⟩, 54), (⟨"CellEngineModel", "markRun", "()V"⟩, 54), (⟨"CellEngineModel", "slide", "()V"⟩, 54), (⟨"CellEngineModel", "settle", "()I"⟩, 54), (⟨"CellEngineModel", "string", "(I)I"⟩, 54), (⟨"CellEngineModel", "make", "(IIII)I"⟩, 54), (⟨"CellEngineModel", "setByte", "(III)V"⟩, 54), (⟨"CellEngineModel", "store", "(I)I"⟩, 54), (⟨"CellEngineModel", "free", "(I)I"⟩, 54), (⟨"CellEngineModel", "setGlobal", "(I)I"⟩, 54)]
theorem lw_r4 : ∀ q ∈ lw_privs_4, lw_okq q := List.forall_mem_cons.mpr ⟨lw_p48, List.forall_mem_cons.mpr ⟨lw_p49, List.forall_mem_cons.mpr ⟨lw_p50, List.forall_mem_cons.mpr ⟨lw_p51, List.forall_mem_cons.mpr ⟨lw_p52, List.forall_mem_cons.mpr ⟨lw_p53, List.forall_mem_cons.mpr ⟨lw_p54, List.forall_mem_cons.mpr ⟨lw_p55, List.forall_mem_cons.mpr ⟨lw_p56, List.forall_mem_cons.mpr ⟨lw_p57, List.forall_mem_cons.mpr ⟨lw_p58, List.forall_mem_cons.mpr ⟨lw_p59, List.forall_mem_cons.mpr ⟨lw_p60, List.forall_mem_cons.mpr ⟨lw_p61, List.forall_mem_cons.mpr ⟨lw_p62, List.forall_mem_cons.mpr ⟨lw_p63, fun _ h => absurd h List.not_mem_nil⟩⟩⟩⟩⟩⟩⟩⟩⟩⟩⟩⟩⟩⟩⟩⟩
theorem lw_p64 : lw_okq (⟨"CellEngineModel", "gather", "(III)I"⟩, 54) := ⟨⟨by decide +kernel, by decide +kernel⟩, List.mem_of_getElem? (i := 1008) (by decide +kernel), List.mem_of_getElem? (i := 1313) (by decide +kernel), List.mem_of_getElem? (i := 1314) (by decide +kernel)⟩
theorem lw_p65 : lw_okq (⟨"CellEngineModel", "is", "(II)Z"⟩, 54) := ⟨⟨by decide +kernel, by decide +kernel⟩, List.mem_of_getElem? (i := 1008) (by decide +kernel), List.mem_of_getElem? (i := 1317) (by decide +kernel), List.mem_of_getElem? (i := 1318) (by decide +kernel)⟩
theorem lw_p66 : lw_okq (⟨"CellEngineModel", "scalar", "(I)I"⟩, 54) := ⟨⟨by decide +kernel, by decide +kernel⟩, List.mem_of_getElem? (i := 1008) (by decide +kernel), List.mem_of_getElem? (i := 1321) (by decide +kernel), List.mem_of_getElem? (i := 1322) (by decide +kernel)⟩
theorem lw_p67 : lw_okq (⟨"CellEngineModel", "part", "(I)I"⟩, 54) := ⟨⟨by decide +kernel, by decide +kernel⟩, List.mem_of_getElem? (i := 1008) (by decide +kernel), List.mem_of_getElem? (i := 1325) (by decide +kernel), List.mem_of_getElem? (i := 1326) (by decide +kernel)⟩
theorem lw_p68 : lw_okq (⟨"CellEngineModel", "isScalar", "(I)Z"⟩, 54) := ⟨⟨by decide +kernel, by decide +kernel⟩, List.mem_of_getElem? (i := 1008) (by decide +kernel), List.mem_of_getElem? (i := 1329) (by decide +kernel), List.mem_of_getElem? (i := 1330) (by decide +kernel)⟩
theorem lw_p69 : lw_okq (⟨"CellEngineModel", "patch", "(I)I"⟩, 54) := ⟨⟨by decide +kernel, by decide +kernel⟩, List.mem_of_getElem? (i := 1008) (by decide +kernel), List.mem_of_getElem? (i := 1333) (by decide +kernel), List.mem_of_getElem? (i := 1334) (by decide +kernel)⟩
theorem lw_p70 : lw_okq (⟨"CellEngineModel", "call", "()I"⟩, 54) := ⟨⟨by decide +kernel, by decide +kernel⟩, List.mem_of_getElem? (i := 1008) (by decide +kernel), List.mem_of_getElem? (i := 1337) (by decide +kernel), List.mem_of_getElem? (i := 1338) (by decide +kernel)⟩
theorem lw_p71 : lw_okq (⟨"CellEngineModel", "tail", "()I"⟩, 54) := ⟨⟨by decide +kernel, by decide +kernel⟩, List.mem_of_getElem? (i := 1008) (by decide +kernel), List.mem_of_getElem? (i := 1341) (by decide +kernel), List.mem_of_getElem? (i := 1342) (by decide +kernel)⟩
theorem lw_p72 : lw_okq (⟨"CellEngineModel", "hasHandlers", "()Z"⟩, 54) := ⟨⟨by decide +kernel, by decide +kernel⟩, List.mem_of_getElem? (i := 1008) (by decide +kernel), List.mem_of_getElem? (i := 1345) (by decide +kernel), List.mem_of_getElem? (i := 1346) (by decide +kernel)⟩
theorem lw_p73 : lw_okq (⟨"CellEngineModel", "back", "()I"⟩, 54) := ⟨⟨by decide +kernel, by decide +kernel⟩, List.mem_of_getElem? (i := 1008) (by decide +kernel), List.mem_of_getElem? (i := 1349) (by decide +kernel), List.mem_of_getElem? (i := 1350) (by decide +kernel)⟩
theorem lw_p74 : lw_okq (⟨"CellEngineModel", "branch", "(II)I"⟩, 54) := ⟨⟨by decide +kernel, by decide +kernel⟩, List.mem_of_getElem? (i := 1008) (by decide +kernel), List.mem_of_getElem? (i := 1353) (by decide +kernel), List.mem_of_getElem? (i := 1354) (by decide +kernel)⟩
theorem lw_p75 : lw_okq (⟨"CellEngineModel", "assign", "()I"⟩, 54) := ⟨⟨by decide +kernel, by decide +kernel⟩, List.mem_of_getElem? (i := 1008) (by decide +kernel), List.mem_of_getElem? (i := 1357) (by decide +kernel), List.mem_of_getElem? (i := 1358) (by decide +kernel)⟩
theorem lw_p76 : lw_okq (⟨"CellEngineModel", "others", "(III)I"⟩, 54) := ⟨⟨by decide +kernel, by decide +kernel⟩, List.mem_of_getElem? (i := 1008) (by decide +kernel), List.mem_of_getElem? (i := 1361) (by decide +kernel), List.mem_of_getElem? (i := 1362) (by decide +kernel)⟩
theorem lw_p77 : lw_okq (⟨"CellEngineModel", "handle", "(I)I"⟩, 54) := ⟨⟨by decide +kernel, by decide +kernel⟩, List.mem_of_getElem? (i := 1008) (by decide +kernel), List.mem_of_getElem? (i := 1365) (by decide +kernel), List.mem_of_getElem? (i := 1366) (by decide +kernel)⟩
theorem lw_p78 : lw_okq (⟨"CellEngineModel", "isName", "(I)Z"⟩, 54) := ⟨⟨by decide +kernel, by decide +kernel⟩, List.mem_of_getElem? (i := 1008) (by decide +kernel), List.mem_of_getElem? (i := 1369) (by decide +kernel), List.mem_of_getElem? (i := 1370) (by decide +kernel)⟩
theorem lw_p79 : lw_okq (⟨"CellEngineModel", "raise", "(IIII)I"⟩, 54) := ⟨⟨by decide +kernel, by decide +kernel⟩, List.mem_of_getElem? (i := 1008) (by decide +kernel), List.mem_of_getElem? (i := 1373) (by decide +kernel), List.mem_of_getElem? (i := 1374) (by decide +kernel)⟩
def lw_privs_5 : List (MethodName × Nat) := [(⟨"CellEngineModel", "gather", "(III)I"⟩, 54), (⟨"CellEngineModel", "is", "(II)Z"⟩, 54), (⟨"CellEngineModel", "scalar", "(I)I"⟩, 54), (⟨"CellEngineModel", "part", "(I)I"⟩, 54), (⟨"CellEngineModel", "isScalar", "(I)Z"⟩, 54), (⟨"CellEngineModel", "patch", "(I)I"⟩, 54), (⟨"CellEngineModel", "call", "()I"⟩, 54), (⟨"CellEngineModel", "tail", "()I"⟩, 54), (⟨"CellEngineModel", "hasHandlers", "()Z"⟩, 54), (⟨"CellEngineModel", "back", "()I"⟩, 54), (⟨"CellEngineModel", "branch", "(II)I"⟩, 54), (⟨"CellEngineModel", "assign", "()I"⟩, 54), (⟨"CellEngineModel", "others", "(III)I"⟩, 54), (⟨"CellEngineModel", "handle", "(I)I"⟩, 54), (⟨"CellEngineModel", "isName", "(I)Z"⟩, 54), (⟨"CellEngineModel", "raise", "(IIII)I"⟩, 54)]
theorem lw_r5 : ∀ q ∈ lw_privs_5, lw_okq q := List.forall_mem_cons.mpr ⟨lw_p64, List.forall_mem_cons.mpr ⟨lw_p65, List.forall_mem_cons.mpr ⟨lw_p66, List.forall_mem_cons.mpr ⟨lw_p67, List.forall_mem_cons.mpr ⟨lw_p68, List.forall_mem_cons.mpr ⟨lw_p69, List.forall_mem_cons.mpr ⟨lw_p70, List.forall_mem_cons.mpr ⟨lw_p71, List.forall_mem_cons.mpr ⟨lw_p72, List.forall_mem_cons.mpr ⟨lw_p73, List.forall_mem_cons.mpr ⟨lw_p74, List.forall_mem_cons.mpr ⟨lw_p75, List.forall_mem_cons.mpr ⟨lw_p76, List.forall_mem_cons.mpr ⟨lw_p77, List.forall_mem_cons.mpr ⟨lw_p78, List.forall_mem_cons.mpr ⟨lw_p79, fun _ h => absurd h List.not_mem_nil⟩⟩⟩⟩⟩⟩⟩⟩⟩⟩⟩⟩⟩⟩⟩⟩
theorem lw_p80 : lw_okq (⟨"CellEngineModel", "name", "(I)I"⟩, 54) := ⟨⟨by decide +kernel, by decide +kernel⟩, List.mem_of_getElem? (i := 1008) (by decide +kernel), List.mem_of_getElem? (i := 1377) (by decide +kernel), List.mem_of_getElem? (i := 1378) (by decide +kernel)⟩
theorem lw_p81 : lw_okq (⟨"CellEngineModel", "packet", "()I"⟩, 54) := ⟨⟨by decide +kernel, by decide +kernel⟩, List.mem_of_getElem? (i := 1008) (by decide +kernel), List.mem_of_getElem? (i := 1382) (by decide +kernel), List.mem_of_getElem? (i := 1383) (by decide +kernel)⟩
theorem lw_p82 : lw_okq (⟨"CellEngineModel", "isSame", "(II)Z"⟩, 54) := ⟨⟨by decide +kernel, by decide +kernel⟩, List.mem_of_getElem? (i := 1008) (by decide +kernel), List.mem_of_getElem? (i := 1386) (by decide +kernel), List.mem_of_getElem? (i := 1387) (by decide +kernel)⟩
theorem lw_p83 : lw_okq (⟨"CellEngineModel", "isEqual", "()Z"⟩, 54) := ⟨⟨by decide +kernel, by decide +kernel⟩, List.mem_of_getElem? (i := 1008) (by decide +kernel), List.mem_of_getElem? (i := 1393) (by decide +kernel), List.mem_of_getElem? (i := 1394) (by decide +kernel)⟩
theorem lw_p84 : lw_okq (⟨"CellEngineModel", "meets", "(IIII)Z"⟩, 54) := ⟨⟨by decide +kernel, by decide +kernel⟩, List.mem_of_getElem? (i := 1008) (by decide +kernel), List.mem_of_getElem? (i := 1397) (by decide +kernel), List.mem_of_getElem? (i := 1398) (by decide +kernel)⟩
theorem lw_p85 : lw_okq (⟨"CellEngineModel", "compare", "(II)I"⟩, 54) := ⟨⟨by decide +kernel, by decide +kernel⟩, List.mem_of_getElem? (i := 1008) (by decide +kernel), List.mem_of_getElem? (i := 1401) (by decide +kernel), List.mem_of_getElem? (i := 1402) (by decide +kernel)⟩
theorem lw_p86 : lw_okq (⟨"CellEngineModel", "byteAt", "(II)I"⟩, 54) := ⟨⟨by decide +kernel, by decide +kernel⟩, List.mem_of_getElem? (i := 1008) (by decide +kernel), List.mem_of_getElem? (i := 1405) (by decide +kernel), List.mem_of_getElem? (i := 1406) (by decide +kernel)⟩
theorem lw_p87 : lw_okq (⟨"CellEngineModel", "leader", "(I)I"⟩, 54) := ⟨⟨by decide +kernel, by decide +kernel⟩, List.mem_of_getElem? (i := 1008) (by decide +kernel), List.mem_of_getElem? (i := 1409) (by decide +kernel), List.mem_of_getElem? (i := 1410) (by decide +kernel)⟩
theorem lw_p88 : lw_okq (⟨"CellEngineModel", "compareLater", "(III)V"⟩, 54) := ⟨⟨by decide +kernel, by decide +kernel⟩, List.mem_of_getElem? (i := 1008) (by decide +kernel), List.mem_of_getElem? (i := 1413) (by decide +kernel), List.mem_of_getElem? (i := 1414) (by decide +kernel)⟩
theorem lw_p89 : lw_okq (⟨"CellEngineModel", "primitive", "(I)I"⟩, 54) := ⟨⟨by decide +kernel, by decide +kernel⟩, List.mem_of_getElem? (i := 1008) (by decide +kernel), List.mem_of_getElem? (i := 1417) (by decide +kernel), List.mem_of_getElem? (i := 1418) (by decide +kernel)⟩
theorem lw_p90 : lw_okq (⟨"CellEngineModel", "numbers", "(IZ)I"⟩, 54) := ⟨⟨by decide +kernel, by decide +kernel⟩, List.mem_of_getElem? (i := 1008) (by decide +kernel), List.mem_of_getElem? (i := 1421) (by decide +kernel), List.mem_of_getElem? (i := 1422) (by decide +kernel)⟩
theorem lw_p91 : lw_okq (⟨"CellEngineModel", "raiseGlobal", "(II)I"⟩, 54) := ⟨⟨by decide +kernel, by decide +kernel⟩, List.mem_of_getElem? (i := 1008) (by decide +kernel), List.mem_of_getElem? (i := 1425) (by decide +kernel), List.mem_of_getElem? (i := 1426) (by decide +kernel)⟩
theorem lw_p92 : lw_okq (⟨"CellEngineModel", "divide", "(III)I"⟩, 54) := ⟨⟨by decide +kernel, by decide +kernel⟩, List.mem_of_getElem? (i := 1008) (by decide +kernel), List.mem_of_getElem? (i := 1429) (by decide +kernel), List.mem_of_getElem? (i := 1430) (by decide +kernel)⟩
theorem lw_p93 : lw_okq (⟨"CellEngineModel", "oneByte", "(I)I"⟩, 54) := ⟨⟨by decide +kernel, by decide +kernel⟩, List.mem_of_getElem? (i := 1008) (by decide +kernel), List.mem_of_getElem? (i := 1434) (by decide +kernel), List.mem_of_getElem? (i := 1435) (by decide +kernel)⟩
theorem lw_p94 : lw_okq (⟨"CellEngineModel", "makes", "(I)Z"⟩, 54) := ⟨⟨by decide +kernel, by decide +kernel⟩, List.mem_of_getElem? (i := 1008) (by decide +kernel), List.mem_of_getElem? (i := 1438) (by decide +kernel), List.mem_of_getElem? (i := 1439) (by decide +kernel)⟩
theorem lw_p95 : lw_okq (⟨"CellEngineModel", "decimal", "(I)I"⟩, 54) := ⟨⟨by decide +kernel, by decide +kernel⟩, List.mem_of_getElem? (i := 1008) (by decide +kernel), List.mem_of_getElem? (i := 1442) (by decide +kernel), List.mem_of_getElem? (i := 1443) (by decide +kernel)⟩
def lw_privs_6 : List (MethodName × Nat) := [(⟨"CellEngineModel", "name", "(I)I"⟩, 54), (⟨"CellEngineModel", "packet", "()I"⟩, 54), (⟨"CellEngineModel", "isSame", "(II)Z"⟩, 54), (⟨"CellEngineModel", "isEqual", "()Z"⟩, 54), (⟨"CellEngineModel", "meets", "(IIII)Z"⟩, 54), (⟨"CellEngineModel", "compare", "(II)I"⟩, 54), (⟨"CellEngineModel", "byteAt", "(II)I"⟩, 54), (⟨"CellEngineModel", "leader", "(I)I"⟩, 54), (⟨"CellEngineModel", "compareLater", "(III)V"⟩, 54), (⟨"CellEngineModel", "primitive", "(I)I"⟩, 54), (⟨"CellEngineModel", "numbers", "(IZ)I"⟩, 54), (⟨"CellEngineModel", "raiseGlobal", "(II)I"⟩, 54), (⟨"CellEngineModel", "divide", "(III)I"⟩, 54), (⟨"CellEngineModel", "oneByte", "(I)I"⟩, 54), (⟨"CellEngineModel", "makes", "(I)Z"⟩, 54), (⟨"CellEngineModel", "decimal", "(I)I"⟩, 54)]
theorem lw_r6 : ∀ q ∈ lw_privs_6, lw_okq q := List.forall_mem_cons.mpr ⟨lw_p80, List.forall_mem_cons.mpr ⟨lw_p81, List.forall_mem_cons.mpr ⟨lw_p82, List.forall_mem_cons.mpr ⟨lw_p83, List.forall_mem_cons.mpr ⟨lw_p84, List.forall_mem_cons.mpr ⟨lw_p85, List.forall_mem_cons.mpr ⟨lw_p86, List.forall_mem_cons.mpr ⟨lw_p87, List.forall_mem_cons.mpr ⟨lw_p88, List.forall_mem_cons.mpr ⟨lw_p89, List.forall_mem_cons.mpr ⟨lw_p90, List.forall_mem_cons.mpr ⟨lw_p91, List.forall_mem_cons.mpr ⟨lw_p92, List.forall_mem_cons.mpr ⟨lw_p93, List.forall_mem_cons.mpr ⟨lw_p94, List.forall_mem_cons.mpr ⟨lw_p95, fun _ h => absurd h List.not_mem_nil⟩⟩⟩⟩⟩⟩⟩⟩⟩⟩⟩⟩⟩⟩⟩⟩
theorem lw_p96 : lw_okq (⟨"CellEngineModel", "strings", "(I)I"⟩, 54) := ⟨⟨by decide +kernel, by decide +kernel⟩, List.mem_of_getElem? (i := 1008) (by decide +kernel), List.mem_of_getElem? (i := 1452) (by decide +kernel), List.mem_of_getElem? (i := 1453) (by decide +kernel)⟩
theorem lw_p97 : lw_okq (⟨"CellEngineModel", "join", "()I"⟩, 54) := ⟨⟨by decide +kernel, by decide +kernel⟩, List.mem_of_getElem? (i := 1008) (by decide +kernel), List.mem_of_getElem? (i := 1456) (by decide +kernel), List.mem_of_getElem? (i := 1457) (by decide +kernel)⟩
theorem lw_p98 : lw_okq (⟨"CellEngineModel", "slice", "()I"⟩, 54) := ⟨⟨by decide +kernel, by decide +kernel⟩, List.mem_of_getElem? (i := 1008) (by decide +kernel), List.mem_of_getElem? (i := 1460) (by decide +kernel), List.mem_of_getElem? (i := 1461) (by decide +kernel)⟩
theorem lw_p99 : lw_okq (⟨"CellEngineModel", "print", "()I"⟩, 54) := ⟨⟨by decide +kernel, by decide +kernel⟩, List.mem_of_getElem? (i := 1008) (by decide +kernel), List.mem_of_getElem? (i := 1464) (by decide +kernel), List.mem_of_getElem? (i := 1465) (by decide +kernel)⟩
theorem lw_p100 : lw_okq (⟨"CellEngineModel", "implode", "()I"⟩, 54) := ⟨⟨by decide +kernel, by decide +kernel⟩, List.mem_of_getElem? (i := 1008) (by decide +kernel), List.mem_of_getElem? (i := 1468) (by decide +kernel), List.mem_of_getElem? (i := 1469) (by decide +kernel)⟩
theorem lw_p101 : lw_okq (⟨"CellEngineModel", "isList", "(II)Z"⟩, 54) := ⟨⟨by decide +kernel, by decide +kernel⟩, List.mem_of_getElem? (i := 1008) (by decide +kernel), List.mem_of_getElem? (i := 1472) (by decide +kernel), List.mem_of_getElem? (i := 1473) (by decide +kernel)⟩
theorem lw_p102 : lw_okq (⟨"CellEngineModel", "explode", "()I"⟩, 54) := ⟨⟨by decide +kernel, by decide +kernel⟩, List.mem_of_getElem? (i := 1008) (by decide +kernel), List.mem_of_getElem? (i := 1476) (by decide +kernel), List.mem_of_getElem? (i := 1477) (by decide +kernel)⟩
theorem lw_p103 : lw_okq (⟨"CellEngineModel", "setLocals", "(I)I"⟩, 54) := ⟨⟨by decide +kernel, by decide +kernel⟩, List.mem_of_getElem? (i := 1008) (by decide +kernel), List.mem_of_getElem? (i := 1483) (by decide +kernel), List.mem_of_getElem? (i := 1484) (by decide +kernel)⟩
theorem lw_p104 : lw_okq (⟨"CellEngineModel", "swap", "()I"⟩, 54) := ⟨⟨by decide +kernel, by decide +kernel⟩, List.mem_of_getElem? (i := 1008) (by decide +kernel), List.mem_of_getElem? (i := 1487) (by decide +kernel), List.mem_of_getElem? (i := 1488) (by decide +kernel)⟩
theorem lw_p105 : lw_okq (⟨"CellEngineModel", "find", "(IJ)Z"⟩, 54) := ⟨⟨by decide +kernel, by decide +kernel⟩, List.mem_of_getElem? (i := 1008) (by decide +kernel), List.mem_of_getElem? (i := 1495) (by decide +kernel), List.mem_of_getElem? (i := 1496) (by decide +kernel)⟩
theorem lw_p106 : lw_okq (⟨"CellEngineModel", "unmark", "()V"⟩, 54) := ⟨⟨by decide +kernel, by decide +kernel⟩, List.mem_of_getElem? (i := 1008) (by decide +kernel), List.mem_of_getElem? (i := 1523) (by decide +kernel), List.mem_of_getElem? (i := 1524) (by decide +kernel)⟩
theorem lw_p107 : lw_okq (⟨"CellEngineModel", "forget", "()V"⟩, 54) := ⟨⟨by decide +kernel, by decide +kernel⟩, List.mem_of_getElem? (i := 1008) (by decide +kernel), List.mem_of_getElem? (i := 1531) (by decide +kernel), List.mem_of_getElem? (i := 1532) (by decide +kernel)⟩
def lw_privs_7 : List (MethodName × Nat) := [(⟨"CellEngineModel", "strings", "(I)I"⟩, 54), (⟨"CellEngineModel", "join", "()I"⟩, 54), (⟨"CellEngineModel", "slice", "()I"⟩, 54), (⟨"CellEngineModel", "print", "()I"⟩, 54), (⟨"CellEngineModel", "implode", "()I"⟩, 54), (⟨"CellEngineModel", "isList", "(II)Z"⟩, 54), (⟨"CellEngineModel", "explode", "()I"⟩, 54), (⟨"CellEngineModel", "setLocals", "(I)I"⟩, 54), (⟨"CellEngineModel", "swap", "()I"⟩, 54), (⟨"CellEngineModel", "find", "(IJ)Z"⟩, 54), (⟨"CellEngineModel", "unmark", "()V"⟩, 54), (⟨"CellEngineModel", "forget", "()V"⟩, 54)]
theorem lw_r7 : ∀ q ∈ lw_privs_7, lw_okq q := List.forall_mem_cons.mpr ⟨lw_p96, List.forall_mem_cons.mpr ⟨lw_p97, List.forall_mem_cons.mpr ⟨lw_p98, List.forall_mem_cons.mpr ⟨lw_p99, List.forall_mem_cons.mpr ⟨lw_p100, List.forall_mem_cons.mpr ⟨lw_p101, List.forall_mem_cons.mpr ⟨lw_p102, List.forall_mem_cons.mpr ⟨lw_p103, List.forall_mem_cons.mpr ⟨lw_p104, List.forall_mem_cons.mpr ⟨lw_p105, List.forall_mem_cons.mpr ⟨lw_p106, List.forall_mem_cons.mpr ⟨lw_p107, fun _ h => absurd h List.not_mem_nil⟩⟩⟩⟩⟩⟩⟩⟩⟩⟩⟩⟩
def lw_privs : List (MethodName × Nat) := lw_privs_1 ++ (lw_privs_2 ++ (lw_privs_3 ++ (lw_privs_4 ++ (lw_privs_5 ++ (lw_privs_6 ++ (lw_privs_7))))))
def lw_tbl : List Cond := k2_sels lw_privs ++ tables_1
theorem lw_privs_ok : ∀ q ∈ lw_privs, lw_okq q := by
  show ∀ q ∈ lw_privs_1 ++ (lw_privs_2 ++ (lw_privs_3 ++ (lw_privs_4 ++ (lw_privs_5 ++ (lw_privs_6 ++ (lw_privs_7)))))), lw_okq q
  exact List.forall_mem_append.mpr ⟨lw_r1, List.forall_mem_append.mpr ⟨lw_r2, List.forall_mem_append.mpr ⟨lw_r3, List.forall_mem_append.mpr ⟨lw_r4, List.forall_mem_append.mpr ⟨lw_r5, List.forall_mem_append.mpr ⟨lw_r6, lw_r7⟩⟩⟩⟩⟩⟩
end
section
/-! Rows for decompiled methods: m_TAG .. = some z is a run of the method, c_TAG its contract. -/
def dz_let {α β : Type} (e : α) (f : α → β) : β := f e
theorem dz_lt {α β : Type} {e : α} {f : α → Option β} {z : β} (h : dz_let e f = some z) : ∃ x, x = e ∧ f x = some z := ⟨e, rfl, h⟩
theorem dz_ob {α β : Type} {o : Option α} {f : α → Option β} {z : β} (h : o.bind f = some z) : ∃ r, o = some r ∧ f r = some z := by
  cases o with
  | none => cases h
  | some r => exact ⟨r, rfl, h⟩
theorem dz_oi {c : Prop} [Decidable c] {β : Type} {x : Option β} {z : β} (h : (if c then none else x) = some z) : ¬ c ∧ x = some z := by
  by_cases q : c
  · rw [if_pos q] at h; cases h
  · rw [if_neg q] at h; exact ⟨q, h⟩
def dz_tk {α : Type} (k n : Nat) (o : Option (α × Nat × Nat)) : Option (α × Nat × Nat) := o.map (fun z => (z.1, z.2.1 + k, z.2.2 + n))
theorem dz_tks {α : Type} {k n : Nat} {o : Option (α × Nat × Nat)} {z : α × Nat × Nat} (h : dz_tk k n o = some z) : ∃ z', o = some z' ∧ (z'.1, z'.2.1 + k, z'.2.2 + n) = z := by
  cases o with
  | none => cases h
  | some r => exact ⟨r, rfl, Option.some.inj h⟩
section DZ
variable {p : Program} {l : Launch} {e : Env} {R : Room} {s : State} {m : MethodId} {args : Array Value} {below : List Frame} {meth : Method} {c : Code} {H : Heap} {locs : List Loc} {cells slots : Nat} {Q : State → Prop} {pc : Nat} {ls : Array Slot} {rest : List Value}
theorem dz_topi {x y : Int32} (h : x = y) (k : W p l e R s m args below meth c H locs cells slots Q (F0 m pc ls (.int x :: rest))) : W p l e R s m args below meth c H locs cells slots Q (F0 m pc ls (.int y :: rest)) := h ▸ k
theorem dz_topl {x y : Int64} (h : x = y) (k : W p l e R s m args below meth c H locs cells slots Q (F0 m pc ls (.long x :: rest))) : W p l e R s m args below meth c H locs cells slots Q (F0 m pc ls (.long y :: rest)) := h ▸ k
end DZ
def lw_g : List Cond := lw_tbl.filter goodWord
theorem lw_gg (w : Cond) (h : w ∈ lw_g) : (w.onTables && w.keeps) = true ∨ ∃ ty, w = .arrayClass ty := good_of_word (List.mem_filter.mp h).2
theorem kg {w : Cond} (h : w ∈ lw_tbl) (g : goodWord w = true) : w ∈ lw_g := List.mem_filter.mpr ⟨h, g⟩
theorem gd_N {y : MethodName} {b : ByteArray} {n : Nat} {r : Option FieldType} (hc : Cond.code y b n r ∈ lw_g) : GoodIn lw_g (.code y b n r :: lw_g) := fun w h => by
  rcases List.mem_cons.mp h with rfl | h
  · exact ⟨hc, lw_gg _ hc⟩
  · exact ⟨h, lw_gg _ h⟩
theorem gd_V {own : String} {idx : Nat} {C : String} {y : MethodName} {b : ByteArray} {n : Nat} {r : Option FieldType} (h1 : Cond.methodLink own idx y ∈ lw_g) (h2 : Cond.instanceMethod y ∈ lw_g) (h3 : Cond.selects C y y ∈ lw_g) (h4 : Cond.initialized C ∈ lw_g) (hc : Cond.code y b n r ∈ lw_g) : GoodIn lw_g (wsV own idx C y (.code y b n r :: lw_g)) := by
  intro w hw
  unfold wsV at hw
  rcases List.mem_append.mp hw with h | h
  · simp only [List.mem_cons, List.not_mem_nil, or_false] at h
    rcases h with rfl | rfl | rfl | rfl
    · exact ⟨h1, lw_gg _ h1⟩
    · exact ⟨h2, lw_gg _ h2⟩
    · exact ⟨h3, lw_gg _ h3⟩
    · exact ⟨h4, lw_gg _ h4⟩
  · exact gd_N hc w h
theorem gd_S {own : String} {idx : Nat} {y : MethodName} {b : ByteArray} {n : Nat} {r : Option FieldType} (h1 : Cond.methodLink own idx y ∈ lw_g) (h2 : Cond.static y ∈ lw_g) (h4 : Cond.initialized y.cls ∈ lw_g) (hc : Cond.code y b n r ∈ lw_g) : GoodIn lw_g (va_wsS own idx y (.code y b n r :: lw_g)) := by
  intro w hw
  unfold va_wsS at hw
  rcases List.mem_append.mp hw with h | h
  · simp only [List.mem_cons, List.not_mem_nil, or_false] at h
    rcases h with rfl | rfl | rfl
    · exact ⟨h1, lw_gg _ h1⟩
    · exact ⟨h2, lw_gg _ h2⟩
    · exact ⟨h4, lw_gg _ h4⟩
  · exact gd_N hc w h
/-- z is what is left of (Z1, Zc, Zs) when c cells of n slots have been made -/
def dz_G {α : Type} (Z1 : α) (Zc Zs : Nat) (z : α × Nat × Nat) (c n : Nat) : Prop := z.1 = Z1 ∧ Zc = c + z.2.1 ∧ Zs = n + z.2.2
theorem dz_Gc {α : Type} {Z1 : α} {Zc Zs : Nat} {z : α × Nat × Nat} {c n : Nat} (h : dz_G Z1 Zc Zs z c n) : c ≤ Zc := by
  have := h.2.1
  omega
theorem dz_Gs {α : Type} {Z1 : α} {Zc Zs : Nat} {z : α × Nat × Nat} {c n : Nat} (h : dz_G Z1 Zc Zs z c n) : n ≤ Zs := by
  have := h.2.2
  omega
theorem dz_tkG {α : Type} {Z1 : α} {Zc Zs k i : Nat} {o : Option (α × Nat × Nat)} {z : α × Nat × Nat} {c n : Nat} (h : dz_tk k i o = some z) (hG : dz_G Z1 Zc Zs z c n) : ∃ z', o = some z' ∧ dz_G Z1 Zc Zs z' (c + k) (n + i) := by
  obtain ⟨z', h1, rfl⟩ := dz_tks h
  obtain ⟨g1, g2, g3⟩ := hG
  refine ⟨z', h1, g1, ?_, ?_⟩
  · rw [g2]; show c + (z'.2.1 + k) = c + k + z'.2.1; omega
  · rw [g3]; show n + (z'.2.2 + i) = n + i + z'.2.2; omega
end
section
/-! Names: classes, fields, methods -/
def R_Arrays : String := "java/util/Arrays"
def R_Engine : String := "CellEngine"
def R_Equality : String := "CellEngine$Equality"
def R_Heap : String := "CellEngine$Heap"
def R_Machine : String := "CellEngine$Machine"
def R_Math : String := "java/lang/Math"
def R_Model : String := "CellEngineModel"
def R_Numbers : String := "CellEngine$Numbers"
def R_Object : String := "java/lang/Object"
def R_Objects : String := "CellEngine$Objects"
def R_Output : String := "CellEngine$Output"
def R_Program : String := "CellEngine$Program"
def R_Stacks : String := "CellEngine$Stacks"
def R_Status : String := "CellEngine$Status"
def R_Strings : String := "CellEngine$Strings"
def R_System : String := "java/lang/System"
def R_Value : String := "CellEngine$Value"
def F_Program : u_T := fun k => match k with
  | 0 => ("CellEngine$Program", "words", "[I", false)
  | 1 => ("CellEngine$Program", "size", "I", false)
  | 2 => ("CellEngine$Program", "bytes", "[B", false)
  | 3 => ("CellEngine$Program", "ends", "[I", false)
  | 4 => ("CellEngine$Program", "constants", "I", false)
  | 5 => ("CellEngine$Program", "closed", "I", false)
  | _ => ("CellEngine$Program", "open", "I", false)
def t_Program : Nat → FieldType := fun k => match k with
  | 0 => .array .int
  | 1 => .int
  | 2 => .array .byte
  | 3 => .array .int
  | 4 => .int
  | 5 => .int
  | _ => .int
theorem n_Program : ∀ a, a < 7 → ∀ b, b < 7 → a ≠ b → (F_Program a).2.1 ≠ (F_Program b).2.1 := by decide +kernel
theorem t_Program_ok : ∀ k, k < 7 → parseFieldDescriptor (F_Program k).2.2.1 = some (t_Program k) := by decide +kernel
theorem i_Program : ∀ w ∈ u_ws R_Program F_Program 7, w ∈ lw_g := fun w h => kg (List.mem_append_right _ ((by decide +kernel : ∀ w ∈ u_ws R_Program F_Program 7, w ∈ tables_1) w h)) ((by decide +kernel : ∀ w ∈ u_ws R_Program F_Program 7, goodWord w = true) w h)
def F_Output : u_T := fun k => match k with
  | 0 => ("CellEngine$Output", "bytes", "[B", false)
  | _ => ("CellEngine$Output", "size", "I", false)
def t_Output : Nat → FieldType := fun k => match k with
  | 0 => .array .byte
  | _ => .int
theorem n_Output : ∀ a, a < 2 → ∀ b, b < 2 → a ≠ b → (F_Output a).2.1 ≠ (F_Output b).2.1 := by decide +kernel
theorem t_Output_ok : ∀ k, k < 2 → parseFieldDescriptor (F_Output k).2.2.1 = some (t_Output k) := by decide +kernel
theorem i_Output : ∀ w ∈ u_ws R_Output F_Output 2, w ∈ lw_g := fun w h => kg (List.mem_append_right _ ((by decide +kernel : ∀ w ∈ u_ws R_Output F_Output 2, w ∈ tables_1) w h)) ((by decide +kernel : ∀ w ∈ u_ws R_Output F_Output 2, goodWord w = true) w h)
def F_Stacks : u_T := fun k => match k with
  | 0 => ("CellEngine$Stacks", "values", "[J", false)
  | 1 => ("CellEngine$Stacks", "top", "I", false)
  | 2 => ("CellEngine$Stacks", "bases", "[I", false)
  | 3 => ("CellEngine$Stacks", "floors", "[I", false)
  | 4 => ("CellEngine$Stacks", "returns", "[I", false)
  | 5 => ("CellEngine$Stacks", "closures", "[J", false)
  | 6 => ("CellEngine$Stacks", "frames", "I", false)
  | 7 => ("CellEngine$Stacks", "handlerFrames", "[I", false)
  | 8 => ("CellEngine$Stacks", "handlerPlaces", "[I", false)
  | 9 => ("CellEngine$Stacks", "handlerHeights", "[I", false)
  | 10 => ("CellEngine$Stacks", "handlerDepths", "[I", false)
  | _ => ("CellEngine$Stacks", "handlers", "I", false)
def t_Stacks : Nat → FieldType := fun k => match k with
  | 0 => .array .long
  | 1 => .int
  | 2 => .array .int
  | 3 => .array .int
  | 4 => .array .int
  | 5 => .array .long
  | 6 => .int
  | 7 => .array .int
  | 8 => .array .int
  | 9 => .array .int
  | 10 => .array .int
  | _ => .int
theorem n_Stacks : ∀ a, a < 12 → ∀ b, b < 12 → a ≠ b → (F_Stacks a).2.1 ≠ (F_Stacks b).2.1 := by decide +kernel
theorem t_Stacks_ok : ∀ k, k < 12 → parseFieldDescriptor (F_Stacks k).2.2.1 = some (t_Stacks k) := by decide +kernel
theorem i_Stacks : ∀ w ∈ u_ws R_Stacks F_Stacks 12, w ∈ lw_g := fun w h => kg (List.mem_append_right _ ((by decide +kernel : ∀ w ∈ u_ws R_Stacks F_Stacks 12, w ∈ tables_1) w h)) ((by decide +kernel : ∀ w ∈ u_ws R_Stacks F_Stacks 12, goodWord w = true) w h)
def F_Heap : u_T := fun k => match k with
  | 0 => ("CellEngine$Heap", "stacks", "LCellEngine$Stacks;", true)
  | 1 => ("CellEngine$Heap", "globals", "[J", true)
  | 2 => ("CellEngine$Heap", "globalsUsed", "I", false)
  | 3 => ("CellEngine$Heap", "cells", "[J", false)
  | 4 => ("CellEngine$Heap", "used", "I", false)
  | 5 => ("CellEngine$Heap", "spare", "[J", false)
  | 6 => ("CellEngine$Heap", "spareUsed", "I", false)
  | 7 => ("CellEngine$Heap", "old", "I", false)
  | 8 => ("CellEngine$Heap", "oldLeadsToNew", "Z", false)
  | 9 => ("CellEngine$Heap", "limit", "I", false)
  | 10 => ("CellEngine$Heap", "every", "I", false)
  | 11 => ("CellEngine$Heap", "fresh", "I", false)
  | 12 => ("CellEngine$Heap", "made", "I", false)
  | 13 => ("CellEngine$Heap", "madeLimit", "I", false)
  | 14 => ("CellEngine$Heap", "reachedFromGlobals", "I", false)
  | 15 => ("CellEngine$Heap", "reachedInAll", "I", false)
  | 16 => ("CellEngine$Heap", "keptGlobals", "[J", true)
  | 17 => ("CellEngine$Heap", "keptGlobalsUsed", "I", false)
  | 18 => ("CellEngine$Heap", "keptCells", "[J", false)
  | _ => ("CellEngine$Heap", "kept", "I", false)
def t_Heap : Nat → FieldType := fun k => match k with
  | 0 => .object "CellEngine$Stacks"
  | 1 => .array .long
  | 2 => .int
  | 3 => .array .long
  | 4 => .int
  | 5 => .array .long
  | 6 => .int
  | 7 => .int
  | 8 => .boolean
  | 9 => .int
  | 10 => .int
  | 11 => .int
  | 12 => .int
  | 13 => .int
  | 14 => .int
  | 15 => .int
  | 16 => .array .long
  | 17 => .int
  | 18 => .array .long
  | _ => .int
theorem n_Heap : ∀ a, a < 20 → ∀ b, b < 20 → a ≠ b → (F_Heap a).2.1 ≠ (F_Heap b).2.1 := by decide +kernel
theorem t_Heap_ok : ∀ k, k < 20 → parseFieldDescriptor (F_Heap k).2.2.1 = some (t_Heap k) := by decide +kernel
theorem i_Heap : ∀ w ∈ u_ws R_Heap F_Heap 20, w ∈ lw_g := fun w h => kg (List.mem_append_right _ ((by decide +kernel : ∀ w ∈ u_ws R_Heap F_Heap 20, w ∈ tables_1) w h)) ((by decide +kernel : ∀ w ∈ u_ws R_Heap F_Heap 20, goodWord w = true) w h)
def F_Objects : u_T := fun k => match k with
  | 0 => ("CellEngine$Objects", "program", "LCellEngine$Program;", true)
  | 1 => ("CellEngine$Objects", "stacks", "LCellEngine$Stacks;", true)
  | 2 => ("CellEngine$Objects", "heap", "LCellEngine$Heap;", true)
  | _ => ("CellEngine$Objects", "names", "I", false)
def t_Objects : Nat → FieldType := fun k => match k with
  | 0 => .object "CellEngine$Program"
  | 1 => .object "CellEngine$Stacks"
  | 2 => .object "CellEngine$Heap"
  | _ => .int
theorem n_Objects : ∀ a, a < 4 → ∀ b, b < 4 → a ≠ b → (F_Objects a).2.1 ≠ (F_Objects b).2.1 := by decide +kernel
theorem t_Objects_ok : ∀ k, k < 4 → parseFieldDescriptor (F_Objects k).2.2.1 = some (t_Objects k) := by decide +kernel
theorem i_Objects : ∀ w ∈ u_ws R_Objects F_Objects 4, w ∈ lw_g := fun w h => kg (List.mem_append_right _ ((by decide +kernel : ∀ w ∈ u_ws R_Objects F_Objects 4, w ∈ tables_1) w h)) ((by decide +kernel : ∀ w ∈ u_ws R_Objects F_Objects 4, goodWord w = true) w h)
def F_Equality : u_T := fun k => match k with
  | 0 => ("CellEngine$Equality", "heap", "LCellEngine$Heap;", true)
  | 1 => ("CellEngine$Equality", "links", "[I", false)
  | 2 => ("CellEngine$Equality", "pairs", "[J", false)
  | _ => ("CellEngine$Equality", "size", "I", false)
def t_Equality : Nat → FieldType := fun k => match k with
  | 0 => .object "CellEngine$Heap"
  | 1 => .array .int
  | 2 => .array .long
  | _ => .int
theorem n_Equality : ∀ a, a < 4 → ∀ b, b < 4 → a ≠ b → (F_Equality a).2.1 ≠ (F_Equality b).2.1 := by decide +kernel
theorem t_Equality_ok : ∀ k, k < 4 → parseFieldDescriptor (F_Equality k).2.2.1 = some (t_Equality k) := by decide +kernel
theorem i_Equality : ∀ w ∈ u_ws R_Equality F_Equality 4, w ∈ lw_g := fun w h => kg (List.mem_append_right _ ((by decide +kernel : ∀ w ∈ u_ws R_Equality F_Equality 4, w ∈ tables_1) w h)) ((by decide +kernel : ∀ w ∈ u_ws R_Equality F_Equality 4, goodWord w = true) w h)
def F_Numbers : u_T := fun k => match k with
  | _ => ("CellEngine$Numbers", "stacks", "LCellEngine$Stacks;", true)
def t_Numbers : Nat → FieldType := fun k => match k with
  | _ => .object "CellEngine$Stacks"
theorem n_Numbers : ∀ a, a < 1 → ∀ b, b < 1 → a ≠ b → (F_Numbers a).2.1 ≠ (F_Numbers b).2.1 := by decide +kernel
theorem t_Numbers_ok : ∀ k, k < 1 → parseFieldDescriptor (F_Numbers k).2.2.1 = some (t_Numbers k) := by decide +kernel
theorem i_Numbers : ∀ w ∈ u_ws R_Numbers F_Numbers 1, w ∈ lw_g := fun w h => kg (List.mem_append_right _ ((by decide +kernel : ∀ w ∈ u_ws R_Numbers F_Numbers 1, w ∈ tables_1) w h)) ((by decide +kernel : ∀ w ∈ u_ws R_Numbers F_Numbers 1, goodWord w = true) w h)
def F_Strings : u_T := fun k => match k with
  | 0 => ("CellEngine$Strings", "stacks", "LCellEngine$Stacks;", true)
  | 1 => ("CellEngine$Strings", "heap", "LCellEngine$Heap;", true)
  | _ => ("CellEngine$Strings", "output", "LCellEngine$Output;", true)
def t_Strings : Nat → FieldType := fun k => match k with
  | 0 => .object "CellEngine$Stacks"
  | 1 => .object "CellEngine$Heap"
  | _ => .object "CellEngine$Output"
theorem n_Strings : ∀ a, a < 3 → ∀ b, b < 3 → a ≠ b → (F_Strings a).2.1 ≠ (F_Strings b).2.1 := by decide +kernel
theorem t_Strings_ok : ∀ k, k < 3 → parseFieldDescriptor (F_Strings k).2.2.1 = some (t_Strings k) := by decide +kernel
theorem i_Strings : ∀ w ∈ u_ws R_Strings F_Strings 3, w ∈ lw_g := fun w h => kg (List.mem_append_right _ ((by decide +kernel : ∀ w ∈ u_ws R_Strings F_Strings 3, w ∈ tables_1) w h)) ((by decide +kernel : ∀ w ∈ u_ws R_Strings F_Strings 3, goodWord w = true) w h)
def F_Machine : u_T := fun k => match k with
  | 0 => ("CellEngine$Machine", "program", "LCellEngine$Program;", true)
  | 1 => ("CellEngine$Machine", "stacks", "LCellEngine$Stacks;", true)
  | 2 => ("CellEngine$Machine", "heap", "LCellEngine$Heap;", true)
  | 3 => ("CellEngine$Machine", "objects", "LCellEngine$Objects;", true)
  | 4 => ("CellEngine$Machine", "equality", "LCellEngine$Equality;", true)
  | 5 => ("CellEngine$Machine", "numbers", "LCellEngine$Numbers;", true)
  | 6 => ("CellEngine$Machine", "strings", "LCellEngine$Strings;", true)
  | 7 => ("CellEngine$Machine", "status", "I", false)
  | 8 => ("CellEngine$Machine", "place", "I", false)
  | 9 => ("CellEngine$Machine", "next", "I", false)
  | 10 => ("CellEngine$Machine", "fuel", "I", false)
  | 11 => ("CellEngine$Machine", "ticks", "I", false)
  | 12 => ("CellEngine$Machine", "depth", "I", false)
  | 13 => ("CellEngine$Machine", "depthLimit", "I", false)
  | _ => ("CellEngine$Machine", "done", "I", false)
def t_Machine : Nat → FieldType := fun k => match k with
  | 0 => .object "CellEngine$Program"
  | 1 => .object "CellEngine$Stacks"
  | 2 => .object "CellEngine$Heap"
  | 3 => .object "CellEngine$Objects"
  | 4 => .object "CellEngine$Equality"
  | 5 => .object "CellEngine$Numbers"
  | 6 => .object "CellEngine$Strings"
  | 7 => .int
  | 8 => .int
  | 9 => .int
  | 10 => .int
  | 11 => .int
  | 12 => .int
  | 13 => .int
  | _ => .int
theorem n_Machine : ∀ a, a < 15 → ∀ b, b < 15 → a ≠ b → (F_Machine a).2.1 ≠ (F_Machine b).2.1 := by decide +kernel
theorem t_Machine_ok : ∀ k, k < 15 → parseFieldDescriptor (F_Machine k).2.2.1 = some (t_Machine k) := by decide +kernel
theorem i_Machine : ∀ w ∈ u_ws R_Machine F_Machine 15, w ∈ lw_g := fun w h => kg (List.mem_append_right _ ((by decide +kernel : ∀ w ∈ u_ws R_Machine F_Machine 15, w ∈ tables_1) w h)) ((by decide +kernel : ∀ w ∈ u_ws R_Machine F_Machine 15, goodWord w = true) w h)
def F_Engine : u_T := fun k => match k with
  | 0 => ("CellEngine", "program", "LCellEngine$Program;", true)
  | 1 => ("CellEngine", "heap", "LCellEngine$Heap;", true)
  | 2 => ("CellEngine", "output", "LCellEngine$Output;", true)
  | _ => ("CellEngine", "machine", "LCellEngine$Machine;", true)
def t_Engine : Nat → FieldType := fun k => match k with
  | 0 => .object "CellEngine$Program"
  | 1 => .object "CellEngine$Heap"
  | 2 => .object "CellEngine$Output"
  | _ => .object "CellEngine$Machine"
theorem n_Engine : ∀ a, a < 4 → ∀ b, b < 4 → a ≠ b → (F_Engine a).2.1 ≠ (F_Engine b).2.1 := by decide +kernel
theorem t_Engine_ok : ∀ k, k < 4 → parseFieldDescriptor (F_Engine k).2.2.1 = some (t_Engine k) := by decide +kernel
theorem i_Engine : ∀ w ∈ u_ws R_Engine F_Engine 4, w ∈ lw_g := fun w h => kg (List.mem_append_right _ ((by decide +kernel : ∀ w ∈ u_ws R_Engine F_Engine 4, w ∈ tables_1) w h)) ((by decide +kernel : ∀ w ∈ u_ws R_Engine F_Engine 4, goodWord w = true) w h)
def F_Model : u_T := fun k => match k with
  | 0 => ("CellEngineModel", "tags", "[I", true)
  | 1 => ("CellEngineModel", "cells", "[I", true)
  | 2 => ("CellEngineModel", "chain", "[I", true)
  | 3 => ("CellEngineModel", "used", "I", false)
  | 4 => ("CellEngineModel", "namesMade", "I", false)
  | 5 => ("CellEngineModel", "globalTags", "[I", true)
  | 6 => ("CellEngineModel", "globals", "[I", true)
  | 7 => ("CellEngineModel", "resultTag", "I", false)
  | 8 => ("CellEngineModel", "result", "I", false)
  | 9 => ("CellEngineModel", "savedTags", "[I", true)
  | 10 => ("CellEngineModel", "saved", "[I", true)
  | 11 => ("CellEngineModel", "savedUsed", "I", false)
  | 12 => ("CellEngineModel", "savedGlobalTags", "[I", true)
  | 13 => ("CellEngineModel", "savedGlobals", "[I", true)
  | 14 => ("CellEngineModel", "code", "[I", true)
  | 15 => ("CellEngineModel", "size", "I", false)
  | 16 => ("CellEngineModel", "texts", "[B", true)
  | 17 => ("CellEngineModel", "textAt", "[I", true)
  | 18 => ("CellEngineModel", "constants", "I", false)
  | 19 => ("CellEngineModel", "pending", "I", false)
  | 20 => ("CellEngineModel", "begun", "Z", false)
  | 21 => ("CellEngineModel", "status", "I", false)
  | 22 => ("CellEngineModel", "frames", "I", false)
  | 23 => ("CellEngineModel", "closures", "[I", true)
  | 24 => ("CellEngineModel", "bases", "[I", true)
  | 25 => ("CellEngineModel", "locals", "[I", true)
  | 26 => ("CellEngineModel", "backs", "[I", true)
  | 27 => ("CellEngineModel", "valueTags", "[I", true)
  | 28 => ("CellEngineModel", "values", "[I", true)
  | 29 => ("CellEngineModel", "top", "I", false)
  | 30 => ("CellEngineModel", "handlers", "I", false)
  | 31 => ("CellEngineModel", "handlerFrames", "[I", true)
  | 32 => ("CellEngineModel", "handlerPlaces", "[I", true)
  | 33 => ("CellEngineModel", "handlerHeights", "[I", true)
  | 34 => ("CellEngineModel", "handlerDepths", "[I", true)
  | 35 => ("CellEngineModel", "at", "I", false)
  | 36 => ("CellEngineModel", "fuel", "I", false)
  | 37 => ("CellEngineModel", "ticks", "I", false)
  | 38 => ("CellEngineModel", "made", "I", false)
  | 39 => ("CellEngineModel", "depth", "I", false)
  | 40 => ("CellEngineModel", "done", "I", false)
  | 41 => ("CellEngineModel", "output", "[B", true)
  | 42 => ("CellEngineModel", "written", "I", false)
  | 43 => ("CellEngineModel", "mostReached", "I", false)
  | 44 => ("CellEngineModel", "mostMade", "I", false)
  | 45 => ("CellEngineModel", "mostDepth", "I", false)
  | 46 => ("CellEngineModel", "pairs", "[I", true)
  | 47 => ("CellEngineModel", "paired", "I", false)
  | 48 => ("CellEngineModel", "joined", "[I", true)
  | 49 => ("CellEngineModel", "joins", "I", false)
  | 50 => ("CellEngineModel", "marked", "I", false)
  | 51 => ("CellEngineModel", "reached", "I", false)
  | 52 => ("CellEngineModel", "foundTag", "I", false)
  | _ => ("CellEngineModel", "found", "I", false)
def t_Model : Nat → FieldType := fun k => match k with
  | 0 => .array .int
  | 1 => .array .int
  | 2 => .array .int
  | 3 => .int
  | 4 => .int
  | 5 => .array .int
  | 6 => .array .int
  | 7 => .int
  | 8 => .int
  | 9 => .array .int
  | 10 => .array .int
  | 11 => .int
  | 12 => .array .int
  | 13 => .array .int
  | 14 => .array .int
  | 15 => .int
  | 16 => .array .byte
  | 17 => .array .int
  | 18 => .int
  | 19 => .int
  | 20 => .boolean
  | 21 => .int
  | 22 => .int
  | 23 => .array .int
  | 24 => .array .int
  | 25 => .array .int
  | 26 => .array .int
  | 27 => .array .int
  | 28 => .array .int
  | 29 => .int
  | 30 => .int
  | 31 => .array .int
  | 32 => .array .int
  | 33 => .array .int
  | 34 => .array .int
  | 35 => .int
  | 36 => .int
  | 37 => .int
  | 38 => .int
  | 39 => .int
  | 40 => .int
  | 41 => .array .byte
  | 42 => .int
  | 43 => .int
  | 44 => .int
  | 45 => .int
  | 46 => .array .int
  | 47 => .int
  | 48 => .array .int
  | 49 => .int
  | 50 => .int
  | 51 => .int
  | 52 => .int
  | _ => .int
theorem n_Model : ∀ a, a < 54 → ∀ b, b < 54 → a ≠ b → (F_Model a).2.1 ≠ (F_Model b).2.1 := by decide +kernel
theorem t_Model_ok : ∀ k, k < 54 → parseFieldDescriptor (F_Model k).2.2.1 = some (t_Model k) := by decide +kernel
theorem i_Model : ∀ w ∈ u_ws R_Model F_Model 54, w ∈ lw_g := fun w h => kg (List.mem_append_right _ ((by decide +kernel : ∀ w ∈ u_ws R_Model F_Model 54, w ∈ tables_1) w h)) ((by decide +kernel : ∀ w ∈ u_ws R_Model F_Model 54, goodWord w = true) w h)
def y_Arrays_copyOfB : MethodName := ⟨R_Arrays, "copyOf", "([BI)[B"⟩
abbrev b_Arrays_copyOfB : ByteArray := prog_18_method_121_code
def y_Arrays_copyOfI : MethodName := ⟨R_Arrays, "copyOf", "([II)[I"⟩
abbrev b_Arrays_copyOfI : ByteArray := prog_18_method_123_code
def y_Arrays_copyOfJ : MethodName := ⟨R_Arrays, "copyOf", "([JI)[J"⟩
abbrev b_Arrays_copyOfJ : ByteArray := prog_18_method_124_code
def y_Arrays_fill : MethodName := ⟨R_Arrays, "fill", "([JIIJ)V"⟩
abbrev b_Arrays_fill : ByteArray := prog_18_method_102_code
def y_Arrays_rangeCheck : MethodName := ⟨R_Arrays, "rangeCheck", "(III)V"⟩
abbrev b_Arrays_rangeCheck : ByteArray := prog_18_method_30_code
def y_Engine_byteOf : MethodName := ⟨R_Engine, "byteOf", "(IJI)I"⟩
abbrev b_Engine_byteOf : ByteArray := prog_1_method_9_code
def y_Engine_code : MethodName := ⟨R_Engine, "code", "(I)I"⟩
abbrev b_Engine_code : ByteArray := prog_1_method_2_code
def y_Engine_collect : MethodName := ⟨R_Engine, "collect", "(I)Z"⟩
abbrev b_Engine_collect : ByteArray := prog_1_method_13_code
def y_Engine_constant : MethodName := ⟨R_Engine, "constant", "()I"⟩
abbrev b_Engine_constant : ByteArray := prog_1_method_5_code
def y_Engine_count : MethodName := ⟨R_Engine, "count", "(I)I"⟩
abbrev b_Engine_count : ByteArray := prog_1_method_17_code
def y_Engine_cut : MethodName := ⟨R_Engine, "cut", "(I)I"⟩
abbrev b_Engine_cut : ByteArray := prog_1_method_3_code
def y_Engine_init : MethodName := ⟨R_Engine, "<init>", "()V"⟩
abbrev b_Engine_init : ByteArray := prog_1_method_1_code
def y_Engine_limits : MethodName := ⟨R_Engine, "limits", "(III)Z"⟩
abbrev b_Engine_limits : ByteArray := prog_1_method_12_code
def y_Engine_longer : MethodName := ⟨R_Engine, "longer", "(III)I"⟩
abbrev b_Engine_longer : ByteArray := prog_1_method_18_code
def y_Engine_look : MethodName := ⟨R_Engine, "look", "(IJI)I"⟩
abbrev b_Engine_look : ByteArray := prog_1_method_8_code
def y_Engine_out : MethodName := ⟨R_Engine, "out", "(I)I"⟩
abbrev b_Engine_out : ByteArray := prog_1_method_11_code
def y_Engine_put : MethodName := ⟨R_Engine, "put", "(J)I"⟩
abbrev b_Engine_put : ByteArray := prog_1_method_4_code
def y_Engine_reached : MethodName := ⟨R_Engine, "reached", "()I"⟩
abbrev b_Engine_reached : ByteArray := prog_1_method_14_code
def y_Engine_restore : MethodName := ⟨R_Engine, "restore", "()I"⟩
abbrev b_Engine_restore : ByteArray := prog_1_method_16_code
def y_Engine_same : MethodName := ⟨R_Engine, "same", "(IJIJ)Z"⟩
abbrev b_Engine_same : ByteArray := prog_1_method_10_code
def y_Engine_save : MethodName := ⟨R_Engine, "save", "()I"⟩
abbrev b_Engine_save : ByteArray := prog_1_method_15_code
def y_Engine_start : MethodName := ⟨R_Engine, "start", "(II)Z"⟩
abbrev b_Engine_start : ByteArray := prog_1_method_6_code
def y_Engine_step : MethodName := ⟨R_Engine, "step", "(I)I"⟩
abbrev b_Engine_step : ByteArray := prog_1_method_7_code
def y_Equality_addPair : MethodName := ⟨R_Equality, "addPair", "(II)V"⟩
abbrev b_Equality_addPair : ByteArray := prog_2_method_6_code
def y_Equality_holds : MethodName := ⟨R_Equality, "holds", "(JJ)Z"⟩
abbrev b_Equality_holds : ByteArray := prog_2_method_2_code
def y_Equality_init : MethodName := ⟨R_Equality, "<init>", "(LCellEngine$Heap;)V"⟩
abbrev b_Equality_init : ByteArray := prog_2_method_1_code
def y_Equality_join : MethodName := ⟨R_Equality, "join", "(JJ)Z"⟩
abbrev b_Equality_join : ByteArray := prog_2_method_4_code
def y_Equality_joinParts : MethodName := ⟨R_Equality, "joinParts", "(II)Z"⟩
abbrev b_Equality_joinParts : ByteArray := prog_2_method_3_code
def y_Equality_leader : MethodName := ⟨R_Equality, "leader", "(I)I"⟩
abbrev b_Equality_leader : ByteArray := prog_2_method_5_code
def y_Heap_ask : MethodName := ⟨R_Heap, "ask", "(II)Z"⟩
abbrev b_Heap_ask : ByteArray := prog_3_method_3_code
def y_Heap_bringBack : MethodName := ⟨R_Heap, "bringBack", "()I"⟩
abbrev b_Heap_bringBack : ByteArray := prog_3_method_12_code
def y_Heap_byteAt : MethodName := ⟨R_Heap, "byteAt", "(II)I"⟩
abbrev b_Heap_byteAt : ByteArray := prog_3_method_17_code
def y_Heap_change : MethodName := ⟨R_Heap, "change", "(IJ)V"⟩
abbrev b_Heap_change : ByteArray := prog_3_method_6_code
def y_Heap_find : MethodName := ⟨R_Heap, "find", "(IJ)J"⟩
abbrev b_Heap_find : ByteArray := prog_3_method_13_code
def y_Heap_gather : MethodName := ⟨R_Heap, "gather", "(IZ)V"⟩
abbrev b_Heap_gather : ByteArray := prog_3_method_7_code
def y_Heap_init : MethodName := ⟨R_Heap, "<init>", "(LCellEngine$Stacks;)V"⟩
abbrev b_Heap_init : ByteArray := prog_3_method_1_code
def y_Heap_keep : MethodName := ⟨R_Heap, "keep", "()I"⟩
abbrev b_Heap_keep : ByteArray := prog_3_method_11_code
def y_Heap_lay : MethodName := ⟨R_Heap, "lay", "(JI)I"⟩
abbrev b_Heap_lay : ByteArray := prog_3_method_4_code
def y_Heap_layString : MethodName := ⟨R_Heap, "layString", "(I)I"⟩
abbrev b_Heap_layString : ByteArray := prog_3_method_5_code
def y_Heap_moveBack : MethodName := ⟨R_Heap, "moveBack", "(I)V"⟩
abbrev b_Heap_moveBack : ByteArray := prog_3_method_8_code
def y_Heap_moved : MethodName := ⟨R_Heap, "moved", "(JI)J"⟩
abbrev b_Heap_moved : ByteArray := prog_3_method_9_code
def y_Heap_part : MethodName := ⟨R_Heap, "part", "(JI)J"⟩
abbrev b_Heap_part : ByteArray := prog_3_method_16_code
def y_Heap_parts : MethodName := ⟨R_Heap, "parts", "(J)I"⟩
abbrev b_Heap_parts : ByteArray := prog_3_method_14_code
def y_Heap_setByte : MethodName := ⟨R_Heap, "setByte", "(III)V"⟩
abbrev b_Heap_setByte : ByteArray := prog_3_method_18_code
def y_Heap_setGlobal : MethodName := ⟨R_Heap, "setGlobal", "(IJ)V"⟩
abbrev b_Heap_setGlobal : ByteArray := prog_3_method_2_code
def y_Heap_sizeOf : MethodName := ⟨R_Heap, "sizeOf", "(J)I"⟩
abbrev b_Heap_sizeOf : ByteArray := prog_3_method_10_code
def y_Heap_told : MethodName := ⟨R_Heap, "told", "(J)I"⟩
abbrev b_Heap_told : ByteArray := prog_3_method_15_code
def y_Machine_advance : MethodName := ⟨R_Machine, "advance", "(I)I"⟩
abbrev b_Machine_advance : ByteArray := prog_4_method_5_code
def y_Machine_begin : MethodName := ⟨R_Machine, "begin", "(II)V"⟩
abbrev b_Machine_begin : ByteArray := prog_4_method_2_code
def y_Machine_choose : MethodName := ⟨R_Machine, "choose", "(I)I"⟩
abbrev b_Machine_choose : ByteArray := prog_4_method_14_code
def y_Machine_deepen : MethodName := ⟨R_Machine, "deepen", "(I)I"⟩
abbrev b_Machine_deepen : ByteArray := prog_4_method_22_code
def y_Machine_enterFrame : MethodName := ⟨R_Machine, "enterFrame", "()I"⟩
abbrev b_Machine_enterFrame : ByteArray := prog_4_method_10_code
def y_Machine_forget : MethodName := ⟨R_Machine, "forget", "()V"⟩
abbrev b_Machine_forget : ByteArray := prog_4_method_3_code
def y_Machine_goOn : MethodName := ⟨R_Machine, "goOn", "(I)I"⟩
abbrev b_Machine_goOn : ByteArray := prog_4_method_9_code
def y_Machine_init : MethodName := ⟨R_Machine, "<init>", "(LCellEngine$Program;LCellEngine$Stacks;LCellEngine$Heap;LCellEngine$Output;)V"⟩
abbrev b_Machine_init : ByteArray := prog_4_method_1_code
def y_Machine_leaveFrame : MethodName := ⟨R_Machine, "leaveFrame", "()I"⟩
abbrev b_Machine_leaveFrame : ByteArray := prog_4_method_12_code
def y_Machine_make : MethodName := ⟨R_Machine, "make", "(I)I"⟩
abbrev b_Machine_make : ByteArray := prog_4_method_21_code
def y_Machine_number : MethodName := ⟨R_Machine, "number", "(I)I"⟩
abbrev b_Machine_number : ByteArray := prog_4_method_4_code
def y_Machine_operandsHere : MethodName := ⟨R_Machine, "operandsHere", "()I"⟩
abbrev b_Machine_operandsHere : ByteArray := prog_4_method_6_code
def y_Machine_perform : MethodName := ⟨R_Machine, "perform", "(II)I"⟩
abbrev b_Machine_perform : ByteArray := prog_4_method_7_code
def y_Machine_primitiveFits : MethodName := ⟨R_Machine, "primitiveFits", "(I)Z"⟩
abbrev b_Machine_primitiveFits : ByteArray := prog_4_method_18_code
def y_Machine_raise : MethodName := ⟨R_Machine, "raise", "(JI)I"⟩
abbrev b_Machine_raise : ByteArray := prog_4_method_17_code
def y_Machine_raiseTop : MethodName := ⟨R_Machine, "raiseTop", "()I"⟩
abbrev b_Machine_raiseTop : ByteArray := prog_4_method_16_code
def y_Machine_replaceFrame : MethodName := ⟨R_Machine, "replaceFrame", "()I"⟩
abbrev b_Machine_replaceFrame : ByteArray := prog_4_method_11_code
def y_Machine_settle : MethodName := ⟨R_Machine, "settle", "(II)I"⟩
abbrev b_Machine_settle : ByteArray := prog_4_method_19_code
def y_Machine_stop : MethodName := ⟨R_Machine, "stop", "()I"⟩
abbrev b_Machine_stop : ByteArray := prog_4_method_8_code
def y_Machine_tick : MethodName := ⟨R_Machine, "tick", "()I"⟩
abbrev b_Machine_tick : ByteArray := prog_4_method_20_code
def y_Machine_unhandle : MethodName := ⟨R_Machine, "unhandle", "()I"⟩
abbrev b_Machine_unhandle : ByteArray := prog_4_method_15_code
def y_Machine_unless : MethodName := ⟨R_Machine, "unless", "(I)I"⟩
abbrev b_Machine_unless : ByteArray := prog_4_method_13_code
def y_Math_floorDiv : MethodName := ⟨R_Math, "floorDiv", "(JJ)J"⟩
abbrev b_Math_floorDiv : ByteArray := prog_16_method_49_code
def y_Math_floorMod : MethodName := ⟨R_Math, "floorMod", "(JJ)J"⟩
abbrev b_Math_floorMod : ByteArray := prog_16_method_52_code
def y_Math_max : MethodName := ⟨R_Math, "max", "(II)I"⟩
abbrev b_Math_max : ByteArray := prog_16_method_65_code
def y_Math_min : MethodName := ⟨R_Math, "min", "(II)I"⟩
abbrev b_Math_min : ByteArray := prog_16_method_69_code
def y_Model_areSame : MethodName := ⟨R_Model, "areSame", "(IIII)Z"⟩
abbrev b_Model_areSame : ByteArray := prog_14_method_57_code
def y_Model_assign : MethodName := ⟨R_Model, "assign", "()I"⟩
abbrev b_Model_assign : ByteArray := prog_14_method_45_code
def y_Model_back : MethodName := ⟨R_Model, "back", "()I"⟩
abbrev b_Model_back : ByteArray := prog_14_method_49_code
def y_Model_branch : MethodName := ⟨R_Model, "branch", "(II)I"⟩
abbrev b_Model_branch : ByteArray := prog_14_method_50_code
def y_Model_byteAt : MethodName := ⟨R_Model, "byteAt", "(II)I"⟩
abbrev b_Model_byteAt : ByteArray := prog_14_method_38_code
def y_Model_byteOf : MethodName := ⟨R_Model, "byteOf", "(IJI)I"⟩
abbrev b_Model_byteOf : ByteArray := prog_14_method_81_code
def y_Model_call : MethodName := ⟨R_Model, "call", "()I"⟩
abbrev b_Model_call : ByteArray := prog_14_method_46_code
def y_Model_code : MethodName := ⟨R_Model, "code", "(I)I"⟩
abbrev b_Model_code : ByteArray := prog_14_method_16_code
def y_Model_collect : MethodName := ⟨R_Model, "collect", "(I)Z"⟩
abbrev b_Model_collect : ByteArray := prog_14_method_85_code
def y_Model_compare : MethodName := ⟨R_Model, "compare", "(II)I"⟩
abbrev b_Model_compare : ByteArray := prog_14_method_63_code
def y_Model_compareLater : MethodName := ⟨R_Model, "compareLater", "(III)V"⟩
abbrev b_Model_compareLater : ByteArray := prog_14_method_60_code
def y_Model_constant : MethodName := ⟨R_Model, "constant", "()I"⟩
abbrev b_Model_constant : ByteArray := prog_14_method_19_code
def y_Model_count : MethodName := ⟨R_Model, "count", "(I)I"⟩
abbrev b_Model_count : ByteArray := prog_14_method_90_code
def y_Model_cut : MethodName := ⟨R_Model, "cut", "(I)I"⟩
abbrev b_Model_cut : ByteArray := prog_14_method_17_code
def y_Model_decimal : MethodName := ⟨R_Model, "decimal", "(I)I"⟩
abbrev b_Model_decimal : ByteArray := prog_14_method_70_code
def y_Model_divide : MethodName := ⟨R_Model, "divide", "(III)I"⟩
abbrev b_Model_divide : ByteArray := prog_14_method_67_code
def y_Model_explode : MethodName := ⟨R_Model, "explode", "()I"⟩
abbrev b_Model_explode : ByteArray := prog_14_method_78_code
def y_Model_find : MethodName := ⟨R_Model, "find", "(IJ)Z"⟩
abbrev b_Model_find : ByteArray := prog_14_method_79_code
def y_Model_forget : MethodName := ⟨R_Model, "forget", "()V"⟩
abbrev b_Model_forget : ByteArray := prog_14_method_87_code
def y_Model_free : MethodName := ⟨R_Model, "free", "(I)I"⟩
abbrev b_Model_free : ByteArray := prog_14_method_40_code
def y_Model_gather : MethodName := ⟨R_Model, "gather", "(III)I"⟩
abbrev b_Model_gather : ByteArray := prog_14_method_42_code
def y_Model_give : MethodName := ⟨R_Model, "give", "(III)I"⟩
abbrev b_Model_give : ByteArray := prog_14_method_27_code
def y_Model_handle : MethodName := ⟨R_Model, "handle", "(I)I"⟩
abbrev b_Model_handle : ByteArray := prog_14_method_51_code
def y_Model_hasHandlers : MethodName := ⟨R_Model, "hasHandlers", "()Z"⟩
abbrev b_Model_hasHandlers : ByteArray := prog_14_method_47_code
def y_Model_hasRoom : MethodName := ⟨R_Model, "hasRoom", "(I)Z"⟩
abbrev b_Model_hasRoom : ByteArray := prog_14_method_13_code
def y_Model_height : MethodName := ⟨R_Model, "height", "()I"⟩
abbrev b_Model_height : ByteArray := prog_14_method_22_code
def y_Model_implode : MethodName := ⟨R_Model, "implode", "()I"⟩
abbrev b_Model_implode : ByteArray := prog_14_method_77_code
def y_Model_init : MethodName := ⟨R_Model, "<init>", "()V"⟩
abbrev b_Model_init : ByteArray := prog_14_method_1_code
def y_Model_instruction : MethodName := ⟨R_Model, "instruction", "()I"⟩
abbrev b_Model_instruction : ByteArray := prog_14_method_33_code
def y_Model_is : MethodName := ⟨R_Model, "is", "(II)Z"⟩
abbrev b_Model_is : ByteArray := prog_14_method_24_code
def y_Model_isEqual : MethodName := ⟨R_Model, "isEqual", "()Z"⟩
abbrev b_Model_isEqual : ByteArray := prog_14_method_61_code
def y_Model_isList : MethodName := ⟨R_Model, "isList", "(II)Z"⟩
abbrev b_Model_isList : ByteArray := prog_14_method_76_code
def y_Model_isName : MethodName := ⟨R_Model, "isName", "(I)Z"⟩
abbrev b_Model_isName : ByteArray := prog_14_method_25_code
def y_Model_isOn : MethodName := ⟨R_Model, "isOn", "()Z"⟩
abbrev b_Model_isOn : ByteArray := prog_14_method_9_code
def y_Model_isSame : MethodName := ⟨R_Model, "isSame", "(II)Z"⟩
abbrev b_Model_isSame : ByteArray := prog_14_method_58_code
def y_Model_isScalar : MethodName := ⟨R_Model, "isScalar", "(I)Z"⟩
abbrev b_Model_isScalar : ByteArray := prog_14_method_23_code
def y_Model_join : MethodName := ⟨R_Model, "join", "()I"⟩
abbrev b_Model_join : ByteArray := prog_14_method_73_code
def y_Model_kindAt : MethodName := ⟨R_Model, "kindAt", "(I)I"⟩
abbrev b_Model_kindAt : ByteArray := prog_14_method_2_code
def y_Model_leader : MethodName := ⟨R_Model, "leader", "(I)I"⟩
abbrev b_Model_leader : ByteArray := prog_14_method_59_code
def y_Model_limits : MethodName := ⟨R_Model, "limits", "(III)Z"⟩
abbrev b_Model_limits : ByteArray := prog_14_method_84_code
def y_Model_look : MethodName := ⟨R_Model, "look", "(IJI)I"⟩
abbrev b_Model_look : ByteArray := prog_14_method_80_code
def y_Model_make : MethodName := ⟨R_Model, "make", "(IIII)I"⟩
abbrev b_Model_make : ByteArray := prog_14_method_15_code
def y_Model_makes : MethodName := ⟨R_Model, "makes", "(I)Z"⟩
abbrev b_Model_makes : ByteArray := prog_14_method_14_code
def y_Model_mark : MethodName := ⟨R_Model, "mark", "(II)V"⟩
abbrev b_Model_mark : ByteArray := prog_14_method_5_code
def y_Model_markAll : MethodName := ⟨R_Model, "markAll", "()V"⟩
abbrev b_Model_markAll : ByteArray := prog_14_method_6_code
def y_Model_markGlobals : MethodName := ⟨R_Model, "markGlobals", "()V"⟩
abbrev b_Model_markGlobals : ByteArray := prog_14_method_7_code
def y_Model_markRun : MethodName := ⟨R_Model, "markRun", "()V"⟩
abbrev b_Model_markRun : ByteArray := prog_14_method_10_code
def y_Model_meets : MethodName := ⟨R_Model, "meets", "(IIII)Z"⟩
abbrev b_Model_meets : ByteArray := prog_14_method_62_code
def y_Model_more : MethodName := ⟨R_Model, "more", "(II)I"⟩
abbrev b_Model_more : ByteArray := prog_14_method_28_code
def y_Model_name : MethodName := ⟨R_Model, "name", "(I)I"⟩
abbrev b_Model_name : ByteArray := prog_14_method_53_code
def y_Model_needs : MethodName := ⟨R_Model, "needs", "(II)I"⟩
abbrev b_Model_needs : ByteArray := prog_14_method_32_code
def y_Model_next : MethodName := ⟨R_Model, "next", "(II)I"⟩
abbrev b_Model_next : ByteArray := prog_14_method_29_code
def y_Model_numbers : MethodName := ⟨R_Model, "numbers", "(IZ)I"⟩
abbrev b_Model_numbers : ByteArray := prog_14_method_66_code
def y_Model_oneByte : MethodName := ⟨R_Model, "oneByte", "(I)I"⟩
abbrev b_Model_oneByte : ByteArray := prog_14_method_69_code
def y_Model_ordered : MethodName := ⟨R_Model, "ordered", "(II)I"⟩
abbrev b_Model_ordered : ByteArray := prog_14_method_72_code
def y_Model_others : MethodName := ⟨R_Model, "others", "(III)I"⟩
abbrev b_Model_others : ByteArray := prog_14_method_34_code
def y_Model_out : MethodName := ⟨R_Model, "out", "(I)I"⟩
abbrev b_Model_out : ByteArray := prog_14_method_83_code
def y_Model_packet : MethodName := ⟨R_Model, "packet", "()I"⟩
abbrev b_Model_packet : ByteArray := prog_14_method_54_code
def y_Model_part : MethodName := ⟨R_Model, "part", "(I)I"⟩
abbrev b_Model_part : ByteArray := prog_14_method_43_code
def y_Model_partsAt : MethodName := ⟨R_Model, "partsAt", "(I)I"⟩
abbrev b_Model_partsAt : ByteArray := prog_14_method_3_code
def y_Model_patch : MethodName := ⟨R_Model, "patch", "(I)I"⟩
abbrev b_Model_patch : ByteArray := prog_14_method_44_code
def y_Model_plain : MethodName := ⟨R_Model, "plain", "(III)I"⟩
abbrev b_Model_plain : ByteArray := prog_14_method_68_code
def y_Model_primitive : MethodName := ⟨R_Model, "primitive", "(I)I"⟩
abbrev b_Model_primitive : ByteArray := prog_14_method_65_code
def y_Model_print : MethodName := ⟨R_Model, "print", "()I"⟩
abbrev b_Model_print : ByteArray := prog_14_method_75_code
def y_Model_put : MethodName := ⟨R_Model, "put", "(J)I"⟩
abbrev b_Model_put : ByteArray := prog_14_method_18_code
def y_Model_raise : MethodName := ⟨R_Model, "raise", "(IIII)I"⟩
abbrev b_Model_raise : ByteArray := prog_14_method_52_code
def y_Model_raiseGlobal : MethodName := ⟨R_Model, "raiseGlobal", "(II)I"⟩
abbrev b_Model_raiseGlobal : ByteArray := prog_14_method_64_code
def y_Model_reached : MethodName := ⟨R_Model, "reached", "()I"⟩
abbrev b_Model_reached : ByteArray := prog_14_method_86_code
def y_Model_restore : MethodName := ⟨R_Model, "restore", "()I"⟩
abbrev b_Model_restore : ByteArray := prog_14_method_89_code
def y_Model_same : MethodName := ⟨R_Model, "same", "(IJIJ)Z"⟩
abbrev b_Model_same : ByteArray := prog_14_method_82_code
def y_Model_save : MethodName := ⟨R_Model, "save", "()I"⟩
abbrev b_Model_save : ByteArray := prog_14_method_88_code
def y_Model_scalar : MethodName := ⟨R_Model, "scalar", "(I)I"⟩
abbrev b_Model_scalar : ByteArray := prog_14_method_26_code
def y_Model_setByte : MethodName := ⟨R_Model, "setByte", "(III)V"⟩
abbrev b_Model_setByte : ByteArray := prog_14_method_37_code
def y_Model_setGlobal : MethodName := ⟨R_Model, "setGlobal", "(I)I"⟩
abbrev b_Model_setGlobal : ByteArray := prog_14_method_41_code
def y_Model_setLocals : MethodName := ⟨R_Model, "setLocals", "(I)I"⟩
abbrev b_Model_setLocals : ByteArray := prog_14_method_55_code
def y_Model_settle : MethodName := ⟨R_Model, "settle", "()I"⟩
abbrev b_Model_settle : ByteArray := prog_14_method_11_code
def y_Model_sizeAt : MethodName := ⟨R_Model, "sizeAt", "(I)I"⟩
abbrev b_Model_sizeAt : ByteArray := prog_14_method_4_code
def y_Model_slice : MethodName := ⟨R_Model, "slice", "()I"⟩
abbrev b_Model_slice : ByteArray := prog_14_method_74_code
def y_Model_slide : MethodName := ⟨R_Model, "slide", "()V"⟩
abbrev b_Model_slide : ByteArray := prog_14_method_12_code
def y_Model_start : MethodName := ⟨R_Model, "start", "(II)Z"⟩
abbrev b_Model_start : ByteArray := prog_14_method_20_code
def y_Model_step : MethodName := ⟨R_Model, "step", "(I)I"⟩
abbrev b_Model_step : ByteArray := prog_14_method_21_code
def y_Model_store : MethodName := ⟨R_Model, "store", "(I)I"⟩
abbrev b_Model_store : ByteArray := prog_14_method_39_code
def y_Model_string : MethodName := ⟨R_Model, "string", "(I)I"⟩
abbrev b_Model_string : ByteArray := prog_14_method_36_code
def y_Model_strings : MethodName := ⟨R_Model, "strings", "(I)I"⟩
abbrev b_Model_strings : ByteArray := prog_14_method_71_code
def y_Model_swap : MethodName := ⟨R_Model, "swap", "()I"⟩
abbrev b_Model_swap : ByteArray := prog_14_method_56_code
def y_Model_tail : MethodName := ⟨R_Model, "tail", "()I"⟩
abbrev b_Model_tail : ByteArray := prog_14_method_48_code
def y_Model_text : MethodName := ⟨R_Model, "text", "(I)I"⟩
abbrev b_Model_text : ByteArray := prog_14_method_35_code
def y_Model_unmark : MethodName := ⟨R_Model, "unmark", "()V"⟩
abbrev b_Model_unmark : ByteArray := prog_14_method_8_code
def y_Model_word : MethodName := ⟨R_Model, "word", "(I)I"⟩
abbrev b_Model_word : ByteArray := prog_14_method_30_code
def y_Model_words : MethodName := ⟨R_Model, "words", "()I"⟩
abbrev b_Model_words : ByteArray := prog_14_method_31_code
def y_Numbers_apply : MethodName := ⟨R_Numbers, "apply", "(II)I"⟩
abbrev b_Numbers_apply : ByteArray := prog_5_method_2_code
def y_Numbers_bits : MethodName := ⟨R_Numbers, "bits", "(III)I"⟩
abbrev b_Numbers_bits : ByteArray := prog_5_method_5_code
def y_Numbers_init : MethodName := ⟨R_Numbers, "<init>", "(LCellEngine$Stacks;)V"⟩
abbrev b_Numbers_init : ByteArray := prog_5_method_1_code
def y_Numbers_signed : MethodName := ⟨R_Numbers, "signed", "(IJJ)J"⟩
abbrev b_Numbers_signed : ByteArray := prog_5_method_3_code
def y_Numbers_unsigned : MethodName := ⟨R_Numbers, "unsigned", "(IJJ)I"⟩
abbrev b_Numbers_unsigned : ByteArray := prog_5_method_4_code
def y_Object_clone : MethodName := ⟨R_Object, "clone", "()Ljava/lang/Object;"⟩
def y_Object_init : MethodName := ⟨R_Object, "<init>", "()V"⟩
abbrev b_Object_init : ByteArray := object_method_1_code
def y_Objects_argument : MethodName := ⟨R_Objects, "argument", "()I"⟩
abbrev b_Objects_argument : ByteArray := prog_6_method_7_code
def y_Objects_captured : MethodName := ⟨R_Objects, "captured", "(I)I"⟩
abbrev b_Objects_captured : ByteArray := prog_6_method_9_code
def y_Objects_closure : MethodName := ⟨R_Objects, "closure", "(II)I"⟩
abbrev b_Objects_closure : ByteArray := prog_6_method_5_code
def y_Objects_field : MethodName := ⟨R_Objects, "field", "(I)I"⟩
abbrev b_Objects_field : ByteArray := prog_6_method_6_code
def y_Objects_global : MethodName := ⟨R_Objects, "global", "(I)I"⟩
abbrev b_Objects_global : ByteArray := prog_6_method_11_code
def y_Objects_init : MethodName := ⟨R_Objects, "<init>", "(LCellEngine$Program;LCellEngine$Stacks;LCellEngine$Heap;)V"⟩
abbrev b_Objects_init : ByteArray := prog_6_method_1_code
def y_Objects_isSame : MethodName := ⟨R_Objects, "isSame", "()I"⟩
abbrev b_Objects_isSame : ByteArray := prog_6_method_18_code
def y_Objects_likeConstant : MethodName := ⟨R_Objects, "likeConstant", "(I)I"⟩
abbrev b_Objects_likeConstant : ByteArray := prog_6_method_2_code
def y_Objects_name : MethodName := ⟨R_Objects, "name", "(I)I"⟩
abbrev b_Objects_name : ByteArray := prog_6_method_15_code
def y_Objects_nameOf : MethodName := ⟨R_Objects, "nameOf", "()I"⟩
abbrev b_Objects_nameOf : ByteArray := prog_6_method_17_code
def y_Objects_packet : MethodName := ⟨R_Objects, "packet", "()I"⟩
abbrev b_Objects_packet : ByteArray := prog_6_method_16_code
def y_Objects_patch : MethodName := ⟨R_Objects, "patch", "(I)I"⟩
abbrev b_Objects_patch : ByteArray := prog_6_method_10_code
def y_Objects_record : MethodName := ⟨R_Objects, "record", "(I)I"⟩
abbrev b_Objects_record : ByteArray := prog_6_method_4_code
def y_Objects_refer : MethodName := ⟨R_Objects, "refer", "()I"⟩
abbrev b_Objects_refer : ByteArray := prog_6_method_14_code
def y_Objects_referredTo : MethodName := ⟨R_Objects, "referredTo", "()I"⟩
abbrev b_Objects_referredTo : ByteArray := prog_6_method_13_code
def y_Objects_setGlobal : MethodName := ⟨R_Objects, "setGlobal", "(I)I"⟩
abbrev b_Objects_setGlobal : ByteArray := prog_6_method_12_code
def y_Objects_tag : MethodName := ⟨R_Objects, "tag", "()I"⟩
abbrev b_Objects_tag : ByteArray := prog_6_method_8_code
def y_Objects_wrap : MethodName := ⟨R_Objects, "wrap", "(III)I"⟩
abbrev b_Objects_wrap : ByteArray := prog_6_method_3_code
def y_Output_accept : MethodName := ⟨R_Output, "accept", "(I)I"⟩
abbrev b_Output_accept : ByteArray := prog_7_method_2_code
def y_Output_add : MethodName := ⟨R_Output, "add", "(I)V"⟩
abbrev b_Output_add : ByteArray := prog_7_method_3_code
def y_Output_init : MethodName := ⟨R_Output, "<init>", "()V"⟩
abbrev b_Output_init : ByteArray := prog_7_method_1_code
def y_Program_addBytes : MethodName := ⟨R_Program, "addBytes", "(J)I"⟩
abbrev b_Program_addBytes : ByteArray := prog_8_method_4_code
def y_Program_append : MethodName := ⟨R_Program, "append", "(I)I"⟩
abbrev b_Program_append : ByteArray := prog_8_method_2_code
def y_Program_beginOf : MethodName := ⟨R_Program, "beginOf", "(I)I"⟩
abbrev b_Program_beginOf : ByteArray := prog_8_method_7_code
def y_Program_bytesBeforeZero : MethodName := ⟨R_Program, "bytesBeforeZero", "(J)I"⟩
abbrev b_Program_bytesBeforeZero : ByteArray := prog_8_method_5_code
def y_Program_endConstant : MethodName := ⟨R_Program, "endConstant", "()I"⟩
abbrev b_Program_endConstant : ByteArray := prog_8_method_6_code
def y_Program_init : MethodName := ⟨R_Program, "<init>", "()V"⟩
abbrev b_Program_init : ByteArray := prog_8_method_1_code
def y_Program_shorten : MethodName := ⟨R_Program, "shorten", "(I)I"⟩
abbrev b_Program_shorten : ByteArray := prog_8_method_3_code
def y_Stacks_addHandler : MethodName := ⟨R_Stacks, "addHandler", "(II)I"⟩
abbrev b_Stacks_addHandler : ByteArray := prog_9_method_22_code
def y_Stacks_become : MethodName := ⟨R_Stacks, "become", "()V"⟩
abbrev b_Stacks_become : ByteArray := prog_9_method_20_code
def y_Stacks_begin : MethodName := ⟨R_Stacks, "begin", "()V"⟩
abbrev b_Stacks_begin : ByteArray := prog_9_method_2_code
def y_Stacks_clear : MethodName := ⟨R_Stacks, "clear", "()V"⟩
abbrev b_Stacks_clear : ByteArray := prog_9_method_3_code
def y_Stacks_closure : MethodName := ⟨R_Stacks, "closure", "()J"⟩
abbrev b_Stacks_closure : ByteArray := prog_9_method_7_code
def y_Stacks_drop : MethodName := ⟨R_Stacks, "drop", "()I"⟩
abbrev b_Stacks_drop : ByteArray := prog_9_method_14_code
def y_Stacks_enter : MethodName := ⟨R_Stacks, "enter", "(I)I"⟩
abbrev b_Stacks_enter : ByteArray := prog_9_method_18_code
def y_Stacks_hasHandler : MethodName := ⟨R_Stacks, "hasHandler", "()Z"⟩
abbrev b_Stacks_hasHandler : ByteArray := prog_9_method_17_code
def y_Stacks_height : MethodName := ⟨R_Stacks, "height", "()I"⟩
abbrev b_Stacks_height : ByteArray := prog_9_method_4_code
def y_Stacks_init : MethodName := ⟨R_Stacks, "<init>", "()V"⟩
abbrev b_Stacks_init : ByteArray := prog_9_method_1_code
def y_Stacks_isFull : MethodName := ⟨R_Stacks, "isFull", "()Z"⟩
abbrev b_Stacks_isFull : ByteArray := prog_9_method_6_code
def y_Stacks_leave : MethodName := ⟨R_Stacks, "leave", "()I"⟩
abbrev b_Stacks_leave : ByteArray := prog_9_method_21_code
def y_Stacks_local : MethodName := ⟨R_Stacks, "local", "(I)I"⟩
abbrev b_Stacks_local : ByteArray := prog_9_method_12_code
def y_Stacks_locals : MethodName := ⟨R_Stacks, "locals", "()I"⟩
abbrev b_Stacks_locals : ByteArray := prog_9_method_5_code
def y_Stacks_peek : MethodName := ⟨R_Stacks, "peek", "(I)J"⟩
abbrev b_Stacks_peek : ByteArray := prog_9_method_8_code
def y_Stacks_push : MethodName := ⟨R_Stacks, "push", "(J)I"⟩
abbrev b_Stacks_push : ByteArray := prog_9_method_9_code
def y_Stacks_replace : MethodName := ⟨R_Stacks, "replace", "(IJ)I"⟩
abbrev b_Stacks_replace : ByteArray := prog_9_method_10_code
def y_Stacks_setLocals : MethodName := ⟨R_Stacks, "setLocals", "(I)I"⟩
abbrev b_Stacks_setLocals : ByteArray := prog_9_method_16_code
def y_Stacks_store : MethodName := ⟨R_Stacks, "store", "(I)I"⟩
abbrev b_Stacks_store : ByteArray := prog_9_method_13_code
def y_Stacks_swap : MethodName := ⟨R_Stacks, "swap", "()I"⟩
abbrev b_Stacks_swap : ByteArray := prog_9_method_15_code
def y_Stacks_unwind : MethodName := ⟨R_Stacks, "unwind", "(JI)Z"⟩
abbrev b_Stacks_unwind : ByteArray := prog_9_method_24_code
def y_Stacks_widen : MethodName := ⟨R_Stacks, "widen", "(I)V"⟩
abbrev b_Stacks_widen : ByteArray := prog_9_method_11_code
def y_Stacks_widenFrames : MethodName := ⟨R_Stacks, "widenFrames", "()V"⟩
abbrev b_Stacks_widenFrames : ByteArray := prog_9_method_19_code
def y_Stacks_widenHandlers : MethodName := ⟨R_Stacks, "widenHandlers", "()V"⟩
abbrev b_Stacks_widenHandlers : ByteArray := prog_9_method_23_code
def y_Status_isDone : MethodName := ⟨R_Status, "isDone", "(I)Z"⟩
abbrev b_Status_isDone : ByteArray := prog_10_method_2_code
def y_Strings_apply : MethodName := ⟨R_Strings, "apply", "(I)I"⟩
abbrev b_Strings_apply : ByteArray := prog_11_method_2_code
def y_Strings_concatenate : MethodName := ⟨R_Strings, "concatenate", "()I"⟩
abbrev b_Strings_concatenate : ByteArray := prog_11_method_4_code
def y_Strings_copyBytes : MethodName := ⟨R_Strings, "copyBytes", "(IIIII)V"⟩
abbrev b_Strings_copyBytes : ByteArray := prog_11_method_5_code
def y_Strings_decimal : MethodName := ⟨R_Strings, "decimal", "()I"⟩
abbrev b_Strings_decimal : ByteArray := prog_11_method_11_code
def y_Strings_element : MethodName := ⟨R_Strings, "element", "()I"⟩
abbrev b_Strings_element : ByteArray := prog_11_method_8_code
def y_Strings_explode : MethodName := ⟨R_Strings, "explode", "()I"⟩
abbrev b_Strings_explode : ByteArray := prog_11_method_14_code
def y_Strings_implode : MethodName := ⟨R_Strings, "implode", "()I"⟩
abbrev b_Strings_implode : ByteArray := prog_11_method_12_code
def y_Strings_init : MethodName := ⟨R_Strings, "<init>", "(LCellEngine$Stacks;LCellEngine$Heap;LCellEngine$Output;)V"⟩
abbrev b_Strings_init : ByteArray := prog_11_method_1_code
def y_Strings_isByte : MethodName := ⟨R_Strings, "isByte", "(J)Z"⟩
abbrev b_Strings_isByte : ByteArray := prog_11_method_3_code
def y_Strings_listLength : MethodName := ⟨R_Strings, "listLength", "(J)I"⟩
abbrev b_Strings_listLength : ByteArray := prog_11_method_13_code
def y_Strings_order : MethodName := ⟨R_Strings, "order", "()I"⟩
abbrev b_Strings_order : ByteArray := prog_11_method_9_code
def y_Strings_print : MethodName := ⟨R_Strings, "print", "()I"⟩
abbrev b_Strings_print : ByteArray := prog_11_method_10_code
def y_Strings_single : MethodName := ⟨R_Strings, "single", "()I"⟩
abbrev b_Strings_single : ByteArray := prog_11_method_6_code
def y_Strings_substring : MethodName := ⟨R_Strings, "substring", "()I"⟩
abbrev b_Strings_substring : ByteArray := prog_11_method_7_code
def y_System_arraycopy : MethodName := ⟨R_System, "arraycopy", "(Ljava/lang/Object;ILjava/lang/Object;II)V"⟩
def y_Value_cellsOfString : MethodName := ⟨R_Value, "cellsOfString", "(I)I"⟩
abbrev b_Value_cellsOfString : ByteArray := prog_12_method_9_code
def y_Value_head : MethodName := ⟨R_Value, "head", "(III)J"⟩
abbrev b_Value_head : ByteArray := prog_12_method_7_code
def y_Value_kind : MethodName := ⟨R_Value, "kind", "(J)I"⟩
abbrev b_Value_kind : ByteArray := prog_12_method_2_code
def y_Value_number : MethodName := ⟨R_Value, "number", "(J)I"⟩
abbrev b_Value_number : ByteArray := prog_12_method_3_code
def y_Value_object : MethodName := ⟨R_Value, "object", "(II)J"⟩
abbrev b_Value_object : ByteArray := prog_12_method_6_code
def y_Value_scalar : MethodName := ⟨R_Value, "scalar", "(I)J"⟩
abbrev b_Value_scalar : ByteArray := prog_12_method_4_code
def y_Value_truth : MethodName := ⟨R_Value, "truth", "(Z)J"⟩
abbrev b_Value_truth : ByteArray := prog_12_method_5_code
def y_Value_withKind : MethodName := ⟨R_Value, "withKind", "(JI)J"⟩
abbrev b_Value_withKind : ByteArray := prog_12_method_8_code
abbrev classes : List vw_C := [(R_Program, F_Program, 7), (R_Output, F_Output, 2), (R_Stacks, F_Stacks, 12), (R_Heap, F_Heap, 20), (R_Objects, F_Objects, 4), (R_Equality, F_Equality, 4), (R_Numbers, F_Numbers, 1), (R_Strings, F_Strings, 3), (R_Machine, F_Machine, 15), (R_Engine, F_Engine, 4), (R_Model, F_Model, 54)]
/-- the links of nest mates -/
def dz_N (U : State) : Prop := va_Nw (.methodLinkNest R_Equality 39 y_Heap_sizeOf "CellEngine") U ∧ va_Nw (.methodLinkNest R_Equality 59 y_Engine_longer "CellEngine") U ∧ va_Nw (.methodLinkNest R_Heap 73 y_Engine_longer "CellEngine") U ∧ va_Nw (.methodLinkNest R_Output 24 y_Engine_longer "CellEngine") U ∧ va_Nw (.methodLinkNest R_Program 27 y_Engine_longer "CellEngine") U ∧ va_Nw (.methodLinkNest R_Stacks 62 y_Engine_longer "CellEngine") U
theorem dz_Nw {s U : State} (hW : s.WarmedH U.vm) (h : dz_N s) : dz_N U := ⟨va_Nw.warmM hW h.1, va_Nw.warmM hW h.2.1, va_Nw.warmM hW h.2.2.1, va_Nw.warmM hW h.2.2.2.1, va_Nw.warmM hW h.2.2.2.2.1, va_Nw.warmM hW h.2.2.2.2.2⟩
theorem dz_Ns {s U : State} (hW : s.vm = U.vm) (h : dz_N s) : dz_N U := ⟨va_Nw.same rfl hW h.1, va_Nw.same rfl hW h.2.1, va_Nw.same rfl hW h.2.2.1, va_Nw.same rfl hW h.2.2.2.1, va_Nw.same rfl hW h.2.2.2.2.1, va_Nw.same rfl hW h.2.2.2.2.2⟩
theorem dz_blind {av : List Value} {sz : Nat} {D : va_G} {cl : List vw_C} {ws : va_W} {tys : List (ClassId × FieldType)} : FrameBlind (va_Pc av (fun U => dz_N U ∧ U.heap.size = sz ∧ va_P D cl ws U.heap ∧ va_K D cl tys U ∧ va_D (fun _ => True) ws)) := fun a U g mk q => by
  obtain ⟨q0, qN, q1, qP, qK, qD⟩ := q
  exact ⟨q0, dz_Ns rfl qN, q1, qP, va_K.moved (u := U) (U := U.calling g mk a) (Vm.Alike.refl U.vm) qK, qD⟩
theorem dz_blindR {av : List Value} {D : va_G} {cl : List vw_C} {ws : va_W} {tys : List (ClassId × FieldType)} : FrameBlind (va_Pc av (fun U => dz_N U ∧ va_P D cl ws U.heap ∧ va_K D cl tys U)) := fun a U g mk q => by
  obtain ⟨q0, qN, qP, qK⟩ := q
  exact ⟨q0, dz_Ns rfl qN, qP, va_K.moved (u := U) (U := U.calling g mk a) (Vm.Alike.refl U.vm) qK⟩
end
section
theorem d_Math_min_0 : decode b_Math_min 0 = .ok (.iload_n 0, 1) := by decide +kernel
theorem d_Math_min_1 : decode b_Math_min 1 = .ok (.iload_n 1, 1) := by decide +kernel
theorem d_Math_min_2 : decode b_Math_min 2 = .ok (.if_icmp .gt 7, 3) := by decide +kernel
theorem d_Math_min_5 : decode b_Math_min 5 = .ok (.iload_n 0, 1) := by decide +kernel
theorem d_Math_min_6 : decode b_Math_min 6 = .ok (.goto 4, 3) := by decide +kernel
theorem d_Math_min_9 : decode b_Math_min 9 = .ok (.iload_n 1, 1) := by decide +kernel
theorem d_Math_min_10 : decode b_Math_min 10 = .ok (.ireturn, 1) := by decide +kernel
theorem d_Math_max_0 : decode b_Math_max 0 = .ok (.iload_n 0, 1) := by decide +kernel
theorem d_Math_max_1 : decode b_Math_max 1 = .ok (.iload_n 1, 1) := by decide +kernel
theorem d_Math_max_2 : decode b_Math_max 2 = .ok (.if_icmp .lt 7, 3) := by decide +kernel
theorem d_Math_max_5 : decode b_Math_max 5 = .ok (.iload_n 0, 1) := by decide +kernel
theorem d_Math_max_6 : decode b_Math_max 6 = .ok (.goto 4, 3) := by decide +kernel
theorem d_Math_max_9 : decode b_Math_max 9 = .ok (.iload_n 1, 1) := by decide +kernel
theorem d_Math_max_10 : decode b_Math_max 10 = .ok (.ireturn, 1) := by decide +kernel
theorem d_Math_floorDiv_0 : decode b_Math_floorDiv 0 = .ok (.lload_n 0, 1) := by decide +kernel
theorem d_Math_floorDiv_1 : decode b_Math_floorDiv 1 = .ok (.lload_n 2, 1) := by decide +kernel
theorem d_Math_floorDiv_2 : decode b_Math_floorDiv 2 = .ok (.ldiv, 1) := by decide +kernel
theorem d_Math_floorDiv_3 : decode b_Math_floorDiv 3 = .ok (.lstore 4, 2) := by decide +kernel
theorem d_Math_floorDiv_5 : decode b_Math_floorDiv 5 = .ok (.lload_n 0, 1) := by decide +kernel
theorem d_Math_floorDiv_6 : decode b_Math_floorDiv 6 = .ok (.lload_n 2, 1) := by decide +kernel
theorem d_Math_floorDiv_7 : decode b_Math_floorDiv 7 = .ok (.lxor, 1) := by decide +kernel
theorem d_Math_floorDiv_8 : decode b_Math_floorDiv 8 = .ok (.lconst 0, 1) := by decide +kernel
theorem d_Math_floorDiv_9 : decode b_Math_floorDiv 9 = .ok (.lcmp, 1) := by decide +kernel
theorem d_Math_floorDiv_10 : decode b_Math_floorDiv 10 = .ok (.ifCond .ge 17, 3) := by decide +kernel
theorem d_Math_floorDiv_13 : decode b_Math_floorDiv 13 = .ok (.lload 4, 2) := by decide +kernel
theorem d_Math_floorDiv_15 : decode b_Math_floorDiv 15 = .ok (.lload_n 2, 1) := by decide +kernel
theorem d_Math_floorDiv_16 : decode b_Math_floorDiv 16 = .ok (.lmul, 1) := by decide +kernel
theorem d_Math_floorDiv_17 : decode b_Math_floorDiv 17 = .ok (.lload_n 0, 1) := by decide +kernel
theorem d_Math_floorDiv_18 : decode b_Math_floorDiv 18 = .ok (.lcmp, 1) := by decide +kernel
theorem d_Math_floorDiv_19 : decode b_Math_floorDiv 19 = .ok (.ifCond .eq 8, 3) := by decide +kernel
theorem d_Math_floorDiv_22 : decode b_Math_floorDiv 22 = .ok (.lload 4, 2) := by decide +kernel
theorem d_Math_floorDiv_24 : decode b_Math_floorDiv 24 = .ok (.lconst 1, 1) := by decide +kernel
theorem d_Math_floorDiv_25 : decode b_Math_floorDiv 25 = .ok (.lsub, 1) := by decide +kernel
theorem d_Math_floorDiv_26 : decode b_Math_floorDiv 26 = .ok (.lreturn, 1) := by decide +kernel
theorem d_Math_floorDiv_27 : decode b_Math_floorDiv 27 = .ok (.lload 4, 2) := by decide +kernel
theorem d_Math_floorDiv_29 : decode b_Math_floorDiv 29 = .ok (.lreturn, 1) := by decide +kernel
theorem d_Math_floorMod_0 : decode b_Math_floorMod 0 = .ok (.lload_n 0, 1) := by decide +kernel
theorem d_Math_floorMod_1 : decode b_Math_floorMod 1 = .ok (.lload_n 2, 1) := by decide +kernel
theorem d_Math_floorMod_2 : decode b_Math_floorMod 2 = .ok (.lrem, 1) := by decide +kernel
theorem d_Math_floorMod_3 : decode b_Math_floorMod 3 = .ok (.lstore 4, 2) := by decide +kernel
theorem d_Math_floorMod_5 : decode b_Math_floorMod 5 = .ok (.lload_n 0, 1) := by decide +kernel
theorem d_Math_floorMod_6 : decode b_Math_floorMod 6 = .ok (.lload_n 2, 1) := by decide +kernel
theorem d_Math_floorMod_7 : decode b_Math_floorMod 7 = .ok (.lxor, 1) := by decide +kernel
theorem d_Math_floorMod_8 : decode b_Math_floorMod 8 = .ok (.lconst 0, 1) := by decide +kernel
theorem d_Math_floorMod_9 : decode b_Math_floorMod 9 = .ok (.lcmp, 1) := by decide +kernel
theorem d_Math_floorMod_10 : decode b_Math_floorMod 10 = .ok (.ifCond .ge 15, 3) := by decide +kernel
theorem d_Math_floorMod_13 : decode b_Math_floorMod 13 = .ok (.lload 4, 2) := by decide +kernel
theorem d_Math_floorMod_15 : decode b_Math_floorMod 15 = .ok (.lconst 0, 1) := by decide +kernel
theorem d_Math_floorMod_16 : decode b_Math_floorMod 16 = .ok (.lcmp, 1) := by decide +kernel
theorem d_Math_floorMod_17 : decode b_Math_floorMod 17 = .ok (.ifCond .eq 8, 3) := by decide +kernel
theorem d_Math_floorMod_20 : decode b_Math_floorMod 20 = .ok (.lload 4, 2) := by decide +kernel
theorem d_Math_floorMod_22 : decode b_Math_floorMod 22 = .ok (.lload_n 2, 1) := by decide +kernel
theorem d_Math_floorMod_23 : decode b_Math_floorMod 23 = .ok (.ladd, 1) := by decide +kernel
theorem d_Math_floorMod_24 : decode b_Math_floorMod 24 = .ok (.lreturn, 1) := by decide +kernel
theorem d_Math_floorMod_25 : decode b_Math_floorMod 25 = .ok (.lload 4, 2) := by decide +kernel
theorem d_Math_floorMod_27 : decode b_Math_floorMod 27 = .ok (.lreturn, 1) := by decide +kernel
theorem d_Value_kind_0 : decode b_Value_kind 0 = .ok (.lload_n 0, 1) := by decide +kernel
theorem d_Value_kind_1 : decode b_Value_kind 1 = .ok (.l2i, 1) := by decide +kernel
theorem d_Value_kind_2 : decode b_Value_kind 2 = .ok (.bipush 7, 2) := by decide +kernel
theorem d_Value_kind_4 : decode b_Value_kind 4 = .ok (.iand, 1) := by decide +kernel
theorem d_Value_kind_5 : decode b_Value_kind 5 = .ok (.ireturn, 1) := by decide +kernel
theorem d_Value_number_0 : decode b_Value_number 0 = .ok (.lload_n 0, 1) := by decide +kernel
theorem d_Value_number_1 : decode b_Value_number 1 = .ok (.iconst 3, 1) := by decide +kernel
theorem d_Value_number_2 : decode b_Value_number 2 = .ok (.lshr, 1) := by decide +kernel
theorem d_Value_number_3 : decode b_Value_number 3 = .ok (.l2i, 1) := by decide +kernel
theorem d_Value_number_4 : decode b_Value_number 4 = .ok (.ireturn, 1) := by decide +kernel
theorem d_Value_scalar_0 : decode b_Value_scalar 0 = .ok (.iload_n 0, 1) := by decide +kernel
theorem d_Value_scalar_1 : decode b_Value_scalar 1 = .ok (.i2l, 1) := by decide +kernel
theorem d_Value_scalar_2 : decode b_Value_scalar 2 = .ok (.iconst 3, 1) := by decide +kernel
theorem d_Value_scalar_3 : decode b_Value_scalar 3 = .ok (.lshl, 1) := by decide +kernel
theorem d_Value_scalar_4 : decode b_Value_scalar 4 = .ok (.lreturn, 1) := by decide +kernel
theorem d_Value_truth_0 : decode b_Value_truth 0 = .ok (.iload_n 0, 1) := by decide +kernel
theorem d_Value_truth_1 : decode b_Value_truth 1 = .ok (.ifCond .eq 9, 3) := by decide +kernel
theorem d_Value_truth_4 : decode b_Value_truth 4 = .ok (.ldc2_w 9, 3) := by decide +kernel
theorem d_Value_truth_7 : decode b_Value_truth 7 = .ok (.goto 4, 3) := by decide +kernel
theorem d_Value_truth_10 : decode b_Value_truth 10 = .ok (.lconst 0, 1) := by decide +kernel
theorem d_Value_truth_11 : decode b_Value_truth 11 = .ok (.lreturn, 1) := by decide +kernel
theorem d_Value_object_0 : decode b_Value_object 0 = .ok (.iload_n 1, 1) := by decide +kernel
theorem d_Value_object_1 : decode b_Value_object 1 = .ok (.i2l, 1) := by decide +kernel
theorem d_Value_object_2 : decode b_Value_object 2 = .ok (.iconst 3, 1) := by decide +kernel
theorem d_Value_object_3 : decode b_Value_object 3 = .ok (.lshl, 1) := by decide +kernel
theorem d_Value_object_4 : decode b_Value_object 4 = .ok (.iload_n 0, 1) := by decide +kernel
theorem d_Value_object_5 : decode b_Value_object 5 = .ok (.i2l, 1) := by decide +kernel
theorem d_Value_object_6 : decode b_Value_object 6 = .ok (.lor, 1) := by decide +kernel
theorem d_Value_object_7 : decode b_Value_object 7 = .ok (.lreturn, 1) := by decide +kernel
theorem d_Value_head_0 : decode b_Value_head 0 = .ok (.iload_n 2, 1) := by decide +kernel
theorem d_Value_head_1 : decode b_Value_head 1 = .ok (.i2l, 1) := by decide +kernel
theorem d_Value_head_2 : decode b_Value_head 2 = .ok (.bipush 35, 2) := by decide +kernel
theorem d_Value_head_4 : decode b_Value_head 4 = .ok (.lshl, 1) := by decide +kernel
theorem d_Value_head_5 : decode b_Value_head 5 = .ok (.iload_n 1, 1) := by decide +kernel
theorem d_Value_head_6 : decode b_Value_head 6 = .ok (.i2l, 1) := by decide +kernel
theorem d_Value_head_7 : decode b_Value_head 7 = .ok (.ldc2_w 11, 3) := by decide +kernel
theorem d_Value_head_10 : decode b_Value_head 10 = .ok (.land, 1) := by decide +kernel
theorem d_Value_head_11 : decode b_Value_head 11 = .ok (.iconst 3, 1) := by decide +kernel
theorem d_Value_head_12 : decode b_Value_head 12 = .ok (.lshl, 1) := by decide +kernel
theorem d_Value_head_13 : decode b_Value_head 13 = .ok (.lor, 1) := by decide +kernel
theorem d_Value_head_14 : decode b_Value_head 14 = .ok (.iload_n 0, 1) := by decide +kernel
theorem d_Value_head_15 : decode b_Value_head 15 = .ok (.i2l, 1) := by decide +kernel
theorem d_Value_head_16 : decode b_Value_head 16 = .ok (.lor, 1) := by decide +kernel
theorem d_Value_head_17 : decode b_Value_head 17 = .ok (.lreturn, 1) := by decide +kernel
theorem d_Value_withKind_0 : decode b_Value_withKind 0 = .ok (.lload_n 0, 1) := by decide +kernel
theorem d_Value_withKind_1 : decode b_Value_withKind 1 = .ok (.ldc2_w 13, 3) := by decide +kernel
theorem d_Value_withKind_4 : decode b_Value_withKind 4 = .ok (.land, 1) := by decide +kernel
theorem d_Value_withKind_5 : decode b_Value_withKind 5 = .ok (.iload_n 2, 1) := by decide +kernel
theorem d_Value_withKind_6 : decode b_Value_withKind 6 = .ok (.i2l, 1) := by decide +kernel
theorem d_Value_withKind_7 : decode b_Value_withKind 7 = .ok (.lor, 1) := by decide +kernel
theorem d_Value_withKind_8 : decode b_Value_withKind 8 = .ok (.lreturn, 1) := by decide +kernel
theorem d_Value_cellsOfString_0 : decode b_Value_cellsOfString 0 = .ok (.iconst 1, 1) := by decide +kernel
theorem d_Value_cellsOfString_1 : decode b_Value_cellsOfString 1 = .ok (.iload_n 0, 1) := by decide +kernel
theorem d_Value_cellsOfString_2 : decode b_Value_cellsOfString 2 = .ok (.iconst 3, 1) := by decide +kernel
theorem d_Value_cellsOfString_3 : decode b_Value_cellsOfString 3 = .ok (.iadd, 1) := by decide +kernel
theorem d_Value_cellsOfString_4 : decode b_Value_cellsOfString 4 = .ok (.iconst 4, 1) := by decide +kernel
theorem d_Value_cellsOfString_5 : decode b_Value_cellsOfString 5 = .ok (.idiv, 1) := by decide +kernel
theorem d_Value_cellsOfString_6 : decode b_Value_cellsOfString 6 = .ok (.iadd, 1) := by decide +kernel
theorem d_Value_cellsOfString_7 : decode b_Value_cellsOfString 7 = .ok (.ireturn, 1) := by decide +kernel
theorem d_Status_isDone_0 : decode b_Status_isDone 0 = .ok (.iload_n 0, 1) := by decide +kernel
theorem d_Status_isDone_1 : decode b_Status_isDone 1 = .ok (.iconst 5, 1) := by decide +kernel
theorem d_Status_isDone_2 : decode b_Status_isDone 2 = .ok (.if_icmp .eq 12, 3) := by decide +kernel
theorem d_Status_isDone_5 : decode b_Status_isDone 5 = .ok (.iload_n 0, 1) := by decide +kernel
theorem d_Status_isDone_6 : decode b_Status_isDone 6 = .ok (.ifCond .eq 8, 3) := by decide +kernel
theorem d_Status_isDone_9 : decode b_Status_isDone 9 = .ok (.iload_n 0, 1) := by decide +kernel
theorem d_Status_isDone_10 : decode b_Status_isDone 10 = .ok (.iconst 1, 1) := by decide +kernel
theorem d_Status_isDone_11 : decode b_Status_isDone 11 = .ok (.if_icmp .ne 7, 3) := by decide +kernel
theorem d_Status_isDone_14 : decode b_Status_isDone 14 = .ok (.iconst 1, 1) := by decide +kernel
theorem d_Status_isDone_15 : decode b_Status_isDone 15 = .ok (.goto 4, 3) := by decide +kernel
theorem d_Status_isDone_18 : decode b_Status_isDone 18 = .ok (.iconst 0, 1) := by decide +kernel
theorem d_Status_isDone_19 : decode b_Status_isDone 19 = .ok (.ireturn, 1) := by decide +kernel
theorem d_Engine_longer_0 : decode b_Engine_longer 0 = .ok (.iload_n 2, 1) := by decide +kernel
theorem d_Engine_longer_1 : decode b_Engine_longer 1 = .ok (.iload_n 1, 1) := by decide +kernel
theorem d_Engine_longer_2 : decode b_Engine_longer 2 = .ok (.iconst 2, 1) := by decide +kernel
theorem d_Engine_longer_3 : decode b_Engine_longer 3 = .ok (.iload_n 0, 1) := by decide +kernel
theorem d_Engine_longer_4 : decode b_Engine_longer 4 = .ok (.imul, 1) := by decide +kernel
theorem d_Engine_longer_5 : decode b_Engine_longer 5 = .ok (.invokestatic 143, 3) := by decide +kernel
theorem d_Engine_longer_8 : decode b_Engine_longer 8 = .ok (.invokestatic 148, 3) := by decide +kernel
theorem d_Engine_longer_11 : decode b_Engine_longer 11 = .ok (.ireturn, 1) := by decide +kernel
theorem k1 : Cond.constantLong R_Value 9 8 ∈ lw_g := kg (List.mem_append_right _ (List.mem_of_getElem? (i := 761) (by decide +kernel))) rfl
theorem k2 : Cond.constantLong R_Value 11 4294967295 ∈ lw_g := kg (List.mem_append_right _ (List.mem_of_getElem? (i := 538) (by decide +kernel))) rfl
theorem k3 : Cond.constantLong R_Value 13 (-8) ∈ lw_g := kg (List.mem_append_right _ (List.mem_of_getElem? (i := 749) (by decide +kernel))) rfl
theorem k4 : Cond.code y_Math_max b_Math_max 2 (some .int) ∈ lw_g := kg (List.mem_append_right _ (List.mem_of_getElem? (i := 358) (by decide +kernel))) rfl
theorem k5 : Cond.methodLink R_Engine 143 y_Math_max ∈ lw_g := kg (List.mem_append_right _ (List.mem_of_getElem? (i := 356) (by decide +kernel))) rfl
theorem k6 : Cond.static y_Math_max ∈ lw_g := kg (List.mem_append_right _ (List.mem_of_getElem? (i := 357) (by decide +kernel))) rfl
theorem k7 : Cond.initialized R_Math ∈ lw_g := kg (List.mem_append_right _ (List.mem_of_getElem? (i := 12) (by decide +kernel))) rfl
theorem k8 : Cond.code y_Math_min b_Math_min 2 (some .int) ∈ lw_g := kg (List.mem_append_right _ (List.mem_of_getElem? (i := 361) (by decide +kernel))) rfl
theorem k9 : Cond.methodLink R_Engine 148 y_Math_min ∈ lw_g := kg (List.mem_append_right _ (List.mem_of_getElem? (i := 359) (by decide +kernel))) rfl
theorem k10 : Cond.static y_Math_min ∈ lw_g := kg (List.mem_append_right _ (List.mem_of_getElem? (i := 360) (by decide +kernel))) rfl
def m_Math_min (N : Nat) (p0 : Int32) (p1 : Int32) : Option (Int32) := (if p1 < p0 then some p1 else some p0)
set_option maxHeartbeats 4000000 in
set_option maxRecDepth 100000 in
theorem c_Math_min (l : Launch) (dC : Nat → ClassId) (dI : Nat → Nat → Nat) (N : Nat) (p0 : Int32) (p1 : Int32) (z : Int32) (h : m_Math_min N p0 p1 = some z) : Met l y_Math_min (.code y_Math_min b_Math_min 2 (some .int) :: lw_g) ({ frames := 0, cells := 0, slots := 0, locals := 0 }) (va_Pc [.int p0, .int p1] (fun U => dz_N U ∧ va_P (dC, dI) classes [] U.heap ∧ va_K (dC, dI) classes [] U)) (vp_Si (fun r => r = z)) 0 0 (fun _ => False) := by
  refine va_MetF (cc := b_Math_min) (maxL := 2) (ret := (some .int)) (by decide +kernel) rfl ?_
  intro p e s m args below meth c s₁ B hml hv
  obtain ⟨rfl, hN, hP, hK⟩ := hv
  have hx := B.exec
  have hb := B.bytes
  have hr := B.returns
  have hg : ∀ w ∈ lw_g, w.before _ s = true := fun w hw => atoms_spec (ws := .code y_Math_min b_Math_min 2 (some .int) :: lw_g) B.pre w (List.mem_cons_of_mem _ hw)
  have hown : s.vm.findClass R_Math = some m.cls := findClass_of_methodNamed B.named
  have hlocks := B.notSynchronized
  clear B
  have hP : va_P (dC, dI) classes [] s.heap := hP
  have hl := lv_entry ([.int p0, .int p1]) (n := 2) (Nat.le_of_ble_eq_true rfl)
  rw [lg_entry_eq]
  generalize (lg_sl ([.int p0, .int p1]) ++ List.replicate (2 - (lg_sl ([.int p0, .int p1])).length) Slot.unset).toArray = ls at hl ⊢
  have hl : lv_has ls 2 [(0, .int p0), (1, .int p1)] := hl
  unfold m_Math_min at h
  refine lv_iload_n hx hb d_Math_min_0 rfl (lv_at hl 0 rfl) ?_
  refine lv_iload_n hx hb d_Math_min_1 rfl (lv_at hl 1 rfl) ?_
  refine lv_icmp_gt (tgt := 9) hx hb d_Math_min_2 (by decide) (fun c1 => ?_) (fun c1 => ?_)
  · rw [if_pos c1] at h
    refine lv_iload_n hx hb d_Math_min_9 rfl (lv_at hl 1 rfl) ?_
    obtain rfl := Option.some.inj h
    exact W.iret (v := p1) hx hb hr (fun t ht hW => ⟨_, rfl, rfl, ht⟩) (fun _ h => by cases h) d_Math_min_10
  · rw [if_neg c1] at h
    refine lv_iload_n hx hb d_Math_min_5 rfl (lv_at hl 0 rfl) ?_
    refine lv_goto (tgt := 10) hx hb d_Math_min_6 (by decide) ?_
    obtain rfl := Option.some.inj h
    exact W.iret (v := p0) hx hb hr (fun t ht hW => ⟨_, rfl, rfl, ht⟩) (fun _ h => by cases h) d_Math_min_10

def m_Math_max (N : Nat) (p0 : Int32) (p1 : Int32) : Option (Int32) := (if p0 < p1 then some p1 else some p0)
set_option maxHeartbeats 4000000 in
set_option maxRecDepth 100000 in
theorem c_Math_max (l : Launch) (dC : Nat → ClassId) (dI : Nat → Nat → Nat) (N : Nat) (p0 : Int32) (p1 : Int32) (z : Int32) (h : m_Math_max N p0 p1 = some z) : Met l y_Math_max (.code y_Math_max b_Math_max 2 (some .int) :: lw_g) ({ frames := 0, cells := 0, slots := 0, locals := 0 }) (va_Pc [.int p0, .int p1] (fun U => dz_N U ∧ va_P (dC, dI) classes [] U.heap ∧ va_K (dC, dI) classes [] U)) (vp_Si (fun r => r = z)) 0 0 (fun _ => False) := by
  refine va_MetF (cc := b_Math_max) (maxL := 2) (ret := (some .int)) (by decide +kernel) rfl ?_
  intro p e s m args below meth c s₁ B hml hv
  obtain ⟨rfl, hN, hP, hK⟩ := hv
  have hx := B.exec
  have hb := B.bytes
  have hr := B.returns
  have hg : ∀ w ∈ lw_g, w.before _ s = true := fun w hw => atoms_spec (ws := .code y_Math_max b_Math_max 2 (some .int) :: lw_g) B.pre w (List.mem_cons_of_mem _ hw)
  have hown : s.vm.findClass R_Math = some m.cls := findClass_of_methodNamed B.named
  have hlocks := B.notSynchronized
  clear B
  have hP : va_P (dC, dI) classes [] s.heap := hP
  have hl := lv_entry ([.int p0, .int p1]) (n := 2) (Nat.le_of_ble_eq_true rfl)
  rw [lg_entry_eq]
  generalize (lg_sl ([.int p0, .int p1]) ++ List.replicate (2 - (lg_sl ([.int p0, .int p1])).length) Slot.unset).toArray = ls at hl ⊢
  have hl : lv_has ls 2 [(0, .int p0), (1, .int p1)] := hl
  unfold m_Math_max at h
  refine lv_iload_n hx hb d_Math_max_0 rfl (lv_at hl 0 rfl) ?_
  refine lv_iload_n hx hb d_Math_max_1 rfl (lv_at hl 1 rfl) ?_
  refine lv_icmp_lt (tgt := 9) hx hb d_Math_max_2 (by decide) (fun c1 => ?_) (fun c1 => ?_)
  · rw [if_pos c1] at h
    refine lv_iload_n hx hb d_Math_max_9 rfl (lv_at hl 1 rfl) ?_
    obtain rfl := Option.some.inj h
    exact W.iret (v := p1) hx hb hr (fun t ht hW => ⟨_, rfl, rfl, ht⟩) (fun _ h => by cases h) d_Math_max_10
  · rw [if_neg c1] at h
    refine lv_iload_n hx hb d_Math_max_5 rfl (lv_at hl 0 rfl) ?_
    refine lv_goto (tgt := 10) hx hb d_Math_max_6 (by decide) ?_
    obtain rfl := Option.some.inj h
    exact W.iret (v := p0) hx hb hr (fun t ht hW => ⟨_, rfl, rfl, ht⟩) (fun _ h => by cases h) d_Math_max_10

def m_Math_floorDiv (N : Nat) (p0 : Int64) (p1 : Int64) : Option (Int64) := (if p1 = 0 then none else (if 0 ≤ (lg_cmp (p0 ^^^ p1) 0) then some (p0 / p1) else (if (lg_cmp ((p0 / p1) * p1) p0) = 0 then some (p0 / p1) else some ((p0 / p1) - 1))))
set_option maxHeartbeats 4000000 in
set_option maxRecDepth 100000 in
theorem c_Math_floorDiv (l : Launch) (dC : Nat → ClassId) (dI : Nat → Nat → Nat) (N : Nat) (p0 : Int64) (p1 : Int64) (z : Int64) (h : m_Math_floorDiv N p0 p1 = some z) : Met l y_Math_floorDiv (.code y_Math_floorDiv b_Math_floorDiv 6 (some .long) :: lw_g) ({ frames := 0, cells := 0, slots := 0, locals := 0 }) (va_Pc [.long p0, .long p1] (fun U => dz_N U ∧ va_P (dC, dI) classes [] U.heap ∧ va_K (dC, dI) classes [] U)) (vp_Sl (fun r => r = z)) 0 0 (fun _ => False) := by
  refine va_MetF (cc := b_Math_floorDiv) (maxL := 6) (ret := (some .long)) (by decide +kernel) rfl ?_
  intro p e s m args below meth c s₁ B hml hv
  obtain ⟨rfl, hN, hP, hK⟩ := hv
  have hx := B.exec
  have hb := B.bytes
  have hr := B.returns
  have hg : ∀ w ∈ lw_g, w.before _ s = true := fun w hw => atoms_spec (ws := .code y_Math_floorDiv b_Math_floorDiv 6 (some .long) :: lw_g) B.pre w (List.mem_cons_of_mem _ hw)
  have hown : s.vm.findClass R_Math = some m.cls := findClass_of_methodNamed B.named
  have hlocks := B.notSynchronized
  clear B
  have hP : va_P (dC, dI) classes [] s.heap := hP
  have hl := lv_entry ([.long p0, .long p1]) (n := 6) (Nat.le_of_ble_eq_true rfl)
  rw [lg_entry_eq]
  generalize (lg_sl ([.long p0, .long p1]) ++ List.replicate (6 - (lg_sl ([.long p0, .long p1])).length) Slot.unset).toArray = ls at hl ⊢
  have hl : lv_has ls 6 [(0, .long p0), (2, .long p1)] := hl
  unfold m_Math_floorDiv at h
  refine lv_lload_n hx hb d_Math_floorDiv_0 rfl (lv_at hl 0 rfl) ?_
  refine lv_lload_n hx hb d_Math_floorDiv_1 rfl (lv_at hl 1 rfl) ?_
  obtain ⟨i1, h⟩ := dz_oi h
  refine lv_ldiv hx hb d_Math_floorDiv_2 i1 ?_
  refine lv_lstore (lv' := [(4, .long (p0 / p1)), (0, .long p0), (2, .long p1)]) hx hb d_Math_floorDiv_3 hl (by decide) rfl (fun ls hl => ?_)
  refine lv_lload_n hx hb d_Math_floorDiv_5 rfl (lv_at hl 1 rfl) ?_
  refine lv_lload_n hx hb d_Math_floorDiv_6 rfl (lv_at hl 2 rfl) ?_
  refine lv_lxor hx hb d_Math_floorDiv_7 ?_
  refine lv_lconst (v := 0) hx hb d_Math_floorDiv_8 (by decide) ?_
  refine W.lcmp hx hb d_Math_floorDiv_9 ?_
  refine lv_if_ge (tgt := 27) hx hb d_Math_floorDiv_10 (by decide) (fun c2 => ?_) (fun c2 => ?_)
  · rw [if_pos c2] at h
    refine lv_lload hx hb d_Math_floorDiv_27 (lv_at hl 0 rfl) ?_
    obtain rfl := Option.some.inj h
    exact W.lret (v := p0 / p1) hx hb hr (fun t ht hW => ⟨_, rfl, rfl, ht⟩) (fun _ h => by cases h) d_Math_floorDiv_29
  · rw [if_neg c2] at h
    refine lv_lload hx hb d_Math_floorDiv_13 (lv_at hl 0 rfl) ?_
    refine lv_lload_n hx hb d_Math_floorDiv_15 rfl (lv_at hl 2 rfl) ?_
    refine lv_lmul hx hb d_Math_floorDiv_16 ?_
    refine lv_lload_n hx hb d_Math_floorDiv_17 rfl (lv_at hl 1 rfl) ?_
    refine W.lcmp hx hb d_Math_floorDiv_18 ?_
    refine lv_if_eq (tgt := 27) hx hb d_Math_floorDiv_19 (by decide) (fun c3 => ?_) (fun c3 => ?_)
    · rw [if_pos c3] at h
      refine lv_lload hx hb d_Math_floorDiv_27 (lv_at hl 0 rfl) ?_
      obtain rfl := Option.some.inj h
      exact W.lret (v := p0 / p1) hx hb hr (fun t ht hW => ⟨_, rfl, rfl, ht⟩) (fun _ h => by cases h) d_Math_floorDiv_29
    · rw [if_neg c3] at h
      refine lv_lload hx hb d_Math_floorDiv_22 (lv_at hl 0 rfl) ?_
      refine lv_lconst (v := 1) hx hb d_Math_floorDiv_24 (by decide) ?_
      refine lv_lsub hx hb d_Math_floorDiv_25 ?_
      obtain rfl := Option.some.inj h
      exact W.lret (v := (p0 / p1) - 1) hx hb hr (fun t ht hW => ⟨_, rfl, rfl, ht⟩) (fun _ h => by cases h) d_Math_floorDiv_26

def m_Math_floorMod (N : Nat) (p0 : Int64) (p1 : Int64) : Option (Int64) := (if p1 = 0 then none else (if 0 ≤ (lg_cmp (p0 ^^^ p1) 0) then some (p0 - p0 / p1 * p1) else (if (lg_cmp (p0 - p0 / p1 * p1) 0) = 0 then some (p0 - p0 / p1 * p1) else some ((p0 - p0 / p1 * p1) + p1))))
set_option maxHeartbeats 4000000 in
set_option maxRecDepth 100000 in
theorem c_Math_floorMod (l : Launch) (dC : Nat → ClassId) (dI : Nat → Nat → Nat) (N : Nat) (p0 : Int64) (p1 : Int64) (z : Int64) (h : m_Math_floorMod N p0 p1 = some z) : Met l y_Math_floorMod (.code y_Math_floorMod b_Math_floorMod 6 (some .long) :: lw_g) ({ frames := 0, cells := 0, slots := 0, locals := 0 }) (va_Pc [.long p0, .long p1] (fun U => dz_N U ∧ va_P (dC, dI) classes [] U.heap ∧ va_K (dC, dI) classes [] U)) (vp_Sl (fun r => r = z)) 0 0 (fun _ => False) := by
  refine va_MetF (cc := b_Math_floorMod) (maxL := 6) (ret := (some .long)) (by decide +kernel) rfl ?_
  intro p e s m args below meth c s₁ B hml hv
  obtain ⟨rfl, hN, hP, hK⟩ := hv
  have hx := B.exec
  have hb := B.bytes
  have hr := B.returns
  have hg : ∀ w ∈ lw_g, w.before _ s = true := fun w hw => atoms_spec (ws := .code y_Math_floorMod b_Math_floorMod 6 (some .long) :: lw_g) B.pre w (List.mem_cons_of_mem _ hw)
  have hown : s.vm.findClass R_Math = some m.cls := findClass_of_methodNamed B.named
  have hlocks := B.notSynchronized
  clear B
  have hP : va_P (dC, dI) classes [] s.heap := hP
  have hl := lv_entry ([.long p0, .long p1]) (n := 6) (Nat.le_of_ble_eq_true rfl)
  rw [lg_entry_eq]
  generalize (lg_sl ([.long p0, .long p1]) ++ List.replicate (6 - (lg_sl ([.long p0, .long p1])).length) Slot.unset).toArray = ls at hl ⊢
  have hl : lv_has ls 6 [(0, .long p0), (2, .long p1)] := hl
  unfold m_Math_floorMod at h
  refine lv_lload_n hx hb d_Math_floorMod_0 rfl (lv_at hl 0 rfl) ?_
  refine lv_lload_n hx hb d_Math_floorMod_1 rfl (lv_at hl 1 rfl) ?_
  obtain ⟨i1, h⟩ := dz_oi h
  refine lv_lrem hx hb d_Math_floorMod_2 i1 ?_
  refine lv_lstore (lv' := [(4, .long (p0 - p0 / p1 * p1)), (0, .long p0), (2, .long p1)]) hx hb d_Math_floorMod_3 hl (by decide) rfl (fun ls hl => ?_)
  refine lv_lload_n hx hb d_Math_floorMod_5 rfl (lv_at hl 1 rfl) ?_
  refine lv_lload_n hx hb d_Math_floorMod_6 rfl (lv_at hl 2 rfl) ?_
  refine lv_lxor hx hb d_Math_floorMod_7 ?_
  refine lv_lconst (v := 0) hx hb d_Math_floorMod_8 (by decide) ?_
  refine W.lcmp hx hb d_Math_floorMod_9 ?_
  refine lv_if_ge (tgt := 25) hx hb d_Math_floorMod_10 (by decide) (fun c2 => ?_) (fun c2 => ?_)
  · rw [if_pos c2] at h
    refine lv_lload hx hb d_Math_floorMod_25 (lv_at hl 0 rfl) ?_
    obtain rfl := Option.some.inj h
    exact W.lret (v := p0 - p0 / p1 * p1) hx hb hr (fun t ht hW => ⟨_, rfl, rfl, ht⟩) (fun _ h => by cases h) d_Math_floorMod_27
  · rw [if_neg c2] at h
    refine lv_lload hx hb d_Math_floorMod_13 (lv_at hl 0 rfl) ?_
    refine lv_lconst (v := 0) hx hb d_Math_floorMod_15 (by decide) ?_
    refine W.lcmp hx hb d_Math_floorMod_16 ?_
    refine lv_if_eq (tgt := 25) hx hb d_Math_floorMod_17 (by decide) (fun c3 => ?_) (fun c3 => ?_)
    · rw [if_pos c3] at h
      refine lv_lload hx hb d_Math_floorMod_25 (lv_at hl 0 rfl) ?_
      obtain rfl := Option.some.inj h
      exact W.lret (v := p0 - p0 / p1 * p1) hx hb hr (fun t ht hW => ⟨_, rfl, rfl, ht⟩) (fun _ h => by cases h) d_Math_floorMod_27
    · rw [if_neg c3] at h
      refine lv_lload hx hb d_Math_floorMod_20 (lv_at hl 0 rfl) ?_
      refine lv_lload_n hx hb d_Math_floorMod_22 rfl (lv_at hl 2 rfl) ?_
      refine lv_ladd hx hb d_Math_floorMod_23 ?_
      obtain rfl := Option.some.inj h
      exact W.lret (v := (p0 - p0 / p1 * p1) + p1) hx hb hr (fun t ht hW => ⟨_, rfl, rfl, ht⟩) (fun _ h => by cases h) d_Math_floorMod_24

def m_Value_kind (N : Nat) (p0 : Int64) : Option (Int32) := some (p0.toInt32 &&& 7)
set_option maxHeartbeats 4000000 in
set_option maxRecDepth 100000 in
theorem c_Value_kind (l : Launch) (dC : Nat → ClassId) (dI : Nat → Nat → Nat) (N : Nat) (p0 : Int64) (z : Int32) (h : m_Value_kind N p0 = some z) : Met l y_Value_kind (.code y_Value_kind b_Value_kind 2 (some .int) :: lw_g) ({ frames := 0, cells := 0, slots := 0, locals := 0 }) (va_Pc [.long p0] (fun U => dz_N U ∧ va_P (dC, dI) classes [] U.heap ∧ va_K (dC, dI) classes [] U)) (vp_Si (fun r => r = z)) 0 0 (fun _ => False) := by
  refine Met.ofW (cc := b_Value_kind) (maxL := 2) (ret := (some .int)) (by decide +kernel) rfl ?_
  intro p e s m args below meth c s₁ B hml hv
  obtain ⟨rfl, hN, hP, hK⟩ := hv
  have hx := B.exec
  have hb := B.bytes
  have hr := B.returns
  have hg : ∀ w ∈ lw_g, w.before _ s = true := fun w hw => atoms_spec (ws := .code y_Value_kind b_Value_kind 2 (some .int) :: lw_g) B.pre w (List.mem_cons_of_mem _ hw)
  have hown : s.vm.findClass R_Value = some m.cls := findClass_of_methodNamed B.named
  have hlocks := B.notSynchronized
  clear B
  have hP : va_P (dC, dI) classes [] s.heap := hP
  have hl := lv_entry ([.long p0]) (n := 2) (Nat.le_of_ble_eq_true rfl)
  rw [lg_entry_eq]
  generalize (lg_sl ([.long p0]) ++ List.replicate (2 - (lg_sl ([.long p0])).length) Slot.unset).toArray = ls at hl ⊢
  have hl : lv_has ls 2 [(0, .long p0)] := hl
  unfold m_Value_kind at h
  refine lv_lload_n hx hb d_Value_kind_0 rfl (lv_at hl 0 rfl) ?_
  refine lv_l2i (v := p0.toInt32) hx hb d_Value_kind_1 rfl ?_
  refine lv_bipush (v := 7) hx hb d_Value_kind_2 (by decide) ?_
  refine lv_iand hx hb d_Value_kind_4 ?_
  obtain rfl := Option.some.inj h
  exact W.iret (v := p0.toInt32 &&& 7) hx hb hr (fun t ht hW => ⟨_, rfl, rfl, ht⟩) (fun _ h => by cases h) d_Value_kind_5

def m_Value_number (N : Nat) (p0 : Int64) : Option (Int32) := some ((p0 >>> ((3 : Int32).toInt64 &&& 63)).toInt32)
set_option maxHeartbeats 4000000 in
set_option maxRecDepth 100000 in
theorem c_Value_number (l : Launch) (dC : Nat → ClassId) (dI : Nat → Nat → Nat) (N : Nat) (p0 : Int64) (z : Int32) (h : m_Value_number N p0 = some z) : Met l y_Value_number (.code y_Value_number b_Value_number 2 (some .int) :: lw_g) ({ frames := 0, cells := 0, slots := 0, locals := 0 }) (va_Pc [.long p0] (fun U => dz_N U ∧ va_P (dC, dI) classes [] U.heap ∧ va_K (dC, dI) classes [] U)) (vp_Si (fun r => r = z)) 0 0 (fun _ => False) := by
  refine Met.ofW (cc := b_Value_number) (maxL := 2) (ret := (some .int)) (by decide +kernel) rfl ?_
  intro p e s m args below meth c s₁ B hml hv
  obtain ⟨rfl, hN, hP, hK⟩ := hv
  have hx := B.exec
  have hb := B.bytes
  have hr := B.returns
  have hg : ∀ w ∈ lw_g, w.before _ s = true := fun w hw => atoms_spec (ws := .code y_Value_number b_Value_number 2 (some .int) :: lw_g) B.pre w (List.mem_cons_of_mem _ hw)
  have hown : s.vm.findClass R_Value = some m.cls := findClass_of_methodNamed B.named
  have hlocks := B.notSynchronized
  clear B
  have hP : va_P (dC, dI) classes [] s.heap := hP
  have hl := lv_entry ([.long p0]) (n := 2) (Nat.le_of_ble_eq_true rfl)
  rw [lg_entry_eq]
  generalize (lg_sl ([.long p0]) ++ List.replicate (2 - (lg_sl ([.long p0])).length) Slot.unset).toArray = ls at hl ⊢
  have hl : lv_has ls 2 [(0, .long p0)] := hl
  unfold m_Value_number at h
  refine lv_lload_n hx hb d_Value_number_0 rfl (lv_at hl 0 rfl) ?_
  refine lv_iconst (v := 3) hx hb d_Value_number_1 (by decide) ?_
  refine lv_lshr (v := p0 >>> ((3 : Int32).toInt64 &&& 63)) hx hb d_Value_number_2 rfl ?_
  refine lv_l2i (v := (p0 >>> ((3 : Int32).toInt64 &&& 63)).toInt32) hx hb d_Value_number_3 rfl ?_
  obtain rfl := Option.some.inj h
  exact W.iret (v := (p0 >>> ((3 : Int32).toInt64 &&& 63)).toInt32) hx hb hr (fun t ht hW => ⟨_, rfl, rfl, ht⟩) (fun _ h => by cases h) d_Value_number_4

def m_Value_scalar (N : Nat) (p0 : Int32) : Option (Int64) := some (p0.toInt64 <<< ((3 : Int32).toInt64 &&& 63))
set_option maxHeartbeats 4000000 in
set_option maxRecDepth 100000 in
theorem c_Value_scalar (l : Launch) (dC : Nat → ClassId) (dI : Nat → Nat → Nat) (N : Nat) (p0 : Int32) (z : Int64) (h : m_Value_scalar N p0 = some z) : Met l y_Value_scalar (.code y_Value_scalar b_Value_scalar 1 (some .long) :: lw_g) ({ frames := 0, cells := 0, slots := 0, locals := 0 }) (va_Pc [.int p0] (fun U => dz_N U ∧ va_P (dC, dI) classes [] U.heap ∧ va_K (dC, dI) classes [] U)) (vp_Sl (fun r => r = z)) 0 0 (fun _ => False) := by
  refine Met.ofW (cc := b_Value_scalar) (maxL := 1) (ret := (some .long)) (by decide +kernel) rfl ?_
  intro p e s m args below meth c s₁ B hml hv
  obtain ⟨rfl, hN, hP, hK⟩ := hv
  have hx := B.exec
  have hb := B.bytes
  have hr := B.returns
  have hg : ∀ w ∈ lw_g, w.before _ s = true := fun w hw => atoms_spec (ws := .code y_Value_scalar b_Value_scalar 1 (some .long) :: lw_g) B.pre w (List.mem_cons_of_mem _ hw)
  have hown : s.vm.findClass R_Value = some m.cls := findClass_of_methodNamed B.named
  have hlocks := B.notSynchronized
  clear B
  have hP : va_P (dC, dI) classes [] s.heap := hP
  have hl := lv_entry ([.int p0]) (n := 1) (Nat.le_of_ble_eq_true rfl)
  rw [lg_entry_eq]
  generalize (lg_sl ([.int p0]) ++ List.replicate (1 - (lg_sl ([.int p0])).length) Slot.unset).toArray = ls at hl ⊢
  have hl : lv_has ls 1 [(0, .int p0)] := hl
  unfold m_Value_scalar at h
  refine lv_iload_n hx hb d_Value_scalar_0 rfl (lv_at hl 0 rfl) ?_
  refine lv_i2l (v := p0.toInt64) hx hb d_Value_scalar_1 rfl ?_
  refine lv_iconst (v := 3) hx hb d_Value_scalar_2 (by decide) ?_
  refine lv_lshl (v := p0.toInt64 <<< ((3 : Int32).toInt64 &&& 63)) hx hb d_Value_scalar_3 rfl ?_
  obtain rfl := Option.some.inj h
  exact W.lret (v := p0.toInt64 <<< ((3 : Int32).toInt64 &&& 63)) hx hb hr (fun t ht hW => ⟨_, rfl, rfl, ht⟩) (fun _ h => by cases h) d_Value_scalar_4

def m_Value_truth (N : Nat) (p0 : Int32) : Option (Int64) := (if p0 = 0 then some (0 : Int64) else some (8 : Int64))
set_option maxHeartbeats 4000000 in
set_option maxRecDepth 100000 in
theorem c_Value_truth (l : Launch) (dC : Nat → ClassId) (dI : Nat → Nat → Nat) (N : Nat) (p0 : Int32) (z : Int64) (h : m_Value_truth N p0 = some z) : Met l y_Value_truth (.code y_Value_truth b_Value_truth 1 (some .long) :: lw_g) ({ frames := 0, cells := 0, slots := 0, locals := 0 }) (va_Pc [.int p0] (fun U => dz_N U ∧ va_P (dC, dI) classes [] U.heap ∧ va_K (dC, dI) classes [] U)) (vp_Sl (fun r => r = z)) 0 0 (fun _ => False) := by
  refine Met.ofW (cc := b_Value_truth) (maxL := 1) (ret := (some .long)) (by decide +kernel) rfl ?_
  intro p e s m args below meth c s₁ B hml hv
  obtain ⟨rfl, hN, hP, hK⟩ := hv
  have hx := B.exec
  have hb := B.bytes
  have hr := B.returns
  have hg : ∀ w ∈ lw_g, w.before _ s = true := fun w hw => atoms_spec (ws := .code y_Value_truth b_Value_truth 1 (some .long) :: lw_g) B.pre w (List.mem_cons_of_mem _ hw)
  have hown : s.vm.findClass R_Value = some m.cls := findClass_of_methodNamed B.named
  have hlocks := B.notSynchronized
  clear B
  have hP : va_P (dC, dI) classes [] s.heap := hP
  have hl := lv_entry ([.int p0]) (n := 1) (Nat.le_of_ble_eq_true rfl)
  rw [lg_entry_eq]
  generalize (lg_sl ([.int p0]) ++ List.replicate (1 - (lg_sl ([.int p0])).length) Slot.unset).toArray = ls at hl ⊢
  have hl : lv_has ls 1 [(0, .int p0)] := hl
  unfold m_Value_truth at h
  refine lv_iload_n hx hb d_Value_truth_0 rfl (lv_at hl 0 rfl) ?_
  refine lv_if_eq (tgt := 10) hx hb d_Value_truth_1 (by decide) (fun c1 => ?_) (fun c1 => ?_)
  · rw [if_pos c1] at h
    refine lv_lconst (v := 0) hx hb d_Value_truth_10 (by decide) ?_
    obtain rfl := Option.some.inj h
    exact W.lret (v := 0) hx hb hr (fun t ht hW => ⟨_, rfl, rfl, ht⟩) (fun _ h => by cases h) d_Value_truth_11
  · rw [if_neg c1] at h
    refine lv_ldc2 (v := 8) hx hb hown (hg _ k1) d_Value_truth_4 ?_
    refine lv_goto (tgt := 11) hx hb d_Value_truth_7 (by decide) ?_
    obtain rfl := Option.some.inj h
    exact W.lret (v := 8) hx hb hr (fun t ht hW => ⟨_, rfl, rfl, ht⟩) (fun _ h => by cases h) d_Value_truth_11

def m_Value_object (N : Nat) (p0 : Int32) (p1 : Int32) : Option (Int64) := some ((p1.toInt64 <<< ((3 : Int32).toInt64 &&& 63)) ||| p0.toInt64)
set_option maxHeartbeats 4000000 in
set_option maxRecDepth 100000 in
theorem c_Value_object (l : Launch) (dC : Nat → ClassId) (dI : Nat → Nat → Nat) (N : Nat) (p0 : Int32) (p1 : Int32) (z : Int64) (h : m_Value_object N p0 p1 = some z) : Met l y_Value_object (.code y_Value_object b_Value_object 2 (some .long) :: lw_g) ({ frames := 0, cells := 0, slots := 0, locals := 0 }) (va_Pc [.int p0, .int p1] (fun U => dz_N U ∧ va_P (dC, dI) classes [] U.heap ∧ va_K (dC, dI) classes [] U)) (vp_Sl (fun r => r = z)) 0 0 (fun _ => False) := by
  refine Met.ofW (cc := b_Value_object) (maxL := 2) (ret := (some .long)) (by decide +kernel) rfl ?_
  intro p e s m args below meth c s₁ B hml hv
  obtain ⟨rfl, hN, hP, hK⟩ := hv
  have hx := B.exec
  have hb := B.bytes
  have hr := B.returns
  have hg : ∀ w ∈ lw_g, w.before _ s = true := fun w hw => atoms_spec (ws := .code y_Value_object b_Value_object 2 (some .long) :: lw_g) B.pre w (List.mem_cons_of_mem _ hw)
  have hown : s.vm.findClass R_Value = some m.cls := findClass_of_methodNamed B.named
  have hlocks := B.notSynchronized
  clear B
  have hP : va_P (dC, dI) classes [] s.heap := hP
  have hl := lv_entry ([.int p0, .int p1]) (n := 2) (Nat.le_of_ble_eq_true rfl)
  rw [lg_entry_eq]
  generalize (lg_sl ([.int p0, .int p1]) ++ List.replicate (2 - (lg_sl ([.int p0, .int p1])).length) Slot.unset).toArray = ls at hl ⊢
  have hl : lv_has ls 2 [(0, .int p0), (1, .int p1)] := hl
  unfold m_Value_object at h
  refine lv_iload_n hx hb d_Value_object_0 rfl (lv_at hl 1 rfl) ?_
  refine lv_i2l (v := p1.toInt64) hx hb d_Value_object_1 rfl ?_
  refine lv_iconst (v := 3) hx hb d_Value_object_2 (by decide) ?_
  refine lv_lshl (v := p1.toInt64 <<< ((3 : Int32).toInt64 &&& 63)) hx hb d_Value_object_3 rfl ?_
  refine lv_iload_n hx hb d_Value_object_4 rfl (lv_at hl 0 rfl) ?_
  refine lv_i2l (v := p0.toInt64) hx hb d_Value_object_5 rfl ?_
  refine lv_lor hx hb d_Value_object_6 ?_
  obtain rfl := Option.some.inj h
  exact W.lret (v := (p1.toInt64 <<< ((3 : Int32).toInt64 &&& 63)) ||| p0.toInt64) hx hb hr (fun t ht hW => ⟨_, rfl, rfl, ht⟩) (fun _ h => by cases h) d_Value_object_7

def m_Value_head (N : Nat) (p0 : Int32) (p1 : Int32) (p2 : Int32) : Option (Int64) := dz_let ((p2.toInt64 <<< ((35 : Int32).toInt64 &&& 63)) ||| ((p1.toInt64 &&& 4294967295) <<< ((3 : Int32).toInt64 &&& 63))) (fun x1 => some (x1 ||| p0.toInt64))
set_option maxHeartbeats 4000000 in
set_option maxRecDepth 100000 in
theorem c_Value_head (l : Launch) (dC : Nat → ClassId) (dI : Nat → Nat → Nat) (N : Nat) (p0 : Int32) (p1 : Int32) (p2 : Int32) (z : Int64) (h : m_Value_head N p0 p1 p2 = some z) : Met l y_Value_head (.code y_Value_head b_Value_head 3 (some .long) :: lw_g) ({ frames := 0, cells := 0, slots := 0, locals := 0 }) (va_Pc [.int p0, .int p1, .int p2] (fun U => dz_N U ∧ va_P (dC, dI) classes [] U.heap ∧ va_K (dC, dI) classes [] U)) (vp_Sl (fun r => r = z)) 0 0 (fun _ => False) := by
  refine Met.ofW (cc := b_Value_head) (maxL := 3) (ret := (some .long)) (by decide +kernel) rfl ?_
  intro p e s m args below meth c s₁ B hml hv
  obtain ⟨rfl, hN, hP, hK⟩ := hv
  have hx := B.exec
  have hb := B.bytes
  have hr := B.returns
  have hg : ∀ w ∈ lw_g, w.before _ s = true := fun w hw => atoms_spec (ws := .code y_Value_head b_Value_head 3 (some .long) :: lw_g) B.pre w (List.mem_cons_of_mem _ hw)
  have hown : s.vm.findClass R_Value = some m.cls := findClass_of_methodNamed B.named
  have hlocks := B.notSynchronized
  clear B
  have hP : va_P (dC, dI) classes [] s.heap := hP
  have hl := lv_entry ([.int p0, .int p1, .int p2]) (n := 3) (Nat.le_of_ble_eq_true rfl)
  rw [lg_entry_eq]
  generalize (lg_sl ([.int p0, .int p1, .int p2]) ++ List.replicate (3 - (lg_sl ([.int p0, .int p1, .int p2])).length) Slot.unset).toArray = ls at hl ⊢
  have hl : lv_has ls 3 [(0, .int p0), (1, .int p1), (2, .int p2)] := hl
  unfold m_Value_head at h
  refine lv_iload_n hx hb d_Value_head_0 rfl (lv_at hl 2 rfl) ?_
  refine lv_i2l (v := p2.toInt64) hx hb d_Value_head_1 rfl ?_
  refine lv_bipush (v := 35) hx hb d_Value_head_2 (by decide) ?_
  refine lv_lshl (v := p2.toInt64 <<< ((35 : Int32).toInt64 &&& 63)) hx hb d_Value_head_4 rfl ?_
  refine lv_iload_n hx hb d_Value_head_5 rfl (lv_at hl 1 rfl) ?_
  refine lv_i2l (v := p1.toInt64) hx hb d_Value_head_6 rfl ?_
  refine lv_ldc2 (v := 4294967295) hx hb hown (hg _ k2) d_Value_head_7 ?_
  refine lv_land hx hb d_Value_head_10 ?_
  refine lv_iconst (v := 3) hx hb d_Value_head_11 (by decide) ?_
  refine lv_lshl (v := (p1.toInt64 &&& 4294967295) <<< ((3 : Int32).toInt64 &&& 63)) hx hb d_Value_head_12 rfl ?_
  refine lv_lor hx hb d_Value_head_13 ?_
  obtain ⟨x1, ex1, h⟩ := dz_lt h
  refine dz_topl ex1 ?_
  refine lv_iload_n hx hb d_Value_head_14 rfl (lv_at hl 0 rfl) ?_
  refine lv_i2l (v := p0.toInt64) hx hb d_Value_head_15 rfl ?_
  refine lv_lor hx hb d_Value_head_16 ?_
  obtain rfl := Option.some.inj h
  exact W.lret (v := x1 ||| p0.toInt64) hx hb hr (fun t ht hW => ⟨_, rfl, rfl, ht⟩) (fun _ h => by cases h) d_Value_head_17

def m_Value_withKind (N : Nat) (p0 : Int64) (p1 : Int32) : Option (Int64) := some ((p0 &&& (-8)) ||| p1.toInt64)
set_option maxHeartbeats 4000000 in
set_option maxRecDepth 100000 in
theorem c_Value_withKind (l : Launch) (dC : Nat → ClassId) (dI : Nat → Nat → Nat) (N : Nat) (p0 : Int64) (p1 : Int32) (z : Int64) (h : m_Value_withKind N p0 p1 = some z) : Met l y_Value_withKind (.code y_Value_withKind b_Value_withKind 3 (some .long) :: lw_g) ({ frames := 0, cells := 0, slots := 0, locals := 0 }) (va_Pc [.long p0, .int p1] (fun U => dz_N U ∧ va_P (dC, dI) classes [] U.heap ∧ va_K (dC, dI) classes [] U)) (vp_Sl (fun r => r = z)) 0 0 (fun _ => False) := by
  refine Met.ofW (cc := b_Value_withKind) (maxL := 3) (ret := (some .long)) (by decide +kernel) rfl ?_
  intro p e s m args below meth c s₁ B hml hv
  obtain ⟨rfl, hN, hP, hK⟩ := hv
  have hx := B.exec
  have hb := B.bytes
  have hr := B.returns
  have hg : ∀ w ∈ lw_g, w.before _ s = true := fun w hw => atoms_spec (ws := .code y_Value_withKind b_Value_withKind 3 (some .long) :: lw_g) B.pre w (List.mem_cons_of_mem _ hw)
  have hown : s.vm.findClass R_Value = some m.cls := findClass_of_methodNamed B.named
  have hlocks := B.notSynchronized
  clear B
  have hP : va_P (dC, dI) classes [] s.heap := hP
  have hl := lv_entry ([.long p0, .int p1]) (n := 3) (Nat.le_of_ble_eq_true rfl)
  rw [lg_entry_eq]
  generalize (lg_sl ([.long p0, .int p1]) ++ List.replicate (3 - (lg_sl ([.long p0, .int p1])).length) Slot.unset).toArray = ls at hl ⊢
  have hl : lv_has ls 3 [(0, .long p0), (2, .int p1)] := hl
  unfold m_Value_withKind at h
  refine lv_lload_n hx hb d_Value_withKind_0 rfl (lv_at hl 0 rfl) ?_
  refine lv_ldc2 (v := (-8)) hx hb hown (hg _ k3) d_Value_withKind_1 ?_
  refine lv_land hx hb d_Value_withKind_4 ?_
  refine lv_iload_n hx hb d_Value_withKind_5 rfl (lv_at hl 1 rfl) ?_
  refine lv_i2l (v := p1.toInt64) hx hb d_Value_withKind_6 rfl ?_
  refine lv_lor hx hb d_Value_withKind_7 ?_
  obtain rfl := Option.some.inj h
  exact W.lret (v := (p0 &&& (-8)) ||| p1.toInt64) hx hb hr (fun t ht hW => ⟨_, rfl, rfl, ht⟩) (fun _ h => by cases h) d_Value_withKind_8

def m_Value_cellsOfString (N : Nat) (p0 : Int32) : Option (Int32) := some (1 + ((p0 + 3) / 4))
set_option maxHeartbeats 4000000 in
set_option maxRecDepth 100000 in
theorem c_Value_cellsOfString (l : Launch) (dC : Nat → ClassId) (dI : Nat → Nat → Nat) (N : Nat) (p0 : Int32) (z : Int32) (h : m_Value_cellsOfString N p0 = some z) : Met l y_Value_cellsOfString (.code y_Value_cellsOfString b_Value_cellsOfString 1 (some .int) :: lw_g) ({ frames := 0, cells := 0, slots := 0, locals := 0 }) (va_Pc [.int p0] (fun U => dz_N U ∧ va_P (dC, dI) classes [] U.heap ∧ va_K (dC, dI) classes [] U)) (vp_Si (fun r => r = z)) 0 0 (fun _ => False) := by
  refine Met.ofW (cc := b_Value_cellsOfString) (maxL := 1) (ret := (some .int)) (by decide +kernel) rfl ?_
  intro p e s m args below meth c s₁ B hml hv
  obtain ⟨rfl, hN, hP, hK⟩ := hv
  have hx := B.exec
  have hb := B.bytes
  have hr := B.returns
  have hg : ∀ w ∈ lw_g, w.before _ s = true := fun w hw => atoms_spec (ws := .code y_Value_cellsOfString b_Value_cellsOfString 1 (some .int) :: lw_g) B.pre w (List.mem_cons_of_mem _ hw)
  have hown : s.vm.findClass R_Value = some m.cls := findClass_of_methodNamed B.named
  have hlocks := B.notSynchronized
  clear B
  have hP : va_P (dC, dI) classes [] s.heap := hP
  have hl := lv_entry ([.int p0]) (n := 1) (Nat.le_of_ble_eq_true rfl)
  rw [lg_entry_eq]
  generalize (lg_sl ([.int p0]) ++ List.replicate (1 - (lg_sl ([.int p0])).length) Slot.unset).toArray = ls at hl ⊢
  have hl : lv_has ls 1 [(0, .int p0)] := hl
  unfold m_Value_cellsOfString at h
  refine lv_iconst (v := 1) hx hb d_Value_cellsOfString_0 (by decide) ?_
  refine lv_iload_n hx hb d_Value_cellsOfString_1 rfl (lv_at hl 0 rfl) ?_
  refine lv_iconst (v := 3) hx hb d_Value_cellsOfString_2 (by decide) ?_
  refine lv_iadd hx hb d_Value_cellsOfString_3 ?_
  refine lv_iconst (v := 4) hx hb d_Value_cellsOfString_4 (by decide) ?_
  refine lv_idiv hx hb d_Value_cellsOfString_5 (by decide) ?_
  refine lv_iadd hx hb d_Value_cellsOfString_6 ?_
  obtain rfl := Option.some.inj h
  exact W.iret (v := 1 + ((p0 + 3) / 4)) hx hb hr (fun t ht hW => ⟨_, rfl, rfl, ht⟩) (fun _ h => by cases h) d_Value_cellsOfString_7

def m_Status_isDone (N : Nat) (p0 : Int32) : Option (Int32) := (if p0 = 5 then some (1 : Int32) else (if p0 = 0 then some (1 : Int32) else (if p0 = 1 then some (1 : Int32) else some (0 : Int32))))
set_option maxHeartbeats 4000000 in
set_option maxRecDepth 100000 in
theorem c_Status_isDone (l : Launch) (dC : Nat → ClassId) (dI : Nat → Nat → Nat) (N : Nat) (p0 : Int32) (z : Int32) (h : m_Status_isDone N p0 = some z) : Met l y_Status_isDone (.code y_Status_isDone b_Status_isDone 1 (some .boolean) :: lw_g) ({ frames := 0, cells := 0, slots := 0, locals := 0 }) (va_Pc [.int p0] (fun U => dz_N U ∧ va_P (dC, dI) classes [] U.heap ∧ va_K (dC, dI) classes [] U)) (vp_Si (fun r => r = z ∧ narrow .boolean (.int z) = .int z ∧ fits .boolean (.int z) = true)) 0 0 (fun _ => False) := by
  refine Met.ofW (cc := b_Status_isDone) (maxL := 1) (ret := (some .boolean)) (by decide +kernel) rfl ?_
  intro p e s m args below meth c s₁ B hml hv
  obtain ⟨rfl, hN, hP, hK⟩ := hv
  have hx := B.exec
  have hb := B.bytes
  have hr := B.returns
  have hg : ∀ w ∈ lw_g, w.before _ s = true := fun w hw => atoms_spec (ws := .code y_Status_isDone b_Status_isDone 1 (some .boolean) :: lw_g) B.pre w (List.mem_cons_of_mem _ hw)
  have hown : s.vm.findClass R_Status = some m.cls := findClass_of_methodNamed B.named
  have hlocks := B.notSynchronized
  clear B
  have hP : va_P (dC, dI) classes [] s.heap := hP
  have hl := lv_entry ([.int p0]) (n := 1) (Nat.le_of_ble_eq_true rfl)
  rw [lg_entry_eq]
  generalize (lg_sl ([.int p0]) ++ List.replicate (1 - (lg_sl ([.int p0])).length) Slot.unset).toArray = ls at hl ⊢
  have hl : lv_has ls 1 [(0, .int p0)] := hl
  unfold m_Status_isDone at h
  refine lv_iload_n hx hb d_Status_isDone_0 rfl (lv_at hl 0 rfl) ?_
  refine lv_iconst (v := 5) hx hb d_Status_isDone_1 (by decide) ?_
  refine lv_icmp_eq (tgt := 14) hx hb d_Status_isDone_2 (by decide) (fun c1 => ?_) (fun c1 => ?_)
  · rw [if_pos c1] at h
    refine lv_iconst (v := 1) hx hb d_Status_isDone_14 (by decide) ?_
    refine lv_goto (tgt := 19) hx hb d_Status_isDone_15 (by decide) ?_
    obtain rfl := Option.some.inj h
    exact W.zret (v := 1) (ty := .boolean) hx hb hr rfl (fun t ht hW => ⟨_, rfl, ⟨rfl, rfl, rfl⟩, ht⟩) (fun _ h => by cases h) d_Status_isDone_19
  · rw [if_neg c1] at h
    refine lv_iload_n hx hb d_Status_isDone_5 rfl (lv_at hl 0 rfl) ?_
    refine lv_if_eq (tgt := 14) hx hb d_Status_isDone_6 (by decide) (fun c2 => ?_) (fun c2 => ?_)
    · rw [if_pos c2] at h
      refine lv_iconst (v := 1) hx hb d_Status_isDone_14 (by decide) ?_
      refine lv_goto (tgt := 19) hx hb d_Status_isDone_15 (by decide) ?_
      obtain rfl := Option.some.inj h
      exact W.zret (v := 1) (ty := .boolean) hx hb hr rfl (fun t ht hW => ⟨_, rfl, ⟨rfl, rfl, rfl⟩, ht⟩) (fun _ h => by cases h) d_Status_isDone_19
    · rw [if_neg c2] at h
      refine lv_iload_n hx hb d_Status_isDone_9 rfl (lv_at hl 0 rfl) ?_
      refine lv_iconst (v := 1) hx hb d_Status_isDone_10 (by decide) ?_
      refine lv_icmp_ne (tgt := 18) hx hb d_Status_isDone_11 (by decide) (fun c3 => ?_) (fun c3 => ?_)
      · rw [if_neg c3] at h
        refine lv_iconst (v := 0) hx hb d_Status_isDone_18 (by decide) ?_
        obtain rfl := Option.some.inj h
        exact W.zret (v := 0) (ty := .boolean) hx hb hr rfl (fun t ht hW => ⟨_, rfl, ⟨rfl, rfl, rfl⟩, ht⟩) (fun _ h => by cases h) d_Status_isDone_19
      · rw [if_pos c3] at h
        refine lv_iconst (v := 1) hx hb d_Status_isDone_14 (by decide) ?_
        refine lv_goto (tgt := 19) hx hb d_Status_isDone_15 (by decide) ?_
        obtain rfl := Option.some.inj h
        exact W.zret (v := 1) (ty := .boolean) hx hb hr rfl (fun t ht hW => ⟨_, rfl, ⟨rfl, rfl, rfl⟩, ht⟩) (fun _ h => by cases h) d_Status_isDone_19

def m_Engine_longer (N : Nat) (p0 : Int32) (p1 : Int32) (p2 : Int32) : Option (Int32) := ((m_Math_max N p1 (2 * p0)).bind fun z1_1 => ((m_Math_min N p2 z1_1).bind fun z2_1 => some z2_1))
set_option maxHeartbeats 4000000 in
set_option maxRecDepth 100000 in
theorem c_Engine_longer (l : Launch) (dC : Nat → ClassId) (dI : Nat → Nat → Nat) (N : Nat) (p0 : Int32) (p1 : Int32) (p2 : Int32) (z : Int32) (h : m_Engine_longer N p0 p1 p2 = some z) : Met l y_Engine_longer (.code y_Engine_longer b_Engine_longer 3 (some .int) :: lw_g) ({ frames := 1, cells := 0, slots := 0, locals := 21 }) (va_Pc [.int p0, .int p1, .int p2] (fun U => dz_N U ∧ va_P (dC, dI) classes [] U.heap ∧ va_K (dC, dI) classes [] U)) (vp_Si (fun r => r = z)) 0 0 (fun _ => False) := by
  refine Met.ofW (cc := b_Engine_longer) (maxL := 3) (ret := (some .int)) (by decide +kernel) rfl ?_
  intro p e s m args below meth c s₁ B hml hv
  obtain ⟨rfl, hN, hP, hK⟩ := hv
  have hx := B.exec
  have hb := B.bytes
  have hr := B.returns
  have hg : ∀ w ∈ lw_g, w.before _ s = true := fun w hw => atoms_spec (ws := .code y_Engine_longer b_Engine_longer 3 (some .int) :: lw_g) B.pre w (List.mem_cons_of_mem _ hw)
  have hown : s.vm.findClass R_Engine = some m.cls := findClass_of_methodNamed B.named
  have hlocks := B.notSynchronized
  clear B
  have hP : va_P (dC, dI) classes [] s.heap := hP
  have hl := lv_entry ([.int p0, .int p1, .int p2]) (n := 3) (Nat.le_of_ble_eq_true rfl)
  rw [lg_entry_eq]
  generalize (lg_sl ([.int p0, .int p1, .int p2]) ++ List.replicate (3 - (lg_sl ([.int p0, .int p1, .int p2])).length) Slot.unset).toArray = ls at hl ⊢
  have hl : lv_has ls 3 [(0, .int p0), (1, .int p1), (2, .int p2)] := hl
  unfold m_Engine_longer at h
  refine lv_iload_n hx hb d_Engine_longer_0 rfl (lv_at hl 2 rfl) ?_
  refine lv_iload_n hx hb d_Engine_longer_1 rfl (lv_at hl 1 rfl) ?_
  refine lv_iconst (v := 2) hx hb d_Engine_longer_2 (by decide) ?_
  refine lv_iload_n hx hb d_Engine_longer_3 rfl (lv_at hl 0 rfl) ?_
  refine lv_imul hx hb d_Engine_longer_4 ?_
  obtain ⟨z1_1, hc1, h⟩ := dz_ob h
  try dsimp only at h
  have hPc := hP.sub (ws' := []) [] rfl
  have hKc := hK.sub (tys' := []) [] rfl
  refine vp_callSi (va_Run.run (va_runS (As := [.int p1, .int (2 * p0)]) (rest := [.int p2]) ⟨hx, hb, hml, hown, hg⟩ (c_Math_max l dC dI N p1 (2 * p0) z1_1 hc1) (va_cwS 2 hg (gd_S k5 k6 k7 k4) rfl rfl rfl (by decide +kernel) ⟨Nat.le_of_ble_eq_true rfl, Nat.le_of_ble_eq_true rfl⟩) ⟨dz_blindR, fun U hU hW => ⟨rfl, dz_Nw hW hN, by rw [hU]; exact hPc, va_K.moved hW.alike hKc⟩⟩ rfl rfl hl.1 rfl (lv_room (Nat.le_of_ble_eq_true rfl)) d_Engine_longer_5 ⟨Nat.le_of_ble_eq_true rfl, Nat.le_of_ble_eq_true rfl⟩)) (fun r1 hw => ?_)
  have hw : z1_1 = r1 := hw.symm
  subst hw
  obtain ⟨z2_1, hc2, h⟩ := dz_ob h
  try dsimp only at h
  have hPc := hP.sub (ws' := []) [] rfl
  have hKc := hK.sub (tys' := []) [] rfl
  refine vp_callSi (va_Run.run (va_runS (As := [.int p2, .int z1_1]) (rest := []) ⟨hx, hb, hml, hown, hg⟩ (c_Math_min l dC dI N p2 z1_1 z2_1 hc2) (va_cwS 2 hg (gd_S k9 k10 k7 k8) rfl rfl rfl (by decide +kernel) ⟨Nat.le_of_ble_eq_true rfl, Nat.le_of_ble_eq_true rfl⟩) ⟨dz_blindR, fun U hU hW => ⟨rfl, dz_Nw hW hN, by rw [hU]; exact hPc, va_K.moved hW.alike hKc⟩⟩ rfl rfl hl.1 rfl (lv_room (Nat.le_of_ble_eq_true rfl)) d_Engine_longer_8 ⟨Nat.le_of_ble_eq_true rfl, Nat.le_of_ble_eq_true rfl⟩)) (fun r2 hw => ?_)
  have hw : z2_1 = r2 := hw.symm
  subst hw
  obtain rfl := Option.some.inj h
  exact W.iret (v := z2_1) hx hb hr (fun t ht hW => ⟨_, rfl, rfl, ht⟩) (fun _ h => by cases h) d_Engine_longer_11
end
section
theorem d_Arrays_copyOfI_0 : decode b_Arrays_copyOfI 0 = .ok (.iload_n 1, 1) := by decide +kernel
theorem d_Arrays_copyOfI_1 : decode b_Arrays_copyOfI 1 = .ok (.aload_n 0, 1) := by decide +kernel
theorem d_Arrays_copyOfI_2 : decode b_Arrays_copyOfI 2 = .ok (.arraylength, 1) := by decide +kernel
theorem d_Arrays_copyOfI_3 : decode b_Arrays_copyOfI 3 = .ok (.if_icmp .ne 11, 3) := by decide +kernel
theorem d_Arrays_copyOfI_6 : decode b_Arrays_copyOfI 6 = .ok (.aload_n 0, 1) := by decide +kernel
theorem d_Arrays_copyOfI_7 : decode b_Arrays_copyOfI 7 = .ok (.invokevirtual 316, 3) := by decide +kernel
theorem d_Arrays_copyOfI_10 : decode b_Arrays_copyOfI 10 = .ok (.checkcast 317, 3) := by decide +kernel
theorem d_Arrays_copyOfI_13 : decode b_Arrays_copyOfI 13 = .ok (.areturn, 1) := by decide +kernel
theorem d_Arrays_copyOfI_14 : decode b_Arrays_copyOfI 14 = .ok (.iload_n 1, 1) := by decide +kernel
theorem d_Arrays_copyOfI_15 : decode b_Arrays_copyOfI 15 = .ok (.newarray .int, 2) := by decide +kernel
theorem d_Arrays_copyOfI_17 : decode b_Arrays_copyOfI 17 = .ok (.astore_n 2, 1) := by decide +kernel
theorem d_Arrays_copyOfI_18 : decode b_Arrays_copyOfI 18 = .ok (.aload_n 0, 1) := by decide +kernel
theorem d_Arrays_copyOfI_19 : decode b_Arrays_copyOfI 19 = .ok (.iconst 0, 1) := by decide +kernel
theorem d_Arrays_copyOfI_20 : decode b_Arrays_copyOfI 20 = .ok (.aload_n 2, 1) := by decide +kernel
theorem d_Arrays_copyOfI_21 : decode b_Arrays_copyOfI 21 = .ok (.iconst 0, 1) := by decide +kernel
theorem d_Arrays_copyOfI_22 : decode b_Arrays_copyOfI 22 = .ok (.aload_n 0, 1) := by decide +kernel
theorem d_Arrays_copyOfI_23 : decode b_Arrays_copyOfI 23 = .ok (.arraylength, 1) := by decide +kernel
theorem d_Arrays_copyOfI_24 : decode b_Arrays_copyOfI 24 = .ok (.iload_n 1, 1) := by decide +kernel
theorem d_Arrays_copyOfI_25 : decode b_Arrays_copyOfI 25 = .ok (.invokestatic 304, 3) := by decide +kernel
theorem d_Arrays_copyOfI_28 : decode b_Arrays_copyOfI 28 = .ok (.invokestatic 150, 3) := by decide +kernel
theorem d_Arrays_copyOfI_31 : decode b_Arrays_copyOfI 31 = .ok (.aload_n 2, 1) := by decide +kernel
theorem d_Arrays_copyOfI_32 : decode b_Arrays_copyOfI 32 = .ok (.areturn, 1) := by decide +kernel
theorem d_Arrays_copyOfJ_0 : decode b_Arrays_copyOfJ 0 = .ok (.iload_n 1, 1) := by decide +kernel
theorem d_Arrays_copyOfJ_1 : decode b_Arrays_copyOfJ 1 = .ok (.aload_n 0, 1) := by decide +kernel
theorem d_Arrays_copyOfJ_2 : decode b_Arrays_copyOfJ 2 = .ok (.arraylength, 1) := by decide +kernel
theorem d_Arrays_copyOfJ_3 : decode b_Arrays_copyOfJ 3 = .ok (.if_icmp .ne 11, 3) := by decide +kernel
theorem d_Arrays_copyOfJ_6 : decode b_Arrays_copyOfJ 6 = .ok (.aload_n 0, 1) := by decide +kernel
theorem d_Arrays_copyOfJ_7 : decode b_Arrays_copyOfJ 7 = .ok (.invokevirtual 319, 3) := by decide +kernel
theorem d_Arrays_copyOfJ_10 : decode b_Arrays_copyOfJ 10 = .ok (.checkcast 320, 3) := by decide +kernel
theorem d_Arrays_copyOfJ_13 : decode b_Arrays_copyOfJ 13 = .ok (.areturn, 1) := by decide +kernel
theorem d_Arrays_copyOfJ_14 : decode b_Arrays_copyOfJ 14 = .ok (.iload_n 1, 1) := by decide +kernel
theorem d_Arrays_copyOfJ_15 : decode b_Arrays_copyOfJ 15 = .ok (.newarray .long, 2) := by decide +kernel
theorem d_Arrays_copyOfJ_17 : decode b_Arrays_copyOfJ 17 = .ok (.astore_n 2, 1) := by decide +kernel
theorem d_Arrays_copyOfJ_18 : decode b_Arrays_copyOfJ 18 = .ok (.aload_n 0, 1) := by decide +kernel
theorem d_Arrays_copyOfJ_19 : decode b_Arrays_copyOfJ 19 = .ok (.iconst 0, 1) := by decide +kernel
theorem d_Arrays_copyOfJ_20 : decode b_Arrays_copyOfJ 20 = .ok (.aload_n 2, 1) := by decide +kernel
theorem d_Arrays_copyOfJ_21 : decode b_Arrays_copyOfJ 21 = .ok (.iconst 0, 1) := by decide +kernel
theorem d_Arrays_copyOfJ_22 : decode b_Arrays_copyOfJ 22 = .ok (.aload_n 0, 1) := by decide +kernel
theorem d_Arrays_copyOfJ_23 : decode b_Arrays_copyOfJ 23 = .ok (.arraylength, 1) := by decide +kernel
theorem d_Arrays_copyOfJ_24 : decode b_Arrays_copyOfJ 24 = .ok (.iload_n 1, 1) := by decide +kernel
theorem d_Arrays_copyOfJ_25 : decode b_Arrays_copyOfJ 25 = .ok (.invokestatic 304, 3) := by decide +kernel
theorem d_Arrays_copyOfJ_28 : decode b_Arrays_copyOfJ 28 = .ok (.invokestatic 150, 3) := by decide +kernel
theorem d_Arrays_copyOfJ_31 : decode b_Arrays_copyOfJ 31 = .ok (.aload_n 2, 1) := by decide +kernel
theorem d_Arrays_copyOfJ_32 : decode b_Arrays_copyOfJ 32 = .ok (.areturn, 1) := by decide +kernel
theorem d_Arrays_copyOfB_0 : decode b_Arrays_copyOfB 0 = .ok (.iload_n 1, 1) := by decide +kernel
theorem d_Arrays_copyOfB_1 : decode b_Arrays_copyOfB 1 = .ok (.aload_n 0, 1) := by decide +kernel
theorem d_Arrays_copyOfB_2 : decode b_Arrays_copyOfB 2 = .ok (.arraylength, 1) := by decide +kernel
theorem d_Arrays_copyOfB_3 : decode b_Arrays_copyOfB 3 = .ok (.if_icmp .ne 11, 3) := by decide +kernel
theorem d_Arrays_copyOfB_6 : decode b_Arrays_copyOfB 6 = .ok (.aload_n 0, 1) := by decide +kernel
theorem d_Arrays_copyOfB_7 : decode b_Arrays_copyOfB 7 = .ok (.invokevirtual 310, 3) := by decide +kernel
theorem d_Arrays_copyOfB_10 : decode b_Arrays_copyOfB 10 = .ok (.checkcast 311, 3) := by decide +kernel
theorem d_Arrays_copyOfB_13 : decode b_Arrays_copyOfB 13 = .ok (.areturn, 1) := by decide +kernel
theorem d_Arrays_copyOfB_14 : decode b_Arrays_copyOfB 14 = .ok (.iload_n 1, 1) := by decide +kernel
theorem d_Arrays_copyOfB_15 : decode b_Arrays_copyOfB 15 = .ok (.newarray .byte, 2) := by decide +kernel
theorem d_Arrays_copyOfB_17 : decode b_Arrays_copyOfB 17 = .ok (.astore_n 2, 1) := by decide +kernel
theorem d_Arrays_copyOfB_18 : decode b_Arrays_copyOfB 18 = .ok (.aload_n 0, 1) := by decide +kernel
theorem d_Arrays_copyOfB_19 : decode b_Arrays_copyOfB 19 = .ok (.iconst 0, 1) := by decide +kernel
theorem d_Arrays_copyOfB_20 : decode b_Arrays_copyOfB 20 = .ok (.aload_n 2, 1) := by decide +kernel
theorem d_Arrays_copyOfB_21 : decode b_Arrays_copyOfB 21 = .ok (.iconst 0, 1) := by decide +kernel
theorem d_Arrays_copyOfB_22 : decode b_Arrays_copyOfB 22 = .ok (.aload_n 0, 1) := by decide +kernel
theorem d_Arrays_copyOfB_23 : decode b_Arrays_copyOfB 23 = .ok (.arraylength, 1) := by decide +kernel
theorem d_Arrays_copyOfB_24 : decode b_Arrays_copyOfB 24 = .ok (.iload_n 1, 1) := by decide +kernel
theorem d_Arrays_copyOfB_25 : decode b_Arrays_copyOfB 25 = .ok (.invokestatic 304, 3) := by decide +kernel
theorem d_Arrays_copyOfB_28 : decode b_Arrays_copyOfB 28 = .ok (.invokestatic 150, 3) := by decide +kernel
theorem d_Arrays_copyOfB_31 : decode b_Arrays_copyOfB 31 = .ok (.aload_n 2, 1) := by decide +kernel
theorem d_Arrays_copyOfB_32 : decode b_Arrays_copyOfB 32 = .ok (.areturn, 1) := by decide +kernel
theorem d_Arrays_rangeCheck_0 : decode b_Arrays_rangeCheck 0 = .ok (.iload_n 1, 1) := by decide +kernel
theorem d_Arrays_rangeCheck_1 : decode b_Arrays_rangeCheck 1 = .ok (.iload_n 2, 1) := by decide +kernel
theorem d_Arrays_rangeCheck_2 : decode b_Arrays_rangeCheck 2 = .ok (.if_icmp .le 44, 3) := by decide +kernel
theorem d_Arrays_rangeCheck_5 : decode b_Arrays_rangeCheck 5 = .ok (.new 43, 3) := by decide +kernel
theorem d_Arrays_rangeCheck_8 : decode b_Arrays_rangeCheck 8 = .ok (.dup, 1) := by decide +kernel
theorem d_Arrays_rangeCheck_9 : decode b_Arrays_rangeCheck 9 = .ok (.new 45, 3) := by decide +kernel
theorem d_Arrays_rangeCheck_12 : decode b_Arrays_rangeCheck 12 = .ok (.dup, 1) := by decide +kernel
theorem d_Arrays_rangeCheck_13 : decode b_Arrays_rangeCheck 13 = .ok (.invokespecial 47, 3) := by decide +kernel
theorem d_Arrays_rangeCheck_16 : decode b_Arrays_rangeCheck 16 = .ok (.ldc 48, 2) := by decide +kernel
theorem d_Arrays_rangeCheck_18 : decode b_Arrays_rangeCheck 18 = .ok (.invokevirtual 50, 3) := by decide +kernel
theorem d_Arrays_rangeCheck_21 : decode b_Arrays_rangeCheck 21 = .ok (.iload_n 1, 1) := by decide +kernel
theorem d_Arrays_rangeCheck_22 : decode b_Arrays_rangeCheck 22 = .ok (.invokevirtual 54, 3) := by decide +kernel
theorem d_Arrays_rangeCheck_25 : decode b_Arrays_rangeCheck 25 = .ok (.ldc 57, 2) := by decide +kernel
theorem d_Arrays_rangeCheck_27 : decode b_Arrays_rangeCheck 27 = .ok (.invokevirtual 50, 3) := by decide +kernel
theorem d_Arrays_rangeCheck_30 : decode b_Arrays_rangeCheck 30 = .ok (.iload_n 2, 1) := by decide +kernel
theorem d_Arrays_rangeCheck_31 : decode b_Arrays_rangeCheck 31 = .ok (.invokevirtual 54, 3) := by decide +kernel
theorem d_Arrays_rangeCheck_34 : decode b_Arrays_rangeCheck 34 = .ok (.ldc 59, 2) := by decide +kernel
theorem d_Arrays_rangeCheck_36 : decode b_Arrays_rangeCheck 36 = .ok (.invokevirtual 50, 3) := by decide +kernel
theorem d_Arrays_rangeCheck_39 : decode b_Arrays_rangeCheck 39 = .ok (.invokevirtual 61, 3) := by decide +kernel
theorem d_Arrays_rangeCheck_42 : decode b_Arrays_rangeCheck 42 = .ok (.invokespecial 65, 3) := by decide +kernel
theorem d_Arrays_rangeCheck_45 : decode b_Arrays_rangeCheck 45 = .ok (.athrow, 1) := by decide +kernel
theorem d_Arrays_rangeCheck_46 : decode b_Arrays_rangeCheck 46 = .ok (.iload_n 1, 1) := by decide +kernel
theorem d_Arrays_rangeCheck_47 : decode b_Arrays_rangeCheck 47 = .ok (.ifCond .ge 12, 3) := by decide +kernel
theorem d_Arrays_rangeCheck_50 : decode b_Arrays_rangeCheck 50 = .ok (.new 68, 3) := by decide +kernel
theorem d_Arrays_rangeCheck_53 : decode b_Arrays_rangeCheck 53 = .ok (.dup, 1) := by decide +kernel
theorem d_Arrays_rangeCheck_54 : decode b_Arrays_rangeCheck 54 = .ok (.iload_n 1, 1) := by decide +kernel
theorem d_Arrays_rangeCheck_55 : decode b_Arrays_rangeCheck 55 = .ok (.invokespecial 70, 3) := by decide +kernel
theorem d_Arrays_rangeCheck_58 : decode b_Arrays_rangeCheck 58 = .ok (.athrow, 1) := by decide +kernel
theorem d_Arrays_rangeCheck_59 : decode b_Arrays_rangeCheck 59 = .ok (.iload_n 2, 1) := by decide +kernel
theorem d_Arrays_rangeCheck_60 : decode b_Arrays_rangeCheck 60 = .ok (.iload_n 0, 1) := by decide +kernel
theorem d_Arrays_rangeCheck_61 : decode b_Arrays_rangeCheck 61 = .ok (.if_icmp .le 12, 3) := by decide +kernel
theorem d_Arrays_rangeCheck_64 : decode b_Arrays_rangeCheck 64 = .ok (.new 68, 3) := by decide +kernel
theorem d_Arrays_rangeCheck_67 : decode b_Arrays_rangeCheck 67 = .ok (.dup, 1) := by decide +kernel
theorem d_Arrays_rangeCheck_68 : decode b_Arrays_rangeCheck 68 = .ok (.iload_n 2, 1) := by decide +kernel
theorem d_Arrays_rangeCheck_69 : decode b_Arrays_rangeCheck 69 = .ok (.invokespecial 70, 3) := by decide +kernel
theorem d_Arrays_rangeCheck_72 : decode b_Arrays_rangeCheck 72 = .ok (.athrow, 1) := by decide +kernel
theorem d_Arrays_rangeCheck_73 : decode b_Arrays_rangeCheck 73 = .ok (.return_, 1) := by decide +kernel
theorem d_Arrays_fill_0 : decode b_Arrays_fill 0 = .ok (.aload_n 0, 1) := by decide +kernel
theorem d_Arrays_fill_1 : decode b_Arrays_fill 1 = .ok (.arraylength, 1) := by decide +kernel
theorem d_Arrays_fill_2 : decode b_Arrays_fill 2 = .ok (.iload_n 1, 1) := by decide +kernel
theorem d_Arrays_fill_3 : decode b_Arrays_fill 3 = .ok (.iload_n 2, 1) := by decide +kernel
theorem d_Arrays_fill_4 : decode b_Arrays_fill 4 = .ok (.invokestatic 13, 3) := by decide +kernel
theorem d_Arrays_fill_7 : decode b_Arrays_fill 7 = .ok (.iload_n 1, 1) := by decide +kernel
theorem d_Arrays_fill_8 : decode b_Arrays_fill 8 = .ok (.istore 5, 2) := by decide +kernel
theorem d_Arrays_fill_10 : decode b_Arrays_fill 10 = .ok (.iload 5, 2) := by decide +kernel
theorem d_Arrays_fill_12 : decode b_Arrays_fill 12 = .ok (.iload_n 2, 1) := by decide +kernel
theorem d_Arrays_fill_13 : decode b_Arrays_fill 13 = .ok (.if_icmp .ge 14, 3) := by decide +kernel
theorem d_Arrays_fill_16 : decode b_Arrays_fill 16 = .ok (.aload_n 0, 1) := by decide +kernel
theorem d_Arrays_fill_17 : decode b_Arrays_fill 17 = .ok (.iload 5, 2) := by decide +kernel
theorem d_Arrays_fill_19 : decode b_Arrays_fill 19 = .ok (.lload_n 3, 1) := by decide +kernel
theorem d_Arrays_fill_20 : decode b_Arrays_fill 20 = .ok (.lastore, 1) := by decide +kernel
theorem d_Arrays_fill_21 : decode b_Arrays_fill 21 = .ok (.iinc 5 1, 3) := by decide +kernel
theorem d_Arrays_fill_24 : decode b_Arrays_fill 24 = .ok (.goto (-14), 3) := by decide +kernel
theorem d_Arrays_fill_27 : decode b_Arrays_fill 27 = .ok (.return_, 1) := by decide +kernel
theorem k11 : Cond.arrayClass .int ∈ lw_g := kg (List.mem_append_right _ (List.mem_of_getElem? (i := 80) (by decide +kernel))) rfl
theorem k12 : Cond.methodLink R_Arrays 304 y_Math_min ∈ lw_g := kg (List.mem_append_right _ (List.mem_of_getElem? (i := 372) (by decide +kernel))) rfl
theorem k13 : Cond.methodLink R_Arrays 150 y_System_arraycopy ∈ lw_g := kg (List.mem_append_right _ (List.mem_of_getElem? (i := 373) (by decide +kernel))) rfl
theorem k14 : Cond.native y_System_arraycopy ∈ lw_g := kg (List.mem_append_right _ (List.mem_of_getElem? (i := 375) (by decide +kernel))) rfl
theorem k15 : Cond.static y_System_arraycopy ∈ lw_g := kg (List.mem_append_right _ (List.mem_of_getElem? (i := 374) (by decide +kernel))) rfl
theorem k16 : Cond.initialized R_System ∈ lw_g := kg (List.mem_append_right _ (List.mem_of_getElem? (i := 14) (by decide +kernel))) rfl
theorem k17 : Cond.arrayClass .long ∈ lw_g := kg (List.mem_append_right _ (List.mem_of_getElem? (i := 79) (by decide +kernel))) rfl
theorem k18 : Cond.arrayClass .byte ∈ lw_g := kg (List.mem_append_right _ (List.mem_of_getElem? (i := 116) (by decide +kernel))) rfl
theorem k19 : Cond.code y_Arrays_rangeCheck b_Arrays_rangeCheck 3 none ∈ lw_g := kg (List.mem_append_right _ (List.mem_of_getElem? (i := 548) (by decide +kernel))) rfl
theorem k20 : Cond.methodLink R_Arrays 13 y_Arrays_rangeCheck ∈ lw_g := kg (List.mem_append_right _ (List.mem_of_getElem? (i := 546) (by decide +kernel))) rfl
theorem k21 : Cond.static y_Arrays_rangeCheck ∈ lw_g := kg (List.mem_append_right _ (List.mem_of_getElem? (i := 547) (by decide +kernel))) rfl
theorem k22 : Cond.initialized R_Arrays ∈ lw_g := kg (List.mem_append_right _ (List.mem_of_getElem? (i := 13) (by decide +kernel))) rfl
def m_Arrays_copyOfI (N : Nat) (qn0 : Nat) (qf0 : Nat → Int32) (p1 : Int32) : Option ((Nat × (Nat → Int32)) × Nat × Nat) := (if p1 = (Int32.ofNat qn0) then none else (if p1 < 0 ∨ 134217728 < p1.toNatClampNeg then none else dz_tk 1 p1.toNatClampNeg (((m_Math_min N (Int32.ofNat qn0) p1).bind fun z3_1 => (if (0 : Int32) < 0 ∨ (0 : Int32) < 0 ∨ z3_1 < 0 ∨ qn0 < (0 : Int32).toNatClampNeg + z3_1.toNatClampNeg ∨ p1.toNatClampNeg < (0 : Int32).toNatClampNeg + z3_1.toNatClampNeg then none else some ((p1.toNatClampNeg, va_cpy qf0 (fun _ => 0) (0 : Int32).toNatClampNeg (0 : Int32).toNatClampNeg z3_1.toNatClampNeg), 0, 0))))))
set_option maxHeartbeats 4000000 in
set_option maxRecDepth 100000 in
theorem c_Arrays_copyOfI (l : Launch) (dC : Nat → ClassId) (dI : Nat → Nat → Nat) (N : Nat) (cI : ClassId) (q0 : Nat) (qn0 : Nat) (qf0 : Nat → Int32) (p1 : Int32) (sz : Nat) (Z1 : Nat × (Nat → Int32)) (Zc Zs : Nat) (h : m_Arrays_copyOfI N qn0 qf0 p1 = some (Z1, Zc, Zs)) : Met l y_Arrays_copyOfI (.code y_Arrays_copyOfI b_Arrays_copyOfI 3 (some (.array .int)) :: lw_g) ({ frames := 1, cells := Zc, slots := Zs, locals := 60 }) (va_Pc [.ref q0, .int p1] (fun U => dz_N U ∧ U.heap.size = sz ∧ va_P (dC, dI) classes [(q0, .inl (cI, qn0, .inl qf0))] U.heap ∧ va_K (dC, dI) classes [(cI, .int)] U ∧ va_D (fun _ => True) [(q0, .inl (cI, qn0, .inl qf0))])) (va_Qr (fun (_ : Unit) => True) (fun (u : Unit) a t => va_P (dC, dI) classes [(q0, .inl (cI, qn0, .inl qf0)), (a, .inl (cI, Z1.1, .inl Z1.2))] t.heap ∧ va_K (dC, dI) classes [(cI, .int)] t ∧ va_D (va_A [(q0, .inl (cI, qn0, .inl qf0))] sz) [(q0, .inl (cI, qn0, .inl qf0)), (a, .inl (cI, Z1.1, .inl Z1.2))]) (va_A [(q0, .inl (cI, qn0, .inl qf0))] sz)) Zc Zs (va_A [(q0, .inl (cI, qn0, .inl qf0))] sz) := by
  refine va_MetF (cc := b_Arrays_copyOfI) (maxL := 3) (ret := (some (.array .int))) (by decide +kernel) rfl ?_
  intro p e s m args below meth c s₁ B hml hv
  obtain ⟨rfl, hN, hsz, hP, hK, hD0⟩ := hv
  have hx := B.exec
  have hb := B.bytes
  have hr := B.returns
  have hg : ∀ w ∈ lw_g, w.before _ s = true := fun w hw => atoms_spec (ws := .code y_Arrays_copyOfI b_Arrays_copyOfI 3 (some (.array .int)) :: lw_g) B.pre w (List.mem_cons_of_mem _ hw)
  have hown : s.vm.findClass R_Arrays = some m.cls := findClass_of_methodNamed B.named
  have hlocks := B.notSynchronized
  clear B
  subst hsz
  have hD := hD0.self (sz := s.heap.size)
  generalize hAe : va_A [(q0, .inl (cI, qn0, .inl qf0))] s.heap.size = A at hD ⊢
  have hA : ∀ q : Nat, s.heap.size ≤ q → A q := fun q h => by rw [← hAe]; exact Or.inr h
  have hS : va_S A s.heap s.heap [] := va_S.rf
  have hP : va_P (dC, dI) classes [(q0, .inl (cI, qn0, .inl qf0))] s.heap := hP
  have hl := lv_entry ([.ref q0, .int p1]) (n := 3) (Nat.le_of_ble_eq_true rfl)
  rw [lg_entry_eq]
  generalize (lg_sl ([.ref q0, .int p1]) ++ List.replicate (3 - (lg_sl ([.ref q0, .int p1])).length) Slot.unset).toArray = ls at hl ⊢
  have hl : lv_has ls 3 [(0, .ref q0), (1, .int p1)] := hl
  unfold m_Arrays_copyOfI at h
  have hG : dz_G Z1 Zc Zs (Z1, Zc, Zs) 0 0 := ⟨rfl, (Nat.zero_add _).symm, (Nat.zero_add _).symm⟩
  generalize (Z1, Zc, Zs) = z at h hG
  refine lv_iload_n hx hb d_Arrays_copyOfI_0 rfl (lv_at hl 1 rfl) ?_
  refine lv_aload_n hx hb d_Arrays_copyOfI_1 rfl (lv_at hl 0 rfl) ?_
  refine va_alen (D := (dC, dI)) (v := Int32.ofNat qn0) hx hb hK hP 0 0 rfl rfl rfl d_Arrays_copyOfI_2 ?_
  refine lv_icmp_ne (tgt := 14) hx hb d_Arrays_copyOfI_3 (by decide) (fun c1 => ?_) (fun c1 => ?_)
  · rw [if_neg c1] at h
    refine lv_iload_n hx hb d_Arrays_copyOfI_14 rfl (lv_at hl 1 rfl) ?_
    obtain ⟨i2, h⟩ := dz_oi h
    obtain ⟨z, h, hG⟩ := dz_tkG h hG
    refine va_newa (D := (dC, dI)) (atype := .int) (N' := p1.toNatClampNeg) (a0 := (p1.toNatClampNeg, .inl (fun _ => 0))) hx hb (hg _ k11) (ty := .int) rfl hK hP hD hS hA (fun _ => rfl) (fun q => i2 (Or.inl q)) rfl (by show _ * 4 ≤ 536870912; have := fun q => i2 (Or.inr q); omega) (dz_Gc hG) (dz_Gs hG) d_Arrays_copyOfI_15 (fun b2 cA H hK hP hD hS => ?_)
    have hcc : cI = cA := Option.some.inj (((hK.2 0 _ rfl).2).symm.trans (hK.2 1 _ rfl).2)
    subst hcc
    have hK := hK.sub (tys' := [(cI, .int)]) [0] rfl
    have hP : va_P (dC, dI) classes [(q0, .inl (cI, qn0, .inl qf0)), (b2, .inl (cI, p1.toNatClampNeg, .inl (fun _ => 0)))] H := hP
    have hD : va_D A [(q0, .inl (cI, qn0, .inl qf0)), (b2, .inl (cI, p1.toNatClampNeg, .inl (fun _ => 0)))] := hD
    refine lv_astore_n (lv' := [(2, .ref b2), (0, .ref q0), (1, .int p1)]) hx hb d_Arrays_copyOfI_17 rfl hl (by decide) rfl (fun ls hl => ?_)
    refine lv_aload_n hx hb d_Arrays_copyOfI_18 rfl (lv_at hl 1 rfl) ?_
    refine lv_iconst (v := 0) hx hb d_Arrays_copyOfI_19 (by decide) ?_
    refine lv_aload_n hx hb d_Arrays_copyOfI_20 rfl (lv_at hl 0 rfl) ?_
    refine lv_iconst (v := 0) hx hb d_Arrays_copyOfI_21 (by decide) ?_
    refine lv_aload_n hx hb d_Arrays_copyOfI_22 rfl (lv_at hl 1 rfl) ?_
    refine va_alen (D := (dC, dI)) (v := Int32.ofNat qn0) hx hb hK hP 0 0 rfl rfl rfl d_Arrays_copyOfI_23 ?_
    refine lv_iload_n hx hb d_Arrays_copyOfI_24 rfl (lv_at hl 2 rfl) ?_
    obtain ⟨z3_1, hc3, h⟩ := dz_ob h
    try dsimp only at h
    have hPc := hP.sub (ws' := []) [] rfl
    have hKc := hK.sub (tys' := []) [] rfl
    refine vp_callSi (va_Run.run (va_runS (As := [.int (Int32.ofNat qn0), .int p1]) (rest := [.int 0, .ref b2, .int 0, .ref q0]) ⟨hx, hb, hml, hown, hg⟩ (c_Math_min l dC dI N (Int32.ofNat qn0) p1 z3_1 hc3) (va_cwS 2 hg (gd_S k12 k10 k7 k8) rfl rfl rfl (by decide +kernel) ⟨Nat.le_of_ble_eq_true rfl, Nat.le_of_ble_eq_true rfl⟩) ⟨dz_blindR, fun U hU hW => ⟨rfl, dz_Nw hW hN, by rw [hU]; exact hPc, va_K.moved hW.alike hKc⟩⟩ rfl rfl hl.1 rfl (lv_room (Nat.le_of_ble_eq_true rfl)) d_Arrays_copyOfI_25 ⟨dz_Gc hG, dz_Gs hG⟩)) (fun r3 hw => ?_)
    have hw : z3_1 = r3 := hw.symm
    subst hw
    obtain ⟨i4, h⟩ := dz_oi h
    refine va_copyi (D := (dC, dI)) (ty := .int) hx hb (hml.trans hl.1.symm) hown (hg _ k13) (hg _ k14) (hg _ k15) (hg _ k16) hK hP hD hS 0 1 0 0 rfl rfl rfl rfl rfl (fun q => i4 (Or.inl q)) (fun q => i4 (Or.inr (Or.inl q))) (fun q => i4 (Or.inr (Or.inr (Or.inl q)))) (Nat.not_lt.mp (fun q => i4 (Or.inr (Or.inr (Or.inr (Or.inl q)))))) (Nat.not_lt.mp (fun q => i4 (Or.inr (Or.inr (Or.inr (Or.inr q)))))) (fun _ _ => rfl) (Nat.le_of_ble_eq_true rfl) (by first | exact Nat.le_of_ble_eq_true rfl | (show _ ≤ 60; decide +kernel)) d_Arrays_copyOfI_28 (fun H locs hP hD hS => ?_)
    have hP : va_P (dC, dI) classes [(q0, .inl (cI, qn0, .inl qf0)), (b2, .inl (cI, p1.toNatClampNeg, .inl (va_cpy qf0 (fun _ => 0) (0 : Int32).toNatClampNeg (0 : Int32).toNatClampNeg z3_1.toNatClampNeg)))] H := hP
    have hD : va_D A [(q0, .inl (cI, qn0, .inl qf0)), (b2, .inl (cI, p1.toNatClampNeg, .inl (va_cpy qf0 (fun _ => 0) (0 : Int32).toNatClampNeg (0 : Int32).toNatClampNeg z3_1.toNatClampNeg)))] := hD
    refine lv_aload_n hx hb d_Arrays_copyOfI_31 rfl (lv_at hl 0 rfl) ?_
    obtain rfl := Option.some.inj h
    have hP9 := hP.sub (ws' := [(q0, .inl (cI, qn0, .inl qf0)), (b2, .inl (cI, p1.toNatClampNeg, .inl (va_cpy qf0 (fun _ => 0) (0 : Int32).toNatClampNeg (0 : Int32).toNatClampNeg z3_1.toNatClampNeg)))]) [0, 1] rfl
    have hD9 := hD.sub (ws' := [(q0, .inl (cI, qn0, .inl qf0)), (b2, .inl (cI, p1.toNatClampNeg, .inl (va_cpy qf0 (fun _ => 0) (0 : Int32).toNatClampNeg (0 : Int32).toNatClampNeg z3_1.toNatClampNeg)))]) [0, 1] (by decide) rfl
    have hK9 := hK.sub (tys' := [(cI, .int)]) [0] rfl
    refine W.widen (dz_Gc hG) (dz_Gs hG) ?_
    obtain ⟨rfl, -, -⟩ := hG
    exact W.aret (v := .ref b2) hx hb hr (Or.inr ⟨_, rfl⟩) (Or.inr ⟨_, rfl⟩) (fun t ht hW => ⟨⟨(), b2, rfl, trivial, by rw [ht]; exact hP9, va_K.moved hW.alike hK9, hD9⟩, hS.F ht⟩) hS.2.2 d_Arrays_copyOfI_32
  · rw [if_pos c1] at h
    refine lv_aload_n hx hb d_Arrays_copyOfI_6 rfl (lv_at hl 0 rfl) ?_
    cases h

def m_Arrays_copyOfJ (N : Nat) (qn0 : Nat) (qf0 : Nat → Int64) (p1 : Int32) : Option ((Nat × (Nat → Int64)) × Nat × Nat) := (if p1 = (Int32.ofNat qn0) then none else (if p1 < 0 ∨ 67108864 < p1.toNatClampNeg then none else dz_tk 1 p1.toNatClampNeg (((m_Math_min N (Int32.ofNat qn0) p1).bind fun z3_1 => (if (0 : Int32) < 0 ∨ (0 : Int32) < 0 ∨ z3_1 < 0 ∨ qn0 < (0 : Int32).toNatClampNeg + z3_1.toNatClampNeg ∨ p1.toNatClampNeg < (0 : Int32).toNatClampNeg + z3_1.toNatClampNeg then none else some ((p1.toNatClampNeg, va_cpy qf0 (fun _ => 0) (0 : Int32).toNatClampNeg (0 : Int32).toNatClampNeg z3_1.toNatClampNeg), 0, 0))))))
set_option maxHeartbeats 4000000 in
set_option maxRecDepth 100000 in
theorem c_Arrays_copyOfJ (l : Launch) (dC : Nat → ClassId) (dI : Nat → Nat → Nat) (N : Nat) (cL : ClassId) (q0 : Nat) (qn0 : Nat) (qf0 : Nat → Int64) (p1 : Int32) (sz : Nat) (Z1 : Nat × (Nat → Int64)) (Zc Zs : Nat) (h : m_Arrays_copyOfJ N qn0 qf0 p1 = some (Z1, Zc, Zs)) : Met l y_Arrays_copyOfJ (.code y_Arrays_copyOfJ b_Arrays_copyOfJ 3 (some (.array .long)) :: lw_g) ({ frames := 1, cells := Zc, slots := Zs, locals := 60 }) (va_Pc [.ref q0, .int p1] (fun U => dz_N U ∧ U.heap.size = sz ∧ va_P (dC, dI) classes [(q0, .inl (cL, qn0, .inr (.inl qf0)))] U.heap ∧ va_K (dC, dI) classes [(cL, .long)] U ∧ va_D (fun _ => True) [(q0, .inl (cL, qn0, .inr (.inl qf0)))])) (va_Qr (fun (_ : Unit) => True) (fun (u : Unit) a t => va_P (dC, dI) classes [(q0, .inl (cL, qn0, .inr (.inl qf0))), (a, .inl (cL, Z1.1, .inr (.inl Z1.2)))] t.heap ∧ va_K (dC, dI) classes [(cL, .long)] t ∧ va_D (va_A [(q0, .inl (cL, qn0, .inr (.inl qf0)))] sz) [(q0, .inl (cL, qn0, .inr (.inl qf0))), (a, .inl (cL, Z1.1, .inr (.inl Z1.2)))]) (va_A [(q0, .inl (cL, qn0, .inr (.inl qf0)))] sz)) Zc Zs (va_A [(q0, .inl (cL, qn0, .inr (.inl qf0)))] sz) := by
  refine va_MetF (cc := b_Arrays_copyOfJ) (maxL := 3) (ret := (some (.array .long))) (by decide +kernel) rfl ?_
  intro p e s m args below meth c s₁ B hml hv
  obtain ⟨rfl, hN, hsz, hP, hK, hD0⟩ := hv
  have hx := B.exec
  have hb := B.bytes
  have hr := B.returns
  have hg : ∀ w ∈ lw_g, w.before _ s = true := fun w hw => atoms_spec (ws := .code y_Arrays_copyOfJ b_Arrays_copyOfJ 3 (some (.array .long)) :: lw_g) B.pre w (List.mem_cons_of_mem _ hw)
  have hown : s.vm.findClass R_Arrays = some m.cls := findClass_of_methodNamed B.named
  have hlocks := B.notSynchronized
  clear B
  subst hsz
  have hD := hD0.self (sz := s.heap.size)
  generalize hAe : va_A [(q0, .inl (cL, qn0, .inr (.inl qf0)))] s.heap.size = A at hD ⊢
  have hA : ∀ q : Nat, s.heap.size ≤ q → A q := fun q h => by rw [← hAe]; exact Or.inr h
  have hS : va_S A s.heap s.heap [] := va_S.rf
  have hP : va_P (dC, dI) classes [(q0, .inl (cL, qn0, .inr (.inl qf0)))] s.heap := hP
  have hl := lv_entry ([.ref q0, .int p1]) (n := 3) (Nat.le_of_ble_eq_true rfl)
  rw [lg_entry_eq]
  generalize (lg_sl ([.ref q0, .int p1]) ++ List.replicate (3 - (lg_sl ([.ref q0, .int p1])).length) Slot.unset).toArray = ls at hl ⊢
  have hl : lv_has ls 3 [(0, .ref q0), (1, .int p1)] := hl
  unfold m_Arrays_copyOfJ at h
  have hG : dz_G Z1 Zc Zs (Z1, Zc, Zs) 0 0 := ⟨rfl, (Nat.zero_add _).symm, (Nat.zero_add _).symm⟩
  generalize (Z1, Zc, Zs) = z at h hG
  refine lv_iload_n hx hb d_Arrays_copyOfJ_0 rfl (lv_at hl 1 rfl) ?_
  refine lv_aload_n hx hb d_Arrays_copyOfJ_1 rfl (lv_at hl 0 rfl) ?_
  refine va_alen (D := (dC, dI)) (v := Int32.ofNat qn0) hx hb hK hP 0 0 rfl rfl rfl d_Arrays_copyOfJ_2 ?_
  refine lv_icmp_ne (tgt := 14) hx hb d_Arrays_copyOfJ_3 (by decide) (fun c1 => ?_) (fun c1 => ?_)
  · rw [if_neg c1] at h
    refine lv_iload_n hx hb d_Arrays_copyOfJ_14 rfl (lv_at hl 1 rfl) ?_
    obtain ⟨i2, h⟩ := dz_oi h
    obtain ⟨z, h, hG⟩ := dz_tkG h hG
    refine va_newa (D := (dC, dI)) (atype := .long) (N' := p1.toNatClampNeg) (a0 := (p1.toNatClampNeg, .inr (.inl (fun _ => 0)))) hx hb (hg _ k17) (ty := .long) rfl hK hP hD hS hA (fun _ => rfl) (fun q => i2 (Or.inl q)) rfl (by show _ * 8 ≤ 536870912; have := fun q => i2 (Or.inr q); omega) (dz_Gc hG) (dz_Gs hG) d_Arrays_copyOfJ_15 (fun b2 cA H hK hP hD hS => ?_)
    have hcc : cL = cA := Option.some.inj (((hK.2 0 _ rfl).2).symm.trans (hK.2 1 _ rfl).2)
    subst hcc
    have hK := hK.sub (tys' := [(cL, .long)]) [0] rfl
    have hP : va_P (dC, dI) classes [(q0, .inl (cL, qn0, .inr (.inl qf0))), (b2, .inl (cL, p1.toNatClampNeg, .inr (.inl (fun _ => 0))))] H := hP
    have hD : va_D A [(q0, .inl (cL, qn0, .inr (.inl qf0))), (b2, .inl (cL, p1.toNatClampNeg, .inr (.inl (fun _ => 0))))] := hD
    refine lv_astore_n (lv' := [(2, .ref b2), (0, .ref q0), (1, .int p1)]) hx hb d_Arrays_copyOfJ_17 rfl hl (by decide) rfl (fun ls hl => ?_)
    refine lv_aload_n hx hb d_Arrays_copyOfJ_18 rfl (lv_at hl 1 rfl) ?_
    refine lv_iconst (v := 0) hx hb d_Arrays_copyOfJ_19 (by decide) ?_
    refine lv_aload_n hx hb d_Arrays_copyOfJ_20 rfl (lv_at hl 0 rfl) ?_
    refine lv_iconst (v := 0) hx hb d_Arrays_copyOfJ_21 (by decide) ?_
    refine lv_aload_n hx hb d_Arrays_copyOfJ_22 rfl (lv_at hl 1 rfl) ?_
    refine va_alen (D := (dC, dI)) (v := Int32.ofNat qn0) hx hb hK hP 0 0 rfl rfl rfl d_Arrays_copyOfJ_23 ?_
    refine lv_iload_n hx hb d_Arrays_copyOfJ_24 rfl (lv_at hl 2 rfl) ?_
    obtain ⟨z3_1, hc3, h⟩ := dz_ob h
    try dsimp only at h
    have hPc := hP.sub (ws' := []) [] rfl
    have hKc := hK.sub (tys' := []) [] rfl
    refine vp_callSi (va_Run.run (va_runS (As := [.int (Int32.ofNat qn0), .int p1]) (rest := [.int 0, .ref b2, .int 0, .ref q0]) ⟨hx, hb, hml, hown, hg⟩ (c_Math_min l dC dI N (Int32.ofNat qn0) p1 z3_1 hc3) (va_cwS 2 hg (gd_S k12 k10 k7 k8) rfl rfl rfl (by decide +kernel) ⟨Nat.le_of_ble_eq_true rfl, Nat.le_of_ble_eq_true rfl⟩) ⟨dz_blindR, fun U hU hW => ⟨rfl, dz_Nw hW hN, by rw [hU]; exact hPc, va_K.moved hW.alike hKc⟩⟩ rfl rfl hl.1 rfl (lv_room (Nat.le_of_ble_eq_true rfl)) d_Arrays_copyOfJ_25 ⟨dz_Gc hG, dz_Gs hG⟩)) (fun r3 hw => ?_)
    have hw : z3_1 = r3 := hw.symm
    subst hw
    obtain ⟨i4, h⟩ := dz_oi h
    refine va_copyl (D := (dC, dI)) (ty := .long) hx hb (hml.trans hl.1.symm) hown (hg _ k13) (hg _ k14) (hg _ k15) (hg _ k16) hK hP hD hS 0 1 0 0 rfl rfl rfl rfl rfl (fun q => i4 (Or.inl q)) (fun q => i4 (Or.inr (Or.inl q))) (fun q => i4 (Or.inr (Or.inr (Or.inl q)))) (Nat.not_lt.mp (fun q => i4 (Or.inr (Or.inr (Or.inr (Or.inl q)))))) (Nat.not_lt.mp (fun q => i4 (Or.inr (Or.inr (Or.inr (Or.inr q)))))) (fun _ _ => rfl) (Nat.le_of_ble_eq_true rfl) (by first | exact Nat.le_of_ble_eq_true rfl | (show _ ≤ 60; decide +kernel)) d_Arrays_copyOfJ_28 (fun H locs hP hD hS => ?_)
    have hP : va_P (dC, dI) classes [(q0, .inl (cL, qn0, .inr (.inl qf0))), (b2, .inl (cL, p1.toNatClampNeg, .inr (.inl (va_cpy qf0 (fun _ => 0) (0 : Int32).toNatClampNeg (0 : Int32).toNatClampNeg z3_1.toNatClampNeg))))] H := hP
    have hD : va_D A [(q0, .inl (cL, qn0, .inr (.inl qf0))), (b2, .inl (cL, p1.toNatClampNeg, .inr (.inl (va_cpy qf0 (fun _ => 0) (0 : Int32).toNatClampNeg (0 : Int32).toNatClampNeg z3_1.toNatClampNeg))))] := hD
    refine lv_aload_n hx hb d_Arrays_copyOfJ_31 rfl (lv_at hl 0 rfl) ?_
    obtain rfl := Option.some.inj h
    have hP9 := hP.sub (ws' := [(q0, .inl (cL, qn0, .inr (.inl qf0))), (b2, .inl (cL, p1.toNatClampNeg, .inr (.inl (va_cpy qf0 (fun _ => 0) (0 : Int32).toNatClampNeg (0 : Int32).toNatClampNeg z3_1.toNatClampNeg))))]) [0, 1] rfl
    have hD9 := hD.sub (ws' := [(q0, .inl (cL, qn0, .inr (.inl qf0))), (b2, .inl (cL, p1.toNatClampNeg, .inr (.inl (va_cpy qf0 (fun _ => 0) (0 : Int32).toNatClampNeg (0 : Int32).toNatClampNeg z3_1.toNatClampNeg))))]) [0, 1] (by decide) rfl
    have hK9 := hK.sub (tys' := [(cL, .long)]) [0] rfl
    refine W.widen (dz_Gc hG) (dz_Gs hG) ?_
    obtain ⟨rfl, -, -⟩ := hG
    exact W.aret (v := .ref b2) hx hb hr (Or.inr ⟨_, rfl⟩) (Or.inr ⟨_, rfl⟩) (fun t ht hW => ⟨⟨(), b2, rfl, trivial, by rw [ht]; exact hP9, va_K.moved hW.alike hK9, hD9⟩, hS.F ht⟩) hS.2.2 d_Arrays_copyOfJ_32
  · rw [if_pos c1] at h
    refine lv_aload_n hx hb d_Arrays_copyOfJ_6 rfl (lv_at hl 0 rfl) ?_
    cases h

def m_Arrays_copyOfB (N : Nat) (qn0 : Nat) (qf0 : Nat → Int32) (p1 : Int32) : Option ((Nat × (Nat → Int32)) × Nat × Nat) := (if p1 = (Int32.ofNat qn0) then none else (if p1 < 0 ∨ 536870912 < p1.toNatClampNeg then none else dz_tk 1 p1.toNatClampNeg (((m_Math_min N (Int32.ofNat qn0) p1).bind fun z3_1 => (if (0 : Int32) < 0 ∨ (0 : Int32) < 0 ∨ z3_1 < 0 ∨ qn0 < (0 : Int32).toNatClampNeg + z3_1.toNatClampNeg ∨ p1.toNatClampNeg < (0 : Int32).toNatClampNeg + z3_1.toNatClampNeg then none else (if ¬ (∀ i, i < z3_1.toNatClampNeg → fits .byte (.int (qf0 ((0 : Int32).toNatClampNeg + i))) = true) then none else some ((p1.toNatClampNeg, va_cpy qf0 (fun _ => 0) (0 : Int32).toNatClampNeg (0 : Int32).toNatClampNeg z3_1.toNatClampNeg), 0, 0)))))))
set_option maxHeartbeats 4000000 in
set_option maxRecDepth 100000 in
theorem c_Arrays_copyOfB (l : Launch) (dC : Nat → ClassId) (dI : Nat → Nat → Nat) (N : Nat) (cB : ClassId) (q0 : Nat) (qn0 : Nat) (qf0 : Nat → Int32) (p1 : Int32) (sz : Nat) (Z1 : Nat × (Nat → Int32)) (Zc Zs : Nat) (h : m_Arrays_copyOfB N qn0 qf0 p1 = some (Z1, Zc, Zs)) : Met l y_Arrays_copyOfB (.code y_Arrays_copyOfB b_Arrays_copyOfB 3 (some (.array .byte)) :: lw_g) ({ frames := 1, cells := Zc, slots := Zs, locals := 60 }) (va_Pc [.ref q0, .int p1] (fun U => dz_N U ∧ U.heap.size = sz ∧ va_P (dC, dI) classes [(q0, .inl (cB, qn0, .inl qf0))] U.heap ∧ va_K (dC, dI) classes [(cB, .byte)] U ∧ va_D (fun _ => True) [(q0, .inl (cB, qn0, .inl qf0))])) (va_Qr (fun (_ : Unit) => True) (fun (u : Unit) a t => va_P (dC, dI) classes [(q0, .inl (cB, qn0, .inl qf0)), (a, .inl (cB, Z1.1, .inl Z1.2))] t.heap ∧ va_K (dC, dI) classes [(cB, .byte)] t ∧ va_D (va_A [(q0, .inl (cB, qn0, .inl qf0))] sz) [(q0, .inl (cB, qn0, .inl qf0)), (a, .inl (cB, Z1.1, .inl Z1.2))]) (va_A [(q0, .inl (cB, qn0, .inl qf0))] sz)) Zc Zs (va_A [(q0, .inl (cB, qn0, .inl qf0))] sz) := by
  refine va_MetF (cc := b_Arrays_copyOfB) (maxL := 3) (ret := (some (.array .byte))) (by decide +kernel) rfl ?_
  intro p e s m args below meth c s₁ B hml hv
  obtain ⟨rfl, hN, hsz, hP, hK, hD0⟩ := hv
  have hx := B.exec
  have hb := B.bytes
  have hr := B.returns
  have hg : ∀ w ∈ lw_g, w.before _ s = true := fun w hw => atoms_spec (ws := .code y_Arrays_copyOfB b_Arrays_copyOfB 3 (some (.array .byte)) :: lw_g) B.pre w (List.mem_cons_of_mem _ hw)
  have hown : s.vm.findClass R_Arrays = some m.cls := findClass_of_methodNamed B.named
  have hlocks := B.notSynchronized
  clear B
  subst hsz
  have hD := hD0.self (sz := s.heap.size)
  generalize hAe : va_A [(q0, .inl (cB, qn0, .inl qf0))] s.heap.size = A at hD ⊢
  have hA : ∀ q : Nat, s.heap.size ≤ q → A q := fun q h => by rw [← hAe]; exact Or.inr h
  have hS : va_S A s.heap s.heap [] := va_S.rf
  have hP : va_P (dC, dI) classes [(q0, .inl (cB, qn0, .inl qf0))] s.heap := hP
  have hl := lv_entry ([.ref q0, .int p1]) (n := 3) (Nat.le_of_ble_eq_true rfl)
  rw [lg_entry_eq]
  generalize (lg_sl ([.ref q0, .int p1]) ++ List.replicate (3 - (lg_sl ([.ref q0, .int p1])).length) Slot.unset).toArray = ls at hl ⊢
  have hl : lv_has ls 3 [(0, .ref q0), (1, .int p1)] := hl
  unfold m_Arrays_copyOfB at h
  have hG : dz_G Z1 Zc Zs (Z1, Zc, Zs) 0 0 := ⟨rfl, (Nat.zero_add _).symm, (Nat.zero_add _).symm⟩
  generalize (Z1, Zc, Zs) = z at h hG
  refine lv_iload_n hx hb d_Arrays_copyOfB_0 rfl (lv_at hl 1 rfl) ?_
  refine lv_aload_n hx hb d_Arrays_copyOfB_1 rfl (lv_at hl 0 rfl) ?_
  refine va_alen (D := (dC, dI)) (v := Int32.ofNat qn0) hx hb hK hP 0 0 rfl rfl rfl d_Arrays_copyOfB_2 ?_
  refine lv_icmp_ne (tgt := 14) hx hb d_Arrays_copyOfB_3 (by decide) (fun c1 => ?_) (fun c1 => ?_)
  · rw [if_neg c1] at h
    refine lv_iload_n hx hb d_Arrays_copyOfB_14 rfl (lv_at hl 1 rfl) ?_
    obtain ⟨i2, h⟩ := dz_oi h
    obtain ⟨z, h, hG⟩ := dz_tkG h hG
    refine va_newa (D := (dC, dI)) (atype := .byte) (N' := p1.toNatClampNeg) (a0 := (p1.toNatClampNeg, .inl (fun _ => 0))) hx hb (hg _ k18) (ty := .byte) rfl hK hP hD hS hA (fun _ => rfl) (fun q => i2 (Or.inl q)) rfl (by show _ * 1 ≤ 536870912; have := fun q => i2 (Or.inr q); omega) (dz_Gc hG) (dz_Gs hG) d_Arrays_copyOfB_15 (fun b2 cA H hK hP hD hS => ?_)
    have hcc : cB = cA := Option.some.inj (((hK.2 0 _ rfl).2).symm.trans (hK.2 1 _ rfl).2)
    subst hcc
    have hK := hK.sub (tys' := [(cB, .byte)]) [0] rfl
    have hP : va_P (dC, dI) classes [(q0, .inl (cB, qn0, .inl qf0)), (b2, .inl (cB, p1.toNatClampNeg, .inl (fun _ => 0)))] H := hP
    have hD : va_D A [(q0, .inl (cB, qn0, .inl qf0)), (b2, .inl (cB, p1.toNatClampNeg, .inl (fun _ => 0)))] := hD
    refine lv_astore_n (lv' := [(2, .ref b2), (0, .ref q0), (1, .int p1)]) hx hb d_Arrays_copyOfB_17 rfl hl (by decide) rfl (fun ls hl => ?_)
    refine lv_aload_n hx hb d_Arrays_copyOfB_18 rfl (lv_at hl 1 rfl) ?_
    refine lv_iconst (v := 0) hx hb d_Arrays_copyOfB_19 (by decide) ?_
    refine lv_aload_n hx hb d_Arrays_copyOfB_20 rfl (lv_at hl 0 rfl) ?_
    refine lv_iconst (v := 0) hx hb d_Arrays_copyOfB_21 (by decide) ?_
    refine lv_aload_n hx hb d_Arrays_copyOfB_22 rfl (lv_at hl 1 rfl) ?_
    refine va_alen (D := (dC, dI)) (v := Int32.ofNat qn0) hx hb hK hP 0 0 rfl rfl rfl d_Arrays_copyOfB_23 ?_
    refine lv_iload_n hx hb d_Arrays_copyOfB_24 rfl (lv_at hl 2 rfl) ?_
    obtain ⟨z3_1, hc3, h⟩ := dz_ob h
    try dsimp only at h
    have hPc := hP.sub (ws' := []) [] rfl
    have hKc := hK.sub (tys' := []) [] rfl
    refine vp_callSi (va_Run.run (va_runS (As := [.int (Int32.ofNat qn0), .int p1]) (rest := [.int 0, .ref b2, .int 0, .ref q0]) ⟨hx, hb, hml, hown, hg⟩ (c_Math_min l dC dI N (Int32.ofNat qn0) p1 z3_1 hc3) (va_cwS 2 hg (gd_S k12 k10 k7 k8) rfl rfl rfl (by decide +kernel) ⟨Nat.le_of_ble_eq_true rfl, Nat.le_of_ble_eq_true rfl⟩) ⟨dz_blindR, fun U hU hW => ⟨rfl, dz_Nw hW hN, by rw [hU]; exact hPc, va_K.moved hW.alike hKc⟩⟩ rfl rfl hl.1 rfl (lv_room (Nat.le_of_ble_eq_true rfl)) d_Arrays_copyOfB_25 ⟨dz_Gc hG, dz_Gs hG⟩)) (fun r3 hw => ?_)
    have hw : z3_1 = r3 := hw.symm
    subst hw
    obtain ⟨i4, h⟩ := dz_oi h
    obtain ⟨j4, h⟩ := dz_oi h
    refine va_copyi (D := (dC, dI)) (ty := .byte) hx hb (hml.trans hl.1.symm) hown (hg _ k13) (hg _ k14) (hg _ k15) (hg _ k16) hK hP hD hS 0 1 0 0 rfl rfl rfl rfl rfl (fun q => i4 (Or.inl q)) (fun q => i4 (Or.inr (Or.inl q))) (fun q => i4 (Or.inr (Or.inr (Or.inl q)))) (Nat.not_lt.mp (fun q => i4 (Or.inr (Or.inr (Or.inr (Or.inl q)))))) (Nat.not_lt.mp (fun q => i4 (Or.inr (Or.inr (Or.inr (Or.inr q)))))) (Decidable.not_not.mp j4) (Nat.le_of_ble_eq_true rfl) (by first | exact Nat.le_of_ble_eq_true rfl | (show _ ≤ 60; decide +kernel)) d_Arrays_copyOfB_28 (fun H locs hP hD hS => ?_)
    have hP : va_P (dC, dI) classes [(q0, .inl (cB, qn0, .inl qf0)), (b2, .inl (cB, p1.toNatClampNeg, .inl (va_cpy qf0 (fun _ => 0) (0 : Int32).toNatClampNeg (0 : Int32).toNatClampNeg z3_1.toNatClampNeg)))] H := hP
    have hD : va_D A [(q0, .inl (cB, qn0, .inl qf0)), (b2, .inl (cB, p1.toNatClampNeg, .inl (va_cpy qf0 (fun _ => 0) (0 : Int32).toNatClampNeg (0 : Int32).toNatClampNeg z3_1.toNatClampNeg)))] := hD
    refine lv_aload_n hx hb d_Arrays_copyOfB_31 rfl (lv_at hl 0 rfl) ?_
    obtain rfl := Option.some.inj h
    have hP9 := hP.sub (ws' := [(q0, .inl (cB, qn0, .inl qf0)), (b2, .inl (cB, p1.toNatClampNeg, .inl (va_cpy qf0 (fun _ => 0) (0 : Int32).toNatClampNeg (0 : Int32).toNatClampNeg z3_1.toNatClampNeg)))]) [0, 1] rfl
    have hD9 := hD.sub (ws' := [(q0, .inl (cB, qn0, .inl qf0)), (b2, .inl (cB, p1.toNatClampNeg, .inl (va_cpy qf0 (fun _ => 0) (0 : Int32).toNatClampNeg (0 : Int32).toNatClampNeg z3_1.toNatClampNeg)))]) [0, 1] (by decide) rfl
    have hK9 := hK.sub (tys' := [(cB, .byte)]) [0] rfl
    refine W.widen (dz_Gc hG) (dz_Gs hG) ?_
    obtain ⟨rfl, -, -⟩ := hG
    exact W.aret (v := .ref b2) hx hb hr (Or.inr ⟨_, rfl⟩) (Or.inr ⟨_, rfl⟩) (fun t ht hW => ⟨⟨(), b2, rfl, trivial, by rw [ht]; exact hP9, va_K.moved hW.alike hK9, hD9⟩, hS.F ht⟩) hS.2.2 d_Arrays_copyOfB_32
  · rw [if_pos c1] at h
    refine lv_aload_n hx hb d_Arrays_copyOfB_6 rfl (lv_at hl 0 rfl) ?_
    cases h

def m_Arrays_rangeCheck (N : Nat) (p0 : Int32) (p1 : Int32) (p2 : Int32) : Option (Unit) := (if p1 ≤ p2 then (if 0 ≤ p1 then (if p2 ≤ p0 then some () else none) else none) else none)
set_option maxHeartbeats 4000000 in
set_option maxRecDepth 100000 in
theorem c_Arrays_rangeCheck (l : Launch) (dC : Nat → ClassId) (dI : Nat → Nat → Nat) (N : Nat) (p0 : Int32) (p1 : Int32) (p2 : Int32) (z : Unit) (h : m_Arrays_rangeCheck N p0 p1 p2 = some z) : Met l y_Arrays_rangeCheck (.code y_Arrays_rangeCheck b_Arrays_rangeCheck 3 none :: lw_g) ({ frames := 0, cells := 0, slots := 0, locals := 0 }) (va_Pc [.int p0, .int p1, .int p2] (fun U => dz_N U ∧ va_P (dC, dI) classes [] U.heap ∧ va_K (dC, dI) classes [] U)) (va_Sv (fun _ => True)) 0 0 (fun _ => False) := by
  refine va_MetF (cc := b_Arrays_rangeCheck) (maxL := 3) (ret := none) (by decide +kernel) rfl ?_
  intro p e s m args below meth c s₁ B hml hv
  obtain ⟨rfl, hN, hP, hK⟩ := hv
  have hx := B.exec
  have hb := B.bytes
  have hr := B.returns
  have hg : ∀ w ∈ lw_g, w.before _ s = true := fun w hw => atoms_spec (ws := .code y_Arrays_rangeCheck b_Arrays_rangeCheck 3 none :: lw_g) B.pre w (List.mem_cons_of_mem _ hw)
  have hown : s.vm.findClass R_Arrays = some m.cls := findClass_of_methodNamed B.named
  have hlocks := B.notSynchronized
  clear B
  have hP : va_P (dC, dI) classes [] s.heap := hP
  have hl := lv_entry ([.int p0, .int p1, .int p2]) (n := 3) (Nat.le_of_ble_eq_true rfl)
  rw [lg_entry_eq]
  generalize (lg_sl ([.int p0, .int p1, .int p2]) ++ List.replicate (3 - (lg_sl ([.int p0, .int p1, .int p2])).length) Slot.unset).toArray = ls at hl ⊢
  have hl : lv_has ls 3 [(0, .int p0), (1, .int p1), (2, .int p2)] := hl
  unfold m_Arrays_rangeCheck at h
  refine lv_iload_n hx hb d_Arrays_rangeCheck_0 rfl (lv_at hl 1 rfl) ?_
  refine lv_iload_n hx hb d_Arrays_rangeCheck_1 rfl (lv_at hl 2 rfl) ?_
  refine lv_icmp_le (tgt := 46) hx hb d_Arrays_rangeCheck_2 (by decide) (fun c1 => ?_) (fun c1 => ?_)
  · rw [if_pos c1] at h
    refine lv_iload_n hx hb d_Arrays_rangeCheck_46 rfl (lv_at hl 1 rfl) ?_
    refine lv_if_ge (tgt := 59) hx hb d_Arrays_rangeCheck_47 (by decide) (fun c2 => ?_) (fun c2 => ?_)
    · rw [if_pos c2] at h
      refine lv_iload_n hx hb d_Arrays_rangeCheck_59 rfl (lv_at hl 2 rfl) ?_
      refine lv_iload_n hx hb d_Arrays_rangeCheck_60 rfl (lv_at hl 0 rfl) ?_
      refine lv_icmp_le (tgt := 73) hx hb d_Arrays_rangeCheck_61 (by decide) (fun c3 => ?_) (fun c3 => ?_)
      · rw [if_pos c3] at h
        obtain rfl := Option.some.inj h
        exact W.vret hx hb hr (fun t ht hW => ⟨rfl, trivial, ht⟩) (fun _ h => by cases h) d_Arrays_rangeCheck_73
      · rw [if_neg c3] at h
        cases h
    · rw [if_neg c2] at h
      cases h
  · rw [if_neg c1] at h
    cases h

def lm_Arrays_fill_1 {ζ : Type} (N : Nat) (qn0 : Nat) (p2 : Int32) (p3 : Int64) (k1_27 : Int32 → (Nat → Int64) → Option (ζ)) : Nat → Int32 → (Nat → Int64) → Option (ζ)
  | 0, _, _ => none
  | n1 + 1, v1_5, w1_f_qf0 => (if p2 ≤ v1_5 then k1_27 v1_5 w1_f_qf0 else (if v1_5 < 0 ∨ qn0 ≤ v1_5.toNatClampNeg then none else lm_Arrays_fill_1 N qn0 p2 p3 k1_27 n1 (v1_5 + 1) (vp_updL w1_f_qf0 v1_5.toNatClampNeg p3)))
set_option maxHeartbeats 4000000 in
set_option maxRecDepth 100000 in
theorem l_Arrays_fill_1 {p : Program} {l : Launch} {e : Env} {s : State} {m : MethodId} {args : Array Value} {below : List Frame} {meth : Method} {c : Code} {Q : State → Prop} {A : Nat → Prop} (dC : Nat → ClassId) (dI : Nat → Nat → Nat) (N : Nat) (cL : ClassId) (q0 : Nat) (qn0 : Nat) (p1 : Int32) (p2 : Int32) (p3 : Int64) {ζ : Type} {z : ζ} (hx : p.tables.exec = Jvm.exec) (hb : c.code = b_Arrays_fill) (hml : c.maxLocals = 6) (hown : s.vm.findClass R_Arrays = some m.cls) (hg : ∀ w ∈ lw_g, w.before args s = true) (hN : dz_N s) (hK : va_K (dC, dI) classes [(cL, .long)] s) (hA : ∀ q : Nat, s.heap.size ≤ q → A q) {k1_27 : Int32 → (Nat → Int64) → Option (ζ)} (hk1_27 : ∀ (v1_5 : Int32) (w1_f_qf0 : (Nat → Int64))   (H : Heap) (locs : List Loc) (ls : Array Slot), k1_27 v1_5 w1_f_qf0 = some z → va_P (dC, dI) classes [(q0, .inl (cL, qn0, .inr (.inl w1_f_qf0)))] H → va_D A [(q0, .inl (cL, qn0, .inr (.inl w1_f_qf0)))] → va_S A s.heap H locs → lv_has ls 6 [(5, .int v1_5), (0, .ref q0), (1, .int p1), (2, .int p2), (3, .long p3)] → W p l e ({ frames := 1, cells := 0, slots := 0, locals := 22 } : Room) s m args below meth c H locs 0 0 Q (F0 m 27 ls [])) : ∀ (n1 : Nat) (v1_5 : Int32) (w1_f_qf0 : (Nat → Int64))   (H : Heap) (locs : List Loc) (ls : Array Slot), lm_Arrays_fill_1 N qn0 p2 p3 k1_27 n1 v1_5 w1_f_qf0 = some z → va_P (dC, dI) classes [(q0, .inl (cL, qn0, .inr (.inl w1_f_qf0)))] H → va_D A [(q0, .inl (cL, qn0, .inr (.inl w1_f_qf0)))] → va_S A s.heap H locs → lv_has ls 6 [(5, .int v1_5), (0, .ref q0), (1, .int p1), (2, .int p2), (3, .long p3)] → W p l e ({ frames := 1, cells := 0, slots := 0, locals := 22 } : Room) s m args below meth c H locs 0 0 Q (F0 m 10 ls []) := by
  intro n1
  induction n1 with
  | zero =>
    intro v1_5 w1_f_qf0 H locs ls h hP hD hS hl
    rw [lm_Arrays_fill_1] at h
    cases h
  | succ n1 ih1 =>
    intro v1_5 w1_f_qf0 H locs ls h hP hD hS hl
    rw [lm_Arrays_fill_1] at h
    refine lv_iload hx hb d_Arrays_fill_10 (lv_at hl 0 rfl) ?_
    refine lv_iload_n hx hb d_Arrays_fill_12 rfl (lv_at hl 3 rfl) ?_
    refine lv_icmp_ge (tgt := 27) hx hb d_Arrays_fill_13 (by decide) (fun c2 => ?_) (fun c2 => ?_)
    · rw [if_pos c2] at h
      exact hk1_27 v1_5 w1_f_qf0 _ _ _ h (hP.sub [0] rfl) (hD.sub [0] (by decide) rfl) hS (lv_sub hl [0, 1, 2, 3, 4] rfl)
    · rw [if_neg c2] at h
      refine lv_aload_n hx hb d_Arrays_fill_16 rfl (lv_at hl 1 rfl) ?_
      refine lv_iload hx hb d_Arrays_fill_17 (lv_at hl 0 rfl) ?_
      refine lv_lload_n hx hb d_Arrays_fill_19 rfl (lv_at hl 4 rfl) ?_
      obtain ⟨i3, h⟩ := dz_oi h
      refine va_last (D := (dC, dI)) hx hb hK hP hD hS 0 0 rfl rfl i3 d_Arrays_fill_20 (fun H locs hP hD hS => ?_)
      have hP : va_P (dC, dI) classes [(q0, .inl (cL, qn0, .inr (.inl (vp_updL w1_f_qf0 v1_5.toNatClampNeg p3))))] H := hP
      have hD : va_D A [(q0, .inl (cL, qn0, .inr (.inl (vp_updL w1_f_qf0 v1_5.toNatClampNeg p3))))] := hD
      refine lv_iinc (v := v1_5 + 1) (lv' := [(5, .int (v1_5 + 1)), (0, .ref q0), (1, .int p1), (2, .int p2), (3, .long p3)]) hx hb d_Arrays_fill_21 hl (k := 0) rfl rfl (by decide) rfl (fun ls hl => ?_)
      refine lv_goto (tgt := 10) hx hb d_Arrays_fill_24 (by decide) ?_
      exact ih1 (v1_5 + 1) (vp_updL w1_f_qf0 v1_5.toNatClampNeg p3) _ _ _ h (hP.sub [0] rfl) (hD.sub [0] (by decide) rfl) hS (lv_sub hl [0, 1, 2, 3, 4] rfl)
def m_Arrays_fill (N : Nat) (qn0 : Nat) (qf0 : Nat → Int64) (p1 : Int32) (p2 : Int32) (p3 : Int64) : Option ((Nat → Int64)) := ((m_Arrays_rangeCheck N (Int32.ofNat qn0) p1 p2).bind fun _ => lm_Arrays_fill_1 N qn0 p2 p3 (fun (v1_5 : Int32) (w1_f_qf0 : (Nat → Int64)) => some w1_f_qf0) N p1 qf0)
set_option maxHeartbeats 4000000 in
set_option maxRecDepth 100000 in
theorem c_Arrays_fill (l : Launch) (dC : Nat → ClassId) (dI : Nat → Nat → Nat) (N : Nat) (cL : ClassId) (q0 : Nat) (qn0 : Nat) (qf0 : Nat → Int64) (p1 : Int32) (p2 : Int32) (p3 : Int64) (sz : Nat) (z : (Nat → Int64)) (h : m_Arrays_fill N qn0 qf0 p1 p2 p3 = some z) : Met l y_Arrays_fill (.code y_Arrays_fill b_Arrays_fill 6 none :: lw_g) ({ frames := 1, cells := 0, slots := 0, locals := 22 }) (va_Pc [.ref q0, .int p1, .int p2, .long p3] (fun U => dz_N U ∧ U.heap.size = sz ∧ va_P (dC, dI) classes [(q0, .inl (cL, qn0, .inr (.inl qf0)))] U.heap ∧ va_K (dC, dI) classes [(cL, .long)] U ∧ va_D (fun _ => True) [(q0, .inl (cL, qn0, .inr (.inl qf0)))])) (va_Qv (fun (_ : Unit) => True) (fun (u : Unit) t => va_P (dC, dI) classes [(q0, .inl (cL, qn0, .inr (.inl z)))] t.heap ∧ va_K (dC, dI) classes [(cL, .long)] t ∧ va_D (va_A [(q0, .inl (cL, qn0, .inr (.inl qf0)))] sz) [(q0, .inl (cL, qn0, .inr (.inl z)))]) (va_A [(q0, .inl (cL, qn0, .inr (.inl qf0)))] sz)) 0 0 (va_A [(q0, .inl (cL, qn0, .inr (.inl qf0)))] sz) := by
  refine va_MetF (cc := b_Arrays_fill) (maxL := 6) (ret := none) (by decide +kernel) rfl ?_
  intro p e s m args below meth c s₁ B hml hv
  obtain ⟨rfl, hN, hsz, hP, hK, hD0⟩ := hv
  have hx := B.exec
  have hb := B.bytes
  have hr := B.returns
  have hg : ∀ w ∈ lw_g, w.before _ s = true := fun w hw => atoms_spec (ws := .code y_Arrays_fill b_Arrays_fill 6 none :: lw_g) B.pre w (List.mem_cons_of_mem _ hw)
  have hown : s.vm.findClass R_Arrays = some m.cls := findClass_of_methodNamed B.named
  have hlocks := B.notSynchronized
  clear B
  subst hsz
  have hD := hD0.self (sz := s.heap.size)
  generalize hAe : va_A [(q0, .inl (cL, qn0, .inr (.inl qf0)))] s.heap.size = A at hD ⊢
  have hA : ∀ q : Nat, s.heap.size ≤ q → A q := fun q h => by rw [← hAe]; exact Or.inr h
  have hS : va_S A s.heap s.heap [] := va_S.rf
  have hP : va_P (dC, dI) classes [(q0, .inl (cL, qn0, .inr (.inl qf0)))] s.heap := hP
  have hl := lv_entry ([.ref q0, .int p1, .int p2, .long p3]) (n := 6) (Nat.le_of_ble_eq_true rfl)
  rw [lg_entry_eq]
  generalize (lg_sl ([.ref q0, .int p1, .int p2, .long p3]) ++ List.replicate (6 - (lg_sl ([.ref q0, .int p1, .int p2, .long p3])).length) Slot.unset).toArray = ls at hl ⊢
  have hl : lv_has ls 6 [(0, .ref q0), (1, .int p1), (2, .int p2), (3, .long p3)] := hl
  unfold m_Arrays_fill at h
  refine lv_aload_n hx hb d_Arrays_fill_0 rfl (lv_at hl 0 rfl) ?_
  refine va_alen (D := (dC, dI)) (v := Int32.ofNat qn0) hx hb hK hP 0 0 rfl rfl rfl d_Arrays_fill_1 ?_
  refine lv_iload_n hx hb d_Arrays_fill_2 rfl (lv_at hl 1 rfl) ?_
  refine lv_iload_n hx hb d_Arrays_fill_3 rfl (lv_at hl 2 rfl) ?_
  obtain ⟨⟨⟩, hc1, h⟩ := dz_ob h
  try dsimp only at h
  have hPc := hP.sub (ws' := []) [] rfl
  have hKc := hK.sub (tys' := []) [] rfl
  refine va_csv (va_Run.run (va_runS (As := [.int (Int32.ofNat qn0), .int p1, .int p2]) (rest := []) ⟨hx, hb, hml, hown, hg⟩ (c_Arrays_rangeCheck l dC dI N (Int32.ofNat qn0) p1 p2 () hc1) (va_cwS 3 hg (gd_S k20 k21 k22 k19) rfl rfl rfl (by decide +kernel) ⟨Nat.le_of_ble_eq_true rfl, Nat.le_of_ble_eq_true rfl⟩) ⟨dz_blindR, fun U hU hW => ⟨rfl, dz_Nw hW hN, by rw [hU]; exact hPc, va_K.moved hW.alike hKc⟩⟩ rfl rfl hl.1 rfl (lv_room (Nat.le_of_ble_eq_true rfl)) d_Arrays_fill_4 ⟨Nat.le_of_ble_eq_true rfl, Nat.le_of_ble_eq_true rfl⟩)) (fun hw => ?_)
  refine lv_iload_n hx hb d_Arrays_fill_7 rfl (lv_at hl 1 rfl) ?_
  refine lv_istore (lv' := [(5, .int p1), (0, .ref q0), (1, .int p1), (2, .int p2), (3, .long p3)]) hx hb d_Arrays_fill_8 hl (by decide) rfl (fun ls hl => ?_)
  refine l_Arrays_fill_1 dC dI N cL q0 qn0 p1 p2 p3 hx hb hml hown hg hN hK hA (fun v1_5 w1_f_qf0 H locs ls h hP hD hS hl => ?_) N p1 qf0 _ _ _ h (hP.sub [0] rfl) (hD.sub [0] (by decide) rfl) hS (lv_sub hl [0, 1, 2, 3, 4] rfl)
  obtain rfl := Option.some.inj h
  have hP9 := hP.sub (ws' := [(q0, .inl (cL, qn0, .inr (.inl w1_f_qf0)))]) [0] rfl
  have hD9 := hD.sub (ws' := [(q0, .inl (cL, qn0, .inr (.inl w1_f_qf0)))]) [0] (by decide) rfl
  have hK9 := hK.sub (tys' := [(cL, .long)]) [0] rfl
  exact W.vret hx hb hr (fun t ht hW => ⟨⟨(), rfl, trivial, by rw [ht]; exact hP9, va_K.moved hW.alike hK9, hD9⟩, hS.F ht⟩) hS.2.2 d_Arrays_fill_27
end
section
theorem d_Program_append_0 : decode b_Program_append 0 = .ok (.aload_n 0, 1) := by decide +kernel
theorem d_Program_append_1 : decode b_Program_append 1 = .ok (.getfield 22, 3) := by decide +kernel
theorem d_Program_append_4 : decode b_Program_append 4 = .ok (.ldc 26, 2) := by decide +kernel
theorem d_Program_append_6 : decode b_Program_append 6 = .ok (.if_icmp .lt 6, 3) := by decide +kernel
theorem d_Program_append_9 : decode b_Program_append 9 = .ok (.bipush (-2), 2) := by decide +kernel
theorem d_Program_append_11 : decode b_Program_append 11 = .ok (.ireturn, 1) := by decide +kernel
theorem d_Program_append_12 : decode b_Program_append 12 = .ok (.aload_n 0, 1) := by decide +kernel
theorem d_Program_append_13 : decode b_Program_append 13 = .ok (.getfield 22, 3) := by decide +kernel
theorem d_Program_append_16 : decode b_Program_append 16 = .ok (.aload_n 0, 1) := by decide +kernel
theorem d_Program_append_17 : decode b_Program_append 17 = .ok (.getfield 9, 3) := by decide +kernel
theorem d_Program_append_20 : decode b_Program_append 20 = .ok (.arraylength, 1) := by decide +kernel
theorem d_Program_append_21 : decode b_Program_append 21 = .ok (.if_icmp .lt 30, 3) := by decide +kernel
theorem d_Program_append_24 : decode b_Program_append 24 = .ok (.aload_n 0, 1) := by decide +kernel
theorem d_Program_append_25 : decode b_Program_append 25 = .ok (.aload_n 0, 1) := by decide +kernel
theorem d_Program_append_26 : decode b_Program_append 26 = .ok (.getfield 9, 3) := by decide +kernel
theorem d_Program_append_29 : decode b_Program_append 29 = .ok (.aload_n 0, 1) := by decide +kernel
theorem d_Program_append_30 : decode b_Program_append 30 = .ok (.getfield 9, 3) := by decide +kernel
theorem d_Program_append_33 : decode b_Program_append 33 = .ok (.arraylength, 1) := by decide +kernel
theorem d_Program_append_34 : decode b_Program_append 34 = .ok (.aload_n 0, 1) := by decide +kernel
theorem d_Program_append_35 : decode b_Program_append 35 = .ok (.getfield 22, 3) := by decide +kernel
theorem d_Program_append_38 : decode b_Program_append 38 = .ok (.iconst 1, 1) := by decide +kernel
theorem d_Program_append_39 : decode b_Program_append 39 = .ok (.iadd, 1) := by decide +kernel
theorem d_Program_append_40 : decode b_Program_append 40 = .ok (.ldc 26, 2) := by decide +kernel
theorem d_Program_append_42 : decode b_Program_append 42 = .ok (.invokestatic 27, 3) := by decide +kernel
theorem d_Program_append_45 : decode b_Program_append 45 = .ok (.invokestatic 31, 3) := by decide +kernel
theorem d_Program_append_48 : decode b_Program_append 48 = .ok (.putfield 9, 3) := by decide +kernel
theorem d_Program_append_51 : decode b_Program_append 51 = .ok (.aload_n 0, 1) := by decide +kernel
theorem d_Program_append_52 : decode b_Program_append 52 = .ok (.getfield 9, 3) := by decide +kernel
theorem d_Program_append_55 : decode b_Program_append 55 = .ok (.aload_n 0, 1) := by decide +kernel
theorem d_Program_append_56 : decode b_Program_append 56 = .ok (.dup, 1) := by decide +kernel
theorem d_Program_append_57 : decode b_Program_append 57 = .ok (.getfield 22, 3) := by decide +kernel
theorem d_Program_append_60 : decode b_Program_append 60 = .ok (.dup_x1, 1) := by decide +kernel
theorem d_Program_append_61 : decode b_Program_append 61 = .ok (.iconst 1, 1) := by decide +kernel
theorem d_Program_append_62 : decode b_Program_append 62 = .ok (.iadd, 1) := by decide +kernel
theorem d_Program_append_63 : decode b_Program_append 63 = .ok (.putfield 22, 3) := by decide +kernel
theorem d_Program_append_66 : decode b_Program_append 66 = .ok (.iload_n 1, 1) := by decide +kernel
theorem d_Program_append_67 : decode b_Program_append 67 = .ok (.iastore, 1) := by decide +kernel
theorem d_Program_append_68 : decode b_Program_append 68 = .ok (.aload_n 0, 1) := by decide +kernel
theorem d_Program_append_69 : decode b_Program_append 69 = .ok (.getfield 22, 3) := by decide +kernel
theorem d_Program_append_72 : decode b_Program_append 72 = .ok (.ireturn, 1) := by decide +kernel
theorem d_Program_shorten_0 : decode b_Program_shorten 0 = .ok (.iload_n 1, 1) := by decide +kernel
theorem d_Program_shorten_1 : decode b_Program_shorten 1 = .ok (.ifCond .lt 11, 3) := by decide +kernel
theorem d_Program_shorten_4 : decode b_Program_shorten 4 = .ok (.iload_n 1, 1) := by decide +kernel
theorem d_Program_shorten_5 : decode b_Program_shorten 5 = .ok (.aload_n 0, 1) := by decide +kernel
theorem d_Program_shorten_6 : decode b_Program_shorten 6 = .ok (.getfield 22, 3) := by decide +kernel
theorem d_Program_shorten_9 : decode b_Program_shorten 9 = .ok (.if_icmp .le 5, 3) := by decide +kernel
theorem d_Program_shorten_12 : decode b_Program_shorten 12 = .ok (.iconst (-1), 1) := by decide +kernel
theorem d_Program_shorten_13 : decode b_Program_shorten 13 = .ok (.ireturn, 1) := by decide +kernel
theorem d_Program_shorten_14 : decode b_Program_shorten 14 = .ok (.aload_n 0, 1) := by decide +kernel
theorem d_Program_shorten_15 : decode b_Program_shorten 15 = .ok (.iload_n 1, 1) := by decide +kernel
theorem d_Program_shorten_16 : decode b_Program_shorten 16 = .ok (.putfield 22, 3) := by decide +kernel
theorem d_Program_shorten_19 : decode b_Program_shorten 19 = .ok (.aload_n 0, 1) := by decide +kernel
theorem d_Program_shorten_20 : decode b_Program_shorten 20 = .ok (.getfield 22, 3) := by decide +kernel
theorem d_Program_shorten_23 : decode b_Program_shorten 23 = .ok (.ireturn, 1) := by decide +kernel
theorem d_Program_bytesBeforeZero_0 : decode b_Program_bytesBeforeZero 0 = .ok (.iconst 0, 1) := by decide +kernel
theorem d_Program_bytesBeforeZero_1 : decode b_Program_bytesBeforeZero 1 = .ok (.istore_n 3, 1) := by decide +kernel
theorem d_Program_bytesBeforeZero_2 : decode b_Program_bytesBeforeZero 2 = .ok (.iload_n 3, 1) := by decide +kernel
theorem d_Program_bytesBeforeZero_3 : decode b_Program_bytesBeforeZero 3 = .ok (.bipush 8, 2) := by decide +kernel
theorem d_Program_bytesBeforeZero_5 : decode b_Program_bytesBeforeZero 5 = .ok (.if_icmp .ge 26, 3) := by decide +kernel
theorem d_Program_bytesBeforeZero_8 : decode b_Program_bytesBeforeZero 8 = .ok (.lload_n 1, 1) := by decide +kernel
theorem d_Program_bytesBeforeZero_9 : decode b_Program_bytesBeforeZero 9 = .ok (.bipush 8, 2) := by decide +kernel
theorem d_Program_bytesBeforeZero_11 : decode b_Program_bytesBeforeZero 11 = .ok (.iload_n 3, 1) := by decide +kernel
theorem d_Program_bytesBeforeZero_12 : decode b_Program_bytesBeforeZero 12 = .ok (.imul, 1) := by decide +kernel
theorem d_Program_bytesBeforeZero_13 : decode b_Program_bytesBeforeZero 13 = .ok (.lushr, 1) := by decide +kernel
theorem d_Program_bytesBeforeZero_14 : decode b_Program_bytesBeforeZero 14 = .ok (.ldc2_w 51, 3) := by decide +kernel
theorem d_Program_bytesBeforeZero_17 : decode b_Program_bytesBeforeZero 17 = .ok (.land, 1) := by decide +kernel
theorem d_Program_bytesBeforeZero_18 : decode b_Program_bytesBeforeZero 18 = .ok (.lconst 0, 1) := by decide +kernel
theorem d_Program_bytesBeforeZero_19 : decode b_Program_bytesBeforeZero 19 = .ok (.lcmp, 1) := by decide +kernel
theorem d_Program_bytesBeforeZero_20 : decode b_Program_bytesBeforeZero 20 = .ok (.ifCond .ne 5, 3) := by decide +kernel
theorem d_Program_bytesBeforeZero_23 : decode b_Program_bytesBeforeZero 23 = .ok (.iload_n 3, 1) := by decide +kernel
theorem d_Program_bytesBeforeZero_24 : decode b_Program_bytesBeforeZero 24 = .ok (.ireturn, 1) := by decide +kernel
theorem d_Program_bytesBeforeZero_25 : decode b_Program_bytesBeforeZero 25 = .ok (.iinc 3 1, 3) := by decide +kernel
theorem d_Program_bytesBeforeZero_28 : decode b_Program_bytesBeforeZero 28 = .ok (.goto (-26), 3) := by decide +kernel
theorem d_Program_bytesBeforeZero_31 : decode b_Program_bytesBeforeZero 31 = .ok (.bipush 8, 2) := by decide +kernel
theorem d_Program_bytesBeforeZero_33 : decode b_Program_bytesBeforeZero 33 = .ok (.ireturn, 1) := by decide +kernel
theorem d_Program_addBytes_0 : decode b_Program_addBytes 0 = .ok (.aload_n 0, 1) := by decide +kernel
theorem d_Program_addBytes_1 : decode b_Program_addBytes 1 = .ok (.lload_n 1, 1) := by decide +kernel
theorem d_Program_addBytes_2 : decode b_Program_addBytes 2 = .ok (.invokevirtual 37, 3) := by decide +kernel
theorem d_Program_addBytes_5 : decode b_Program_addBytes 5 = .ok (.istore_n 3, 1) := by decide +kernel
theorem d_Program_addBytes_6 : decode b_Program_addBytes 6 = .ok (.aload_n 0, 1) := by decide +kernel
theorem d_Program_addBytes_7 : decode b_Program_addBytes 7 = .ok (.getfield 41, 3) := by decide +kernel
theorem d_Program_addBytes_10 : decode b_Program_addBytes 10 = .ok (.iload_n 3, 1) := by decide +kernel
theorem d_Program_addBytes_11 : decode b_Program_addBytes 11 = .ok (.iadd, 1) := by decide +kernel
theorem d_Program_addBytes_12 : decode b_Program_addBytes 12 = .ok (.sipush 4096, 3) := by decide +kernel
theorem d_Program_addBytes_15 : decode b_Program_addBytes 15 = .ok (.if_icmp .le 6, 3) := by decide +kernel
theorem d_Program_addBytes_18 : decode b_Program_addBytes 18 = .ok (.bipush (-2), 2) := by decide +kernel
theorem d_Program_addBytes_20 : decode b_Program_addBytes 20 = .ok (.ireturn, 1) := by decide +kernel
theorem d_Program_addBytes_21 : decode b_Program_addBytes 21 = .ok (.aload_n 0, 1) := by decide +kernel
theorem d_Program_addBytes_22 : decode b_Program_addBytes 22 = .ok (.getfield 44, 3) := by decide +kernel
theorem d_Program_addBytes_25 : decode b_Program_addBytes 25 = .ok (.aload_n 0, 1) := by decide +kernel
theorem d_Program_addBytes_26 : decode b_Program_addBytes 26 = .ok (.getfield 41, 3) := by decide +kernel
theorem d_Program_addBytes_29 : decode b_Program_addBytes 29 = .ok (.iadd, 1) := by decide +kernel
theorem d_Program_addBytes_30 : decode b_Program_addBytes 30 = .ok (.iload_n 3, 1) := by decide +kernel
theorem d_Program_addBytes_31 : decode b_Program_addBytes 31 = .ok (.iadd, 1) := by decide +kernel
theorem d_Program_addBytes_32 : decode b_Program_addBytes 32 = .ok (.istore 4, 2) := by decide +kernel
theorem d_Program_addBytes_34 : decode b_Program_addBytes 34 = .ok (.iload 4, 2) := by decide +kernel
theorem d_Program_addBytes_36 : decode b_Program_addBytes 36 = .ok (.aload_n 0, 1) := by decide +kernel
theorem d_Program_addBytes_37 : decode b_Program_addBytes 37 = .ok (.getfield 15, 3) := by decide +kernel
theorem d_Program_addBytes_40 : decode b_Program_addBytes 40 = .ok (.arraylength, 1) := by decide +kernel
theorem d_Program_addBytes_41 : decode b_Program_addBytes 41 = .ok (.if_icmp .le 26, 3) := by decide +kernel
theorem d_Program_addBytes_44 : decode b_Program_addBytes 44 = .ok (.aload_n 0, 1) := by decide +kernel
theorem d_Program_addBytes_45 : decode b_Program_addBytes 45 = .ok (.aload_n 0, 1) := by decide +kernel
theorem d_Program_addBytes_46 : decode b_Program_addBytes 46 = .ok (.getfield 15, 3) := by decide +kernel
theorem d_Program_addBytes_49 : decode b_Program_addBytes 49 = .ok (.aload_n 0, 1) := by decide +kernel
theorem d_Program_addBytes_50 : decode b_Program_addBytes 50 = .ok (.getfield 15, 3) := by decide +kernel
theorem d_Program_addBytes_53 : decode b_Program_addBytes 53 = .ok (.arraylength, 1) := by decide +kernel
theorem d_Program_addBytes_54 : decode b_Program_addBytes 54 = .ok (.iload 4, 2) := by decide +kernel
theorem d_Program_addBytes_56 : decode b_Program_addBytes 56 = .ok (.ldc 47, 2) := by decide +kernel
theorem d_Program_addBytes_58 : decode b_Program_addBytes 58 = .ok (.invokestatic 27, 3) := by decide +kernel
theorem d_Program_addBytes_61 : decode b_Program_addBytes 61 = .ok (.invokestatic 48, 3) := by decide +kernel
theorem d_Program_addBytes_64 : decode b_Program_addBytes 64 = .ok (.putfield 15, 3) := by decide +kernel
theorem d_Program_addBytes_67 : decode b_Program_addBytes 67 = .ok (.iconst 0, 1) := by decide +kernel
theorem d_Program_addBytes_68 : decode b_Program_addBytes 68 = .ok (.istore 5, 2) := by decide +kernel
theorem d_Program_addBytes_70 : decode b_Program_addBytes 70 = .ok (.iload 5, 2) := by decide +kernel
theorem d_Program_addBytes_72 : decode b_Program_addBytes 72 = .ok (.iload_n 3, 1) := by decide +kernel
theorem d_Program_addBytes_73 : decode b_Program_addBytes 73 = .ok (.if_icmp .ge 35, 3) := by decide +kernel
theorem d_Program_addBytes_76 : decode b_Program_addBytes 76 = .ok (.aload_n 0, 1) := by decide +kernel
theorem d_Program_addBytes_77 : decode b_Program_addBytes 77 = .ok (.getfield 15, 3) := by decide +kernel
theorem d_Program_addBytes_80 : decode b_Program_addBytes 80 = .ok (.aload_n 0, 1) := by decide +kernel
theorem d_Program_addBytes_81 : decode b_Program_addBytes 81 = .ok (.getfield 44, 3) := by decide +kernel
theorem d_Program_addBytes_84 : decode b_Program_addBytes 84 = .ok (.aload_n 0, 1) := by decide +kernel
theorem d_Program_addBytes_85 : decode b_Program_addBytes 85 = .ok (.getfield 41, 3) := by decide +kernel
theorem d_Program_addBytes_88 : decode b_Program_addBytes 88 = .ok (.iadd, 1) := by decide +kernel
theorem d_Program_addBytes_89 : decode b_Program_addBytes 89 = .ok (.iload 5, 2) := by decide +kernel
theorem d_Program_addBytes_91 : decode b_Program_addBytes 91 = .ok (.iadd, 1) := by decide +kernel
theorem d_Program_addBytes_92 : decode b_Program_addBytes 92 = .ok (.lload_n 1, 1) := by decide +kernel
theorem d_Program_addBytes_93 : decode b_Program_addBytes 93 = .ok (.bipush 8, 2) := by decide +kernel
theorem d_Program_addBytes_95 : decode b_Program_addBytes 95 = .ok (.iload 5, 2) := by decide +kernel
theorem d_Program_addBytes_97 : decode b_Program_addBytes 97 = .ok (.imul, 1) := by decide +kernel
theorem d_Program_addBytes_98 : decode b_Program_addBytes 98 = .ok (.lushr, 1) := by decide +kernel
theorem d_Program_addBytes_99 : decode b_Program_addBytes 99 = .ok (.l2i, 1) := by decide +kernel
theorem d_Program_addBytes_100 : decode b_Program_addBytes 100 = .ok (.i2b, 1) := by decide +kernel
theorem d_Program_addBytes_101 : decode b_Program_addBytes 101 = .ok (.bastore, 1) := by decide +kernel
theorem d_Program_addBytes_102 : decode b_Program_addBytes 102 = .ok (.iinc 5 1, 3) := by decide +kernel
theorem d_Program_addBytes_105 : decode b_Program_addBytes 105 = .ok (.goto (-35), 3) := by decide +kernel
theorem d_Program_addBytes_108 : decode b_Program_addBytes 108 = .ok (.aload_n 0, 1) := by decide +kernel
theorem d_Program_addBytes_109 : decode b_Program_addBytes 109 = .ok (.dup, 1) := by decide +kernel
theorem d_Program_addBytes_110 : decode b_Program_addBytes 110 = .ok (.getfield 41, 3) := by decide +kernel
theorem d_Program_addBytes_113 : decode b_Program_addBytes 113 = .ok (.iload_n 3, 1) := by decide +kernel
theorem d_Program_addBytes_114 : decode b_Program_addBytes 114 = .ok (.iadd, 1) := by decide +kernel
theorem d_Program_addBytes_115 : decode b_Program_addBytes 115 = .ok (.putfield 41, 3) := by decide +kernel
theorem d_Program_addBytes_118 : decode b_Program_addBytes 118 = .ok (.aload_n 0, 1) := by decide +kernel
theorem d_Program_addBytes_119 : decode b_Program_addBytes 119 = .ok (.getfield 41, 3) := by decide +kernel
theorem d_Program_addBytes_122 : decode b_Program_addBytes 122 = .ok (.ireturn, 1) := by decide +kernel
theorem d_Program_endConstant_0 : decode b_Program_endConstant 0 = .ok (.aload_n 0, 1) := by decide +kernel
theorem d_Program_endConstant_1 : decode b_Program_endConstant 1 = .ok (.getfield 53, 3) := by decide +kernel
theorem d_Program_endConstant_4 : decode b_Program_endConstant 4 = .ok (.sipush 1024, 3) := by decide +kernel
theorem d_Program_endConstant_7 : decode b_Program_endConstant 7 = .ok (.if_icmp .ge 17, 3) := by decide +kernel
theorem d_Program_endConstant_10 : decode b_Program_endConstant 10 = .ok (.aload_n 0, 1) := by decide +kernel
theorem d_Program_endConstant_11 : decode b_Program_endConstant 11 = .ok (.getfield 44, 3) := by decide +kernel
theorem d_Program_endConstant_14 : decode b_Program_endConstant 14 = .ok (.aload_n 0, 1) := by decide +kernel
theorem d_Program_endConstant_15 : decode b_Program_endConstant 15 = .ok (.getfield 41, 3) := by decide +kernel
theorem d_Program_endConstant_18 : decode b_Program_endConstant 18 = .ok (.iadd, 1) := by decide +kernel
theorem d_Program_endConstant_19 : decode b_Program_endConstant 19 = .ok (.ldc 56, 2) := by decide +kernel
theorem d_Program_endConstant_21 : decode b_Program_endConstant 21 = .ok (.if_icmp .le 6, 3) := by decide +kernel
theorem d_Program_endConstant_24 : decode b_Program_endConstant 24 = .ok (.bipush (-2), 2) := by decide +kernel
theorem d_Program_endConstant_26 : decode b_Program_endConstant 26 = .ok (.ireturn, 1) := by decide +kernel
theorem d_Program_endConstant_27 : decode b_Program_endConstant 27 = .ok (.aload_n 0, 1) := by decide +kernel
theorem d_Program_endConstant_28 : decode b_Program_endConstant 28 = .ok (.getfield 53, 3) := by decide +kernel
theorem d_Program_endConstant_31 : decode b_Program_endConstant 31 = .ok (.aload_n 0, 1) := by decide +kernel
theorem d_Program_endConstant_32 : decode b_Program_endConstant 32 = .ok (.getfield 19, 3) := by decide +kernel
theorem d_Program_endConstant_35 : decode b_Program_endConstant 35 = .ok (.arraylength, 1) := by decide +kernel
theorem d_Program_endConstant_36 : decode b_Program_endConstant 36 = .ok (.if_icmp .lt 31, 3) := by decide +kernel
theorem d_Program_endConstant_39 : decode b_Program_endConstant 39 = .ok (.aload_n 0, 1) := by decide +kernel
theorem d_Program_endConstant_40 : decode b_Program_endConstant 40 = .ok (.aload_n 0, 1) := by decide +kernel
theorem d_Program_endConstant_41 : decode b_Program_endConstant 41 = .ok (.getfield 19, 3) := by decide +kernel
theorem d_Program_endConstant_44 : decode b_Program_endConstant 44 = .ok (.aload_n 0, 1) := by decide +kernel
theorem d_Program_endConstant_45 : decode b_Program_endConstant 45 = .ok (.getfield 19, 3) := by decide +kernel
theorem d_Program_endConstant_48 : decode b_Program_endConstant 48 = .ok (.arraylength, 1) := by decide +kernel
theorem d_Program_endConstant_49 : decode b_Program_endConstant 49 = .ok (.aload_n 0, 1) := by decide +kernel
theorem d_Program_endConstant_50 : decode b_Program_endConstant 50 = .ok (.getfield 53, 3) := by decide +kernel
theorem d_Program_endConstant_53 : decode b_Program_endConstant 53 = .ok (.iconst 1, 1) := by decide +kernel
theorem d_Program_endConstant_54 : decode b_Program_endConstant 54 = .ok (.iadd, 1) := by decide +kernel
theorem d_Program_endConstant_55 : decode b_Program_endConstant 55 = .ok (.sipush 1024, 3) := by decide +kernel
theorem d_Program_endConstant_58 : decode b_Program_endConstant 58 = .ok (.invokestatic 27, 3) := by decide +kernel
theorem d_Program_endConstant_61 : decode b_Program_endConstant 61 = .ok (.invokestatic 31, 3) := by decide +kernel
theorem d_Program_endConstant_64 : decode b_Program_endConstant 64 = .ok (.putfield 19, 3) := by decide +kernel
theorem d_Program_endConstant_67 : decode b_Program_endConstant 67 = .ok (.aload_n 0, 1) := by decide +kernel
theorem d_Program_endConstant_68 : decode b_Program_endConstant 68 = .ok (.dup, 1) := by decide +kernel
theorem d_Program_endConstant_69 : decode b_Program_endConstant 69 = .ok (.getfield 44, 3) := by decide +kernel
theorem d_Program_endConstant_72 : decode b_Program_endConstant 72 = .ok (.aload_n 0, 1) := by decide +kernel
theorem d_Program_endConstant_73 : decode b_Program_endConstant 73 = .ok (.getfield 41, 3) := by decide +kernel
theorem d_Program_endConstant_76 : decode b_Program_endConstant 76 = .ok (.iadd, 1) := by decide +kernel
theorem d_Program_endConstant_77 : decode b_Program_endConstant 77 = .ok (.putfield 44, 3) := by decide +kernel
theorem d_Program_endConstant_80 : decode b_Program_endConstant 80 = .ok (.aload_n 0, 1) := by decide +kernel
theorem d_Program_endConstant_81 : decode b_Program_endConstant 81 = .ok (.iconst 0, 1) := by decide +kernel
theorem d_Program_endConstant_82 : decode b_Program_endConstant 82 = .ok (.putfield 41, 3) := by decide +kernel
theorem d_Program_endConstant_85 : decode b_Program_endConstant 85 = .ok (.aload_n 0, 1) := by decide +kernel
theorem d_Program_endConstant_86 : decode b_Program_endConstant 86 = .ok (.getfield 19, 3) := by decide +kernel
theorem d_Program_endConstant_89 : decode b_Program_endConstant 89 = .ok (.aload_n 0, 1) := by decide +kernel
theorem d_Program_endConstant_90 : decode b_Program_endConstant 90 = .ok (.getfield 53, 3) := by decide +kernel
theorem d_Program_endConstant_93 : decode b_Program_endConstant 93 = .ok (.aload_n 0, 1) := by decide +kernel
theorem d_Program_endConstant_94 : decode b_Program_endConstant 94 = .ok (.getfield 44, 3) := by decide +kernel
theorem d_Program_endConstant_97 : decode b_Program_endConstant 97 = .ok (.iastore, 1) := by decide +kernel
theorem d_Program_endConstant_98 : decode b_Program_endConstant 98 = .ok (.aload_n 0, 1) := by decide +kernel
theorem d_Program_endConstant_99 : decode b_Program_endConstant 99 = .ok (.dup, 1) := by decide +kernel
theorem d_Program_endConstant_100 : decode b_Program_endConstant 100 = .ok (.getfield 53, 3) := by decide +kernel
theorem d_Program_endConstant_103 : decode b_Program_endConstant 103 = .ok (.dup_x1, 1) := by decide +kernel
theorem d_Program_endConstant_104 : decode b_Program_endConstant 104 = .ok (.iconst 1, 1) := by decide +kernel
theorem d_Program_endConstant_105 : decode b_Program_endConstant 105 = .ok (.iadd, 1) := by decide +kernel
theorem d_Program_endConstant_106 : decode b_Program_endConstant 106 = .ok (.putfield 53, 3) := by decide +kernel
theorem d_Program_endConstant_109 : decode b_Program_endConstant 109 = .ok (.ireturn, 1) := by decide +kernel
theorem d_Program_beginOf_0 : decode b_Program_beginOf 0 = .ok (.iload_n 1, 1) := by decide +kernel
theorem d_Program_beginOf_1 : decode b_Program_beginOf 1 = .ok (.ifCond .ne 7, 3) := by decide +kernel
theorem d_Program_beginOf_4 : decode b_Program_beginOf 4 = .ok (.iconst 0, 1) := by decide +kernel
theorem d_Program_beginOf_5 : decode b_Program_beginOf 5 = .ok (.goto 11, 3) := by decide +kernel
theorem d_Program_beginOf_8 : decode b_Program_beginOf 8 = .ok (.aload_n 0, 1) := by decide +kernel
theorem d_Program_beginOf_9 : decode b_Program_beginOf 9 = .ok (.getfield 19, 3) := by decide +kernel
theorem d_Program_beginOf_12 : decode b_Program_beginOf 12 = .ok (.iload_n 1, 1) := by decide +kernel
theorem d_Program_beginOf_13 : decode b_Program_beginOf 13 = .ok (.iconst 1, 1) := by decide +kernel
theorem d_Program_beginOf_14 : decode b_Program_beginOf 14 = .ok (.isub, 1) := by decide +kernel
theorem d_Program_beginOf_15 : decode b_Program_beginOf 15 = .ok (.iaload, 1) := by decide +kernel
theorem d_Program_beginOf_16 : decode b_Program_beginOf 16 = .ok (.ireturn, 1) := by decide +kernel
theorem d_Output_accept_0 : decode b_Output_accept 0 = .ok (.iload_n 1, 1) := by decide +kernel
theorem d_Output_accept_1 : decode b_Output_accept 1 = .ok (.ldc 13, 2) := by decide +kernel
theorem d_Output_accept_3 : decode b_Output_accept 3 = .ok (.aload_n 0, 1) := by decide +kernel
theorem d_Output_accept_4 : decode b_Output_accept 4 = .ok (.getfield 14, 3) := by decide +kernel
theorem d_Output_accept_7 : decode b_Output_accept 7 = .ok (.isub, 1) := by decide +kernel
theorem d_Output_accept_8 : decode b_Output_accept 8 = .ok (.invokestatic 18, 3) := by decide +kernel
theorem d_Output_accept_11 : decode b_Output_accept 11 = .ok (.istore_n 2, 1) := by decide +kernel
theorem d_Output_accept_12 : decode b_Output_accept 12 = .ok (.aload_n 0, 1) := by decide +kernel
theorem d_Output_accept_13 : decode b_Output_accept 13 = .ok (.getfield 14, 3) := by decide +kernel
theorem d_Output_accept_16 : decode b_Output_accept 16 = .ok (.iload_n 2, 1) := by decide +kernel
theorem d_Output_accept_17 : decode b_Output_accept 17 = .ok (.iadd, 1) := by decide +kernel
theorem d_Output_accept_18 : decode b_Output_accept 18 = .ok (.aload_n 0, 1) := by decide +kernel
theorem d_Output_accept_19 : decode b_Output_accept 19 = .ok (.getfield 7, 3) := by decide +kernel
theorem d_Output_accept_22 : decode b_Output_accept 22 = .ok (.arraylength, 1) := by decide +kernel
theorem d_Output_accept_23 : decode b_Output_accept 23 = .ok (.if_icmp .le 30, 3) := by decide +kernel
theorem d_Output_accept_26 : decode b_Output_accept 26 = .ok (.aload_n 0, 1) := by decide +kernel
theorem d_Output_accept_27 : decode b_Output_accept 27 = .ok (.aload_n 0, 1) := by decide +kernel
theorem d_Output_accept_28 : decode b_Output_accept 28 = .ok (.getfield 7, 3) := by decide +kernel
theorem d_Output_accept_31 : decode b_Output_accept 31 = .ok (.aload_n 0, 1) := by decide +kernel
theorem d_Output_accept_32 : decode b_Output_accept 32 = .ok (.getfield 7, 3) := by decide +kernel
theorem d_Output_accept_35 : decode b_Output_accept 35 = .ok (.arraylength, 1) := by decide +kernel
theorem d_Output_accept_36 : decode b_Output_accept 36 = .ok (.aload_n 0, 1) := by decide +kernel
theorem d_Output_accept_37 : decode b_Output_accept 37 = .ok (.getfield 14, 3) := by decide +kernel
theorem d_Output_accept_40 : decode b_Output_accept 40 = .ok (.iload_n 2, 1) := by decide +kernel
theorem d_Output_accept_41 : decode b_Output_accept 41 = .ok (.iadd, 1) := by decide +kernel
theorem d_Output_accept_42 : decode b_Output_accept 42 = .ok (.ldc 13, 2) := by decide +kernel
theorem d_Output_accept_44 : decode b_Output_accept 44 = .ok (.invokestatic 24, 3) := by decide +kernel
theorem d_Output_accept_47 : decode b_Output_accept 47 = .ok (.invokestatic 30, 3) := by decide +kernel
theorem d_Output_accept_50 : decode b_Output_accept 50 = .ok (.putfield 7, 3) := by decide +kernel
theorem d_Output_accept_53 : decode b_Output_accept 53 = .ok (.iload_n 2, 1) := by decide +kernel
theorem d_Output_accept_54 : decode b_Output_accept 54 = .ok (.ireturn, 1) := by decide +kernel
theorem d_Output_add_0 : decode b_Output_add 0 = .ok (.aload_n 0, 1) := by decide +kernel
theorem d_Output_add_1 : decode b_Output_add 1 = .ok (.getfield 14, 3) := by decide +kernel
theorem d_Output_add_4 : decode b_Output_add 4 = .ok (.aload_n 0, 1) := by decide +kernel
theorem d_Output_add_5 : decode b_Output_add 5 = .ok (.getfield 7, 3) := by decide +kernel
theorem d_Output_add_8 : decode b_Output_add 8 = .ok (.arraylength, 1) := by decide +kernel
theorem d_Output_add_9 : decode b_Output_add 9 = .ok (.if_icmp .ge 21, 3) := by decide +kernel
theorem d_Output_add_12 : decode b_Output_add 12 = .ok (.aload_n 0, 1) := by decide +kernel
theorem d_Output_add_13 : decode b_Output_add 13 = .ok (.getfield 7, 3) := by decide +kernel
theorem d_Output_add_16 : decode b_Output_add 16 = .ok (.aload_n 0, 1) := by decide +kernel
theorem d_Output_add_17 : decode b_Output_add 17 = .ok (.dup, 1) := by decide +kernel
theorem d_Output_add_18 : decode b_Output_add 18 = .ok (.getfield 14, 3) := by decide +kernel
theorem d_Output_add_21 : decode b_Output_add 21 = .ok (.dup_x1, 1) := by decide +kernel
theorem d_Output_add_22 : decode b_Output_add 22 = .ok (.iconst 1, 1) := by decide +kernel
theorem d_Output_add_23 : decode b_Output_add 23 = .ok (.iadd, 1) := by decide +kernel
theorem d_Output_add_24 : decode b_Output_add 24 = .ok (.putfield 14, 3) := by decide +kernel
theorem d_Output_add_27 : decode b_Output_add 27 = .ok (.iload_n 1, 1) := by decide +kernel
theorem d_Output_add_28 : decode b_Output_add 28 = .ok (.i2b, 1) := by decide +kernel
theorem d_Output_add_29 : decode b_Output_add 29 = .ok (.bastore, 1) := by decide +kernel
theorem d_Output_add_30 : decode b_Output_add 30 = .ok (.return_, 1) := by decide +kernel
theorem k23 : Cond.fieldLink R_Program 22 "CellEngine$Program" "size" "I" ∈ lw_g := kg (List.mem_append_right _ (List.mem_of_getElem? (i := 89) (by decide +kernel))) rfl
theorem k24 : Cond.constant R_Program 26 262144 ∈ lw_g := kg (List.mem_append_right _ (List.mem_of_getElem? (i := 352) (by decide +kernel))) rfl
theorem k25 : Cond.fieldLink R_Program 9 "CellEngine$Program" "words" "[I" ∈ lw_g := kg (List.mem_append_right _ (List.mem_of_getElem? (i := 87) (by decide +kernel))) rfl
theorem k26 : Cond.code y_Engine_longer b_Engine_longer 3 (some .int) ∈ lw_g := kg (List.mem_append_right _ (List.mem_of_getElem? (i := 355) (by decide +kernel))) rfl
theorem k27 : Cond.initialized R_Engine ∈ lw_g := kg (List.mem_append_right _ (List.mem_of_getElem? (i := 1) (by decide +kernel))) rfl
theorem k28 : Cond.static y_Engine_longer ∈ lw_g := kg (List.mem_append_right _ (List.mem_of_getElem? (i := 354) (by decide +kernel))) rfl
theorem k29 : Cond.code y_Arrays_copyOfI b_Arrays_copyOfI 3 (some (.array .int)) ∈ lw_g := kg (List.mem_append_right _ (List.mem_of_getElem? (i := 364) (by decide +kernel))) rfl
theorem k30 : Cond.methodLink R_Program 31 y_Arrays_copyOfI ∈ lw_g := kg (List.mem_append_right _ (List.mem_of_getElem? (i := 362) (by decide +kernel))) rfl
theorem k31 : Cond.static y_Arrays_copyOfI ∈ lw_g := kg (List.mem_append_right _ (List.mem_of_getElem? (i := 363) (by decide +kernel))) rfl
theorem k32 : Cond.constantLong R_Program 51 255 ∈ lw_g := kg (List.mem_append_right _ (List.mem_of_getElem? (i := 396) (by decide +kernel))) rfl
theorem k33 : Cond.fieldLink R_Program 41 "CellEngine$Program" "open" "I" ∈ lw_g := kg (List.mem_append_right _ (List.mem_of_getElem? (i := 100) (by decide +kernel))) rfl
theorem k34 : Cond.fieldLink R_Program 44 "CellEngine$Program" "closed" "I" ∈ lw_g := kg (List.mem_append_right _ (List.mem_of_getElem? (i := 99) (by decide +kernel))) rfl
theorem k35 : Cond.fieldLink R_Program 15 "CellEngine$Program" "bytes" "[B" ∈ lw_g := kg (List.mem_append_right _ (List.mem_of_getElem? (i := 92) (by decide +kernel))) rfl
theorem k36 : Cond.constant R_Program 47 69632 ∈ lw_g := kg (List.mem_append_right _ (List.mem_of_getElem? (i := 397) (by decide +kernel))) rfl
theorem k37 : Cond.code y_Program_bytesBeforeZero b_Program_bytesBeforeZero 4 (some .int) ∈ lw_g := kg (List.mem_append_right _ (List.mem_of_getElem? (i := 395) (by decide +kernel))) rfl
theorem k38 : Cond.methodLink R_Program 37 y_Program_bytesBeforeZero ∈ lw_g := kg (List.mem_append_right _ (List.mem_of_getElem? (i := 392) (by decide +kernel))) rfl
theorem k39 : Cond.instanceMethod y_Program_bytesBeforeZero ∈ lw_g := kg (List.mem_append_right _ (List.mem_of_getElem? (i := 394) (by decide +kernel))) rfl
theorem k40 : Cond.selects R_Program y_Program_bytesBeforeZero y_Program_bytesBeforeZero ∈ lw_g := kg (List.mem_append_left _ (List.mem_of_getElem? (i := 0) (by decide +kernel))) rfl
theorem k41 : Cond.initialized R_Program ∈ lw_g := kg (List.mem_append_right _ (List.mem_of_getElem? (i := 3) (by decide +kernel))) rfl
theorem k42 : Cond.code y_Arrays_copyOfB b_Arrays_copyOfB 3 (some (.array .byte)) ∈ lw_g := kg (List.mem_append_right _ (List.mem_of_getElem? (i := 400) (by decide +kernel))) rfl
theorem k43 : Cond.methodLink R_Program 48 y_Arrays_copyOfB ∈ lw_g := kg (List.mem_append_right _ (List.mem_of_getElem? (i := 398) (by decide +kernel))) rfl
theorem k44 : Cond.static y_Arrays_copyOfB ∈ lw_g := kg (List.mem_append_right _ (List.mem_of_getElem? (i := 399) (by decide +kernel))) rfl
theorem k45 : Cond.fieldLink R_Program 53 "CellEngine$Program" "constants" "I" ∈ lw_g := kg (List.mem_append_right _ (List.mem_of_getElem? (i := 97) (by decide +kernel))) rfl
theorem k46 : Cond.constant R_Program 56 65536 ∈ lw_g := kg (List.mem_append_right _ (List.mem_of_getElem? (i := 414) (by decide +kernel))) rfl
theorem k47 : Cond.fieldLink R_Program 19 "CellEngine$Program" "ends" "[I" ∈ lw_g := kg (List.mem_append_right _ (List.mem_of_getElem? (i := 94) (by decide +kernel))) rfl
theorem k48 : Cond.constant R_Output 13 65536 ∈ lw_g := kg (List.mem_append_right _ (List.mem_of_getElem? (i := 879) (by decide +kernel))) rfl
theorem k49 : Cond.fieldLink R_Output 14 "CellEngine$Output" "size" "I" ∈ lw_g := kg (List.mem_append_right _ (List.mem_of_getElem? (i := 125) (by decide +kernel))) rfl
theorem k50 : Cond.fieldLink R_Output 7 "CellEngine$Output" "bytes" "[B" ∈ lw_g := kg (List.mem_append_right _ (List.mem_of_getElem? (i := 123) (by decide +kernel))) rfl
theorem k51 : Cond.methodLink R_Output 18 y_Math_min ∈ lw_g := kg (List.mem_append_right _ (List.mem_of_getElem? (i := 880) (by decide +kernel))) rfl
theorem k52 : Cond.methodLink R_Output 30 y_Arrays_copyOfB ∈ lw_g := kg (List.mem_append_right _ (List.mem_of_getElem? (i := 882) (by decide +kernel))) rfl
def m_Program_append (N : Nat) (P_size : Int32) (P_constants : Int32) (P_closed : Int32) (P_open : Int32) (n_P_words : Nat) (f_P_words : Nat → Int32) (p0 : Int32) : Option ((Int32 × Int32 × Nat × (Nat → Int32)) × Nat × Nat) := (if P_size < 262144 then (if P_size < (Int32.ofNat n_P_words) then (if P_size < 0 ∨ n_P_words ≤ P_size.toNatClampNeg then none else some (((P_size + 1), P_size + 1, n_P_words, upd f_P_words P_size.toNatClampNeg p0), 0, 0)) else ((m_Engine_longer N (Int32.ofNat n_P_words) (P_size + 1) (262144 : Int32)).bind fun z4_1 => ((m_Arrays_copyOfI N n_P_words f_P_words z4_1).bind fun ((z5_1, z5_2), zc5, zs5) => dz_tk zc5 zs5 ((if P_size < 0 ∨ z5_1 ≤ P_size.toNatClampNeg then none else some (((P_size + 1), P_size + 1, z5_1, upd z5_2 P_size.toNatClampNeg p0), 0, 0)))))) else some (((-2 : Int32), P_size, n_P_words, f_P_words), 0, 0))
set_option maxHeartbeats 4000000 in
set_option maxRecDepth 100000 in
theorem c_Program_append (l : Launch) (dC : Nat → ClassId) (dI : Nat → Nat → Nat) (N : Nat) (cI : ClassId) (o_Program : Nat) (r_P_words : Nat) (r_P_bytes : Nat) (r_P_ends : Nat) (P_size : Int32) (P_constants : Int32) (P_closed : Int32) (P_open : Int32) (n_P_words : Nat) (f_P_words : Nat → Int32) (p0 : Int32) (sz : Nat) (Z1 : Int32 × Int32 × Nat × (Nat → Int32)) (Zc Zs : Nat) (h : m_Program_append N P_size P_constants P_closed P_open n_P_words f_P_words p0 = some (Z1, Zc, Zs)) : Met l y_Program_append (.code y_Program_append b_Program_append 2 (some .int) :: lw_g) ({ frames := 2, cells := Zc, slots := Zs, locals := 82 }) (va_Pc [.ref o_Program, .int p0] (fun U => dz_N U ∧ U.heap.size = sz ∧ va_P (dC, dI) classes [(o_Program, .inr (0, [.ref r_P_words, .int P_size, .ref r_P_bytes, .ref r_P_ends, .int P_constants, .int P_closed, .int P_open])), (r_P_words, .inl (cI, n_P_words, .inl f_P_words))] U.heap ∧ va_K (dC, dI) classes [(cI, .int)] U ∧ va_D (fun _ => True) [(o_Program, .inr (0, [.ref r_P_words, .int P_size, .ref r_P_bytes, .ref r_P_ends, .int P_constants, .int P_closed, .int P_open])), (r_P_words, .inl (cI, n_P_words, .inl f_P_words))])) (va_Qi (fun (r : Int32) (_ : Nat) => r = Z1.1) (fun (u : Nat) t => va_P (dC, dI) classes [(o_Program, .inr (0, [.ref u, .int Z1.2.1, .ref r_P_bytes, .ref r_P_ends, .int P_constants, .int P_closed, .int P_open])), (u, .inl (cI, Z1.2.2.1, .inl Z1.2.2.2))] t.heap ∧ va_K (dC, dI) classes [(cI, .int)] t ∧ va_D (va_A [(o_Program, .inr (0, [.ref r_P_words, .int P_size, .ref r_P_bytes, .ref r_P_ends, .int P_constants, .int P_closed, .int P_open])), (r_P_words, .inl (cI, n_P_words, .inl f_P_words))] sz) [(o_Program, .inr (0, [.ref u, .int Z1.2.1, .ref r_P_bytes, .ref r_P_ends, .int P_constants, .int P_closed, .int P_open])), (u, .inl (cI, Z1.2.2.1, .inl Z1.2.2.2))]) (va_A [(o_Program, .inr (0, [.ref r_P_words, .int P_size, .ref r_P_bytes, .ref r_P_ends, .int P_constants, .int P_closed, .int P_open])), (r_P_words, .inl (cI, n_P_words, .inl f_P_words))] sz)) Zc Zs (va_A [(o_Program, .inr (0, [.ref r_P_words, .int P_size, .ref r_P_bytes, .ref r_P_ends, .int P_constants, .int P_closed, .int P_open])), (r_P_words, .inl (cI, n_P_words, .inl f_P_words))] sz) := by
  refine Met.ofW (cc := b_Program_append) (maxL := 2) (ret := (some .int)) (by decide +kernel) rfl ?_
  intro p e s m args below meth c s₁ B hml hv
  obtain ⟨rfl, hN, hsz, hP, hK, hD0⟩ := hv
  have hx := B.exec
  have hb := B.bytes
  have hr := B.returns
  have hg : ∀ w ∈ lw_g, w.before _ s = true := fun w hw => atoms_spec (ws := .code y_Program_append b_Program_append 2 (some .int) :: lw_g) B.pre w (List.mem_cons_of_mem _ hw)
  have hown : s.vm.findClass R_Program = some m.cls := findClass_of_methodNamed B.named
  have hlocks := B.notSynchronized
  clear B
  subst hsz
  have hD := hD0.self (sz := s.heap.size)
  generalize hAe : va_A [(o_Program, .inr (0, [.ref r_P_words, .int P_size, .ref r_P_bytes, .ref r_P_ends, .int P_constants, .int P_closed, .int P_open])), (r_P_words, .inl (cI, n_P_words, .inl f_P_words))] s.heap.size = A at hD ⊢
  have hA : ∀ q : Nat, s.heap.size ≤ q → A q := fun q h => by rw [← hAe]; exact Or.inr h
  have hS : va_S A s.heap s.heap [] := va_S.rf
  have hP : va_P (dC, dI) classes [(o_Program, .inr (0, [.ref r_P_words, .int P_size, .ref r_P_bytes, .ref r_P_ends, .int P_constants, .int P_closed, .int P_open])), (r_P_words, .inl (cI, n_P_words, .inl f_P_words))] s.heap := hP
  have hl := lv_entry ([.ref o_Program, .int p0]) (n := 2) (Nat.le_of_ble_eq_true rfl)
  rw [lg_entry_eq]
  generalize (lg_sl ([.ref o_Program, .int p0]) ++ List.replicate (2 - (lg_sl ([.ref o_Program, .int p0])).length) Slot.unset).toArray = ls at hl ⊢
  have hl : lv_has ls 2 [(0, .ref o_Program), (1, .int p0)] := hl
  unfold m_Program_append at h
  have hG : dz_G Z1 Zc Zs (Z1, Zc, Zs) 0 0 := ⟨rfl, (Nat.zero_add _).symm, (Nat.zero_add _).symm⟩
  generalize (Z1, Zc, Zs) = z at h hG
  refine lv_aload_n hx hb d_Program_append_0 rfl (lv_at hl 0 rfl) ?_
  refine va_get (D := (dC, dI)) (ci := 0) (v := .int P_size) (C := R_Program) (T := F_Program) (N := 7) hx hb hg i_Program hown hK hP 0 rfl rfl 1 (by decide) (hg _ k23) (fun _ h9 => h9) rfl d_Program_append_1 ?_
  refine lv_ldc (v := 262144) hx hb hown (hg _ k24) d_Program_append_4 ?_
  refine lv_icmp_lt (tgt := 12) hx hb d_Program_append_6 (by decide) (fun c1 => ?_) (fun c1 => ?_)
  · rw [if_pos c1] at h
    refine lv_aload_n hx hb d_Program_append_12 rfl (lv_at hl 0 rfl) ?_
    refine va_get (D := (dC, dI)) (ci := 0) (v := .int P_size) (C := R_Program) (T := F_Program) (N := 7) hx hb hg i_Program hown hK hP 0 rfl rfl 1 (by decide) (hg _ k23) (fun _ h9 => h9) rfl d_Program_append_13 ?_
    refine lv_aload_n hx hb d_Program_append_16 rfl (lv_at hl 0 rfl) ?_
    refine va_get (D := (dC, dI)) (ci := 0) (v := .ref r_P_words) (C := R_Program) (T := F_Program) (N := 7) hx hb hg i_Program hown hK hP 0 rfl rfl 0 (by decide) (hg _ k25) (fun _ h9 => h9) rfl d_Program_append_17 ?_
    refine va_alen (D := (dC, dI)) (v := Int32.ofNat n_P_words) hx hb hK hP 1 0 rfl rfl rfl d_Program_append_20 ?_
    refine lv_icmp_lt (tgt := 51) hx hb d_Program_append_21 (by decide) (fun c2 => ?_) (fun c2 => ?_)
    · rw [if_pos c2] at h
      refine lv_aload_n hx hb d_Program_append_51 rfl (lv_at hl 0 rfl) ?_
      refine va_get (D := (dC, dI)) (ci := 0) (v := .ref r_P_words) (C := R_Program) (T := F_Program) (N := 7) hx hb hg i_Program hown hK hP 0 rfl rfl 0 (by decide) (hg _ k25) (fun _ h9 => h9) rfl d_Program_append_52 ?_
      refine lv_aload_n hx hb d_Program_append_55 rfl (lv_at hl 0 rfl) ?_
      refine lv_dup hx hb d_Program_append_56 rfl ?_
      refine va_get (D := (dC, dI)) (ci := 0) (v := .int P_size) (C := R_Program) (T := F_Program) (N := 7) hx hb hg i_Program hown hK hP 0 rfl rfl 1 (by decide) (hg _ k23) (fun _ h9 => h9) rfl d_Program_append_57 ?_
      refine lv_dup_x1 hx hb d_Program_append_60 rfl rfl ?_
      refine lv_iconst (v := 1) hx hb d_Program_append_61 (by decide) ?_
      refine lv_iadd hx hb d_Program_append_62 ?_
      refine va_put (D := (dC, dI)) (ci := 0) (v := .int (P_size + 1)) (ty := .int) (C := R_Program) (T := F_Program) (N := 7) hx hb hg i_Program t_Program t_Program_ok n_Program hown hK hP hD hS 0 rfl rfl 1 (by decide) (hg _ k23) (fun _ h9 => h9) rfl (by decide +kernel) rfl rfl (Nat.le_of_ble_eq_true rfl) d_Program_append_63 (fun H locs hP hD hS => ?_)
      have hP : va_P (dC, dI) classes [(o_Program, .inr (0, [.ref r_P_words, .int (P_size + 1), .ref r_P_bytes, .ref r_P_ends, .int P_constants, .int P_closed, .int P_open])), (r_P_words, .inl (cI, n_P_words, .inl f_P_words))] H := hP
      have hD : va_D A [(o_Program, .inr (0, [.ref r_P_words, .int (P_size + 1), .ref r_P_bytes, .ref r_P_ends, .int P_constants, .int P_closed, .int P_open])), (r_P_words, .inl (cI, n_P_words, .inl f_P_words))] := hD
      refine lv_iload_n hx hb d_Program_append_66 rfl (lv_at hl 1 rfl) ?_
      obtain ⟨i3, h⟩ := dz_oi h
      refine va_iast (D := (dC, dI)) hx hb hK hP hD hS 1 0 rfl rfl i3 d_Program_append_67 (fun H locs hP hD hS => ?_)
      have hP : va_P (dC, dI) classes [(o_Program, .inr (0, [.ref r_P_words, .int (P_size + 1), .ref r_P_bytes, .ref r_P_ends, .int P_constants, .int P_closed, .int P_open])), (r_P_words, .inl (cI, n_P_words, .inl (upd f_P_words P_size.toNatClampNeg p0)))] H := hP
      have hD : va_D A [(o_Program, .inr (0, [.ref r_P_words, .int (P_size + 1), .ref r_P_bytes, .ref r_P_ends, .int P_constants, .int P_closed, .int P_open])), (r_P_words, .inl (cI, n_P_words, .inl (upd f_P_words P_size.toNatClampNeg p0)))] := hD
      refine lv_aload_n hx hb d_Program_append_68 rfl (lv_at hl 0 rfl) ?_
      refine va_get (D := (dC, dI)) (ci := 0) (v := .int (P_size + 1)) (C := R_Program) (T := F_Program) (N := 7) hx hb hg i_Program hown hK hP 0 rfl rfl 1 (by decide) (hg _ k23) (fun _ h9 => h9) rfl d_Program_append_69 ?_
      obtain rfl := Option.some.inj h
      have hP9 := hP.sub (ws' := [(o_Program, .inr (0, [.ref r_P_words, .int (P_size + 1), .ref r_P_bytes, .ref r_P_ends, .int P_constants, .int P_closed, .int P_open])), (r_P_words, .inl (cI, n_P_words, .inl (upd f_P_words P_size.toNatClampNeg p0)))]) [0, 1] rfl
      have hD9 := hD.sub (ws' := [(o_Program, .inr (0, [.ref r_P_words, .int (P_size + 1), .ref r_P_bytes, .ref r_P_ends, .int P_constants, .int P_closed, .int P_open])), (r_P_words, .inl (cI, n_P_words, .inl (upd f_P_words P_size.toNatClampNeg p0)))]) [0, 1] (by decide) rfl
      have hK9 := hK.sub (tys' := [(cI, .int)]) [0] rfl
      refine W.widen (dz_Gc hG) (dz_Gs hG) ?_
      obtain ⟨rfl, -, -⟩ := hG
      exact W.iret (v := P_size + 1) hx hb hr (fun t ht hW => ⟨⟨P_size + 1, r_P_words, rfl, rfl, by rw [ht]; exact hP9, va_K.moved hW.alike hK9, hD9⟩, hS.F ht⟩) hS.2.2 d_Program_append_72
    · rw [if_neg c2] at h
      refine lv_aload_n hx hb d_Program_append_24 rfl (lv_at hl 0 rfl) ?_
      refine lv_aload_n hx hb d_Program_append_25 rfl (lv_at hl 0 rfl) ?_
      refine va_get (D := (dC, dI)) (ci := 0) (v := .ref r_P_words) (C := R_Program) (T := F_Program) (N := 7) hx hb hg i_Program hown hK hP 0 rfl rfl 0 (by decide) (hg _ k25) (fun _ h9 => h9) rfl d_Program_append_26 ?_
      refine lv_aload_n hx hb d_Program_append_29 rfl (lv_at hl 0 rfl) ?_
      refine va_get (D := (dC, dI)) (ci := 0) (v := .ref r_P_words) (C := R_Program) (T := F_Program) (N := 7) hx hb hg i_Program hown hK hP 0 rfl rfl 0 (by decide) (hg _ k25) (fun _ h9 => h9) rfl d_Program_append_30 ?_
      refine va_alen (D := (dC, dI)) (v := Int32.ofNat n_P_words) hx hb hK hP 1 0 rfl rfl rfl d_Program_append_33 ?_
      refine lv_aload_n hx hb d_Program_append_34 rfl (lv_at hl 0 rfl) ?_
      refine va_get (D := (dC, dI)) (ci := 0) (v := .int P_size) (C := R_Program) (T := F_Program) (N := 7) hx hb hg i_Program hown hK hP 0 rfl rfl 1 (by decide) (hg _ k23) (fun _ h9 => h9) rfl d_Program_append_35 ?_
      refine lv_iconst (v := 1) hx hb d_Program_append_38 (by decide) ?_
      refine lv_iadd hx hb d_Program_append_39 ?_
      refine lv_ldc (v := 262144) hx hb hown (hg _ k24) d_Program_append_40 ?_
      obtain ⟨z4_1, hc4, h⟩ := dz_ob h
      try dsimp only at h
      have hPc := hP.sub (ws' := []) [] rfl
      have hKc := hK.sub (tys' := []) [] rfl
      refine vp_callSi (va_Run.run (va_runSN (As := [.int (Int32.ofNat n_P_words), .int (P_size + 1), .int 262144]) (rest := [.ref r_P_words, .ref o_Program]) ⟨hx, hb, hml, hown, hg⟩ (c_Engine_longer l dC dI N (Int32.ofNat n_P_words) (P_size + 1) (262144 : Int32) z4_1 hc4) ⟨va_cnB 3 hg (gd_N k26) rfl rfl rfl hN.2.2.2.2.1 (hg _ k27) (by decide +kernel) ⟨Nat.le_of_ble_eq_true rfl, Nat.le_of_ble_eq_true rfl⟩, hg _ k28, trivial⟩ ⟨dz_blindR, fun U hU hW => ⟨rfl, dz_Nw hW hN, by rw [hU]; exact hPc, va_K.moved hW.alike hKc⟩⟩ rfl rfl hl.1 rfl (lv_room (Nat.le_of_ble_eq_true rfl)) d_Program_append_42 ⟨dz_Gc hG, dz_Gs hG⟩)) (fun r4 hw => ?_)
      have hw : z4_1 = r4 := hw.symm
      subst hw
      obtain ⟨⟨⟨z5_1, z5_2⟩, zc5, zs5⟩, hc5, h⟩ := dz_ob h
      try dsimp only at h
      obtain ⟨z, h, hG⟩ := dz_tkG h hG
      have hPc := hP.sub (ws' := [(r_P_words, .inl (cI, n_P_words, .inl f_P_words))]) [1] rfl
      have hKc := hK.sub (tys' := [(cI, .int)]) [0] rfl
      have hDc := hD.sub (ws' := [(r_P_words, .inl (cI, n_P_words, .inl f_P_words))]) [1] (by decide) rfl
      have hFc := va_free (wc := [(r_P_words, .inl (cI, n_P_words, .inl f_P_words))]) hD hS hA [1] rfl
      refine va_callr (va_runS (As := [.ref r_P_words, .int z4_1]) (rest := [.ref o_Program]) ⟨hx, hb, hml, hown, hg⟩ (c_Arrays_copyOfI l dC dI N cI r_P_words n_P_words f_P_words z4_1 s.heap.size (z5_1, z5_2) zc5 zs5 hc5) (va_cwS 2 hg (gd_S k30 k31 k22 k29) rfl rfl rfl (by decide +kernel) ⟨Nat.le_of_ble_eq_true rfl, Nat.le_of_ble_eq_true rfl⟩) ⟨dz_blind, fun U hU hW => ⟨rfl, dz_Nw hW hN, by rw [hU], by rw [hU]; exact hPc, va_K.moved hW.alike hKc, hDc.weaken (fun _ _ _ _ => trivial)⟩⟩ rfl rfl hl.1 rfl (lv_room (Nat.le_of_ble_eq_true rfl)) d_Program_append_45 ⟨dz_Gc hG, dz_Gs hG⟩) hS (fun q _ h => hFc q h) hFc (fun u5 a5_r t5 H1 locs ht hvm hw hB hz1 hk1 hS => ?_)
      obtain ⟨hP1, hK1, hD1⟩ := hB
      rw [ht] at hP1
      obtain ⟨hP, hD⟩ := va_join (wr := [(o_Program, .inr (0, [.ref r_P_words, .int P_size, .ref r_P_bytes, .ref r_P_ends, .int P_constants, .int P_closed, .int P_open]))]) (w1 := [(r_P_words, .inl (cI, n_P_words, .inl f_P_words)), (a5_r, .inl (cI, z5_1, .inl z5_2))]) hP hD [1] [0] rfl rfl (by decide) (by decide) hk1 hFc hP1 hD1
      generalize H1 = H at hP hS ⊢
      have hP : va_P (dC, dI) classes [(o_Program, .inr (0, [.ref r_P_words, .int P_size, .ref r_P_bytes, .ref r_P_ends, .int P_constants, .int P_closed, .int P_open])), (r_P_words, .inl (cI, n_P_words, .inl f_P_words)), (a5_r, .inl (cI, z5_1, .inl z5_2))] H := hP
      have hD : va_D A [(o_Program, .inr (0, [.ref r_P_words, .int P_size, .ref r_P_bytes, .ref r_P_ends, .int P_constants, .int P_closed, .int P_open])), (r_P_words, .inl (cI, n_P_words, .inl f_P_words)), (a5_r, .inl (cI, z5_1, .inl z5_2))] := hD
      refine va_put (D := (dC, dI)) (ci := 0) (v := .ref a5_r) (ty := .array .int) (C := R_Program) (T := F_Program) (N := 7) hx hb hg i_Program t_Program t_Program_ok n_Program hown hK hP hD hS 0 rfl rfl 0 (by decide) (hg _ k25) (fun _ h9 => h9) rfl (by decide +kernel) rfl rfl (Nat.le_of_ble_eq_true rfl) d_Program_append_48 (fun H locs hP hD hS => ?_)
      have hP : va_P (dC, dI) classes [(o_Program, .inr (0, [.ref a5_r, .int P_size, .ref r_P_bytes, .ref r_P_ends, .int P_constants, .int P_closed, .int P_open])), (r_P_words, .inl (cI, n_P_words, .inl f_P_words)), (a5_r, .inl (cI, z5_1, .inl z5_2))] H := hP
      have hD : va_D A [(o_Program, .inr (0, [.ref a5_r, .int P_size, .ref r_P_bytes, .ref r_P_ends, .int P_constants, .int P_closed, .int P_open])), (r_P_words, .inl (cI, n_P_words, .inl f_P_words)), (a5_r, .inl (cI, z5_1, .inl z5_2))] := hD
      refine lv_aload_n hx hb d_Program_append_51 rfl (lv_at hl 0 rfl) ?_
      refine va_get (D := (dC, dI)) (ci := 0) (v := .ref a5_r) (C := R_Program) (T := F_Program) (N := 7) hx hb hg i_Program hown hK hP 0 rfl rfl 0 (by decide) (hg _ k25) (fun _ h9 => h9) rfl d_Program_append_52 ?_
      refine lv_aload_n hx hb d_Program_append_55 rfl (lv_at hl 0 rfl) ?_
      refine lv_dup hx hb d_Program_append_56 rfl ?_
      refine va_get (D := (dC, dI)) (ci := 0) (v := .int P_size) (C := R_Program) (T := F_Program) (N := 7) hx hb hg i_Program hown hK hP 0 rfl rfl 1 (by decide) (hg _ k23) (fun _ h9 => h9) rfl d_Program_append_57 ?_
      refine lv_dup_x1 hx hb d_Program_append_60 rfl rfl ?_
      refine lv_iconst (v := 1) hx hb d_Program_append_61 (by decide) ?_
      refine lv_iadd hx hb d_Program_append_62 ?_
      refine va_put (D := (dC, dI)) (ci := 0) (v := .int (P_size + 1)) (ty := .int) (C := R_Program) (T := F_Program) (N := 7) hx hb hg i_Program t_Program t_Program_ok n_Program hown hK hP hD hS 0 rfl rfl 1 (by decide) (hg _ k23) (fun _ h9 => h9) rfl (by decide +kernel) rfl rfl (Nat.le_of_ble_eq_true rfl) d_Program_append_63 (fun H locs hP hD hS => ?_)
      have hP : va_P (dC, dI) classes [(o_Program, .inr (0, [.ref a5_r, .int (P_size + 1), .ref r_P_bytes, .ref r_P_ends, .int P_constants, .int P_closed, .int P_open])), (r_P_words, .inl (cI, n_P_words, .inl f_P_words)), (a5_r, .inl (cI, z5_1, .inl z5_2))] H := hP
      have hD : va_D A [(o_Program, .inr (0, [.ref a5_r, .int (P_size + 1), .ref r_P_bytes, .ref r_P_ends, .int P_constants, .int P_closed, .int P_open])), (r_P_words, .inl (cI, n_P_words, .inl f_P_words)), (a5_r, .inl (cI, z5_1, .inl z5_2))] := hD
      refine lv_iload_n hx hb d_Program_append_66 rfl (lv_at hl 1 rfl) ?_
      obtain ⟨i6, h⟩ := dz_oi h
      refine va_iast (D := (dC, dI)) hx hb hK hP hD hS 2 0 rfl rfl i6 d_Program_append_67 (fun H locs hP hD hS => ?_)
      have hP : va_P (dC, dI) classes [(o_Program, .inr (0, [.ref a5_r, .int (P_size + 1), .ref r_P_bytes, .ref r_P_ends, .int P_constants, .int P_closed, .int P_open])), (r_P_words, .inl (cI, n_P_words, .inl f_P_words)), (a5_r, .inl (cI, z5_1, .inl (upd z5_2 P_size.toNatClampNeg p0)))] H := hP
      have hD : va_D A [(o_Program, .inr (0, [.ref a5_r, .int (P_size + 1), .ref r_P_bytes, .ref r_P_ends, .int P_constants, .int P_closed, .int P_open])), (r_P_words, .inl (cI, n_P_words, .inl f_P_words)), (a5_r, .inl (cI, z5_1, .inl (upd z5_2 P_size.toNatClampNeg p0)))] := hD
      refine lv_aload_n hx hb d_Program_append_68 rfl (lv_at hl 0 rfl) ?_
      refine va_get (D := (dC, dI)) (ci := 0) (v := .int (P_size + 1)) (C := R_Program) (T := F_Program) (N := 7) hx hb hg i_Program hown hK hP 0 rfl rfl 1 (by decide) (hg _ k23) (fun _ h9 => h9) rfl d_Program_append_69 ?_
      obtain rfl := Option.some.inj h
      have hP9 := hP.sub (ws' := [(o_Program, .inr (0, [.ref a5_r, .int (P_size + 1), .ref r_P_bytes, .ref r_P_ends, .int P_constants, .int P_closed, .int P_open])), (a5_r, .inl (cI, z5_1, .inl (upd z5_2 P_size.toNatClampNeg p0)))]) [0, 2] rfl
      have hD9 := hD.sub (ws' := [(o_Program, .inr (0, [.ref a5_r, .int (P_size + 1), .ref r_P_bytes, .ref r_P_ends, .int P_constants, .int P_closed, .int P_open])), (a5_r, .inl (cI, z5_1, .inl (upd z5_2 P_size.toNatClampNeg p0)))]) [0, 2] (by decide) rfl
      have hK9 := hK.sub (tys' := [(cI, .int)]) [0] rfl
      refine W.widen (dz_Gc hG) (dz_Gs hG) ?_
      obtain ⟨rfl, -, -⟩ := hG
      exact W.iret (v := P_size + 1) hx hb hr (fun t ht hW => ⟨⟨P_size + 1, a5_r, rfl, rfl, by rw [ht]; exact hP9, va_K.moved hW.alike hK9, hD9⟩, hS.F ht⟩) hS.2.2 d_Program_append_72
  · rw [if_neg c1] at h
    refine lv_bipush (v := (-2)) hx hb d_Program_append_9 (by decide) ?_
    obtain rfl := Option.some.inj h
    have hP9 := hP.sub (ws' := [(o_Program, .inr (0, [.ref r_P_words, .int P_size, .ref r_P_bytes, .ref r_P_ends, .int P_constants, .int P_closed, .int P_open])), (r_P_words, .inl (cI, n_P_words, .inl f_P_words))]) [0, 1] rfl
    have hD9 := hD.sub (ws' := [(o_Program, .inr (0, [.ref r_P_words, .int P_size, .ref r_P_bytes, .ref r_P_ends, .int P_constants, .int P_closed, .int P_open])), (r_P_words, .inl (cI, n_P_words, .inl f_P_words))]) [0, 1] (by decide) rfl
    have hK9 := hK.sub (tys' := [(cI, .int)]) [0] rfl
    refine W.widen (dz_Gc hG) (dz_Gs hG) ?_
    obtain ⟨rfl, -, -⟩ := hG
    exact W.iret (v := (-2)) hx hb hr (fun t ht hW => ⟨⟨(-2), r_P_words, rfl, rfl, by rw [ht]; exact hP9, va_K.moved hW.alike hK9, hD9⟩, hS.F ht⟩) hS.2.2 d_Program_append_11

def m_Program_shorten (N : Nat) (P_size : Int32) (P_constants : Int32) (P_closed : Int32) (P_open : Int32) (p0 : Int32) : Option (Int32 × Int32) := (if p0 < 0 then some ((-1 : Int32), P_size) else (if p0 ≤ P_size then some (p0, p0) else some ((-1 : Int32), P_size)))
set_option maxHeartbeats 4000000 in
set_option maxRecDepth 100000 in
theorem c_Program_shorten (l : Launch) (dC : Nat → ClassId) (dI : Nat → Nat → Nat) (N : Nat) (o_Program : Nat) (r_P_words : Nat) (r_P_bytes : Nat) (r_P_ends : Nat) (P_size : Int32) (P_constants : Int32) (P_closed : Int32) (P_open : Int32) (p0 : Int32) (sz : Nat) (z : Int32 × Int32) (h : m_Program_shorten N P_size P_constants P_closed P_open p0 = some z) : Met l y_Program_shorten (.code y_Program_shorten b_Program_shorten 2 (some .int) :: lw_g) ({ frames := 0, cells := 0, slots := 0, locals := 0 }) (va_Pc [.ref o_Program, .int p0] (fun U => dz_N U ∧ U.heap.size = sz ∧ va_P (dC, dI) classes [(o_Program, .inr (0, [.ref r_P_words, .int P_size, .ref r_P_bytes, .ref r_P_ends, .int P_constants, .int P_closed, .int P_open]))] U.heap ∧ va_K (dC, dI) classes [] U ∧ va_D (fun _ => True) [(o_Program, .inr (0, [.ref r_P_words, .int P_size, .ref r_P_bytes, .ref r_P_ends, .int P_constants, .int P_closed, .int P_open]))])) (va_Qi (fun (r : Int32) (_ : Unit) => r = z.1) (fun (u : Unit) t => va_P (dC, dI) classes [(o_Program, .inr (0, [.ref r_P_words, .int z.2, .ref r_P_bytes, .ref r_P_ends, .int P_constants, .int P_closed, .int P_open]))] t.heap ∧ va_K (dC, dI) classes [] t ∧ va_D (va_A [(o_Program, .inr (0, [.ref r_P_words, .int P_size, .ref r_P_bytes, .ref r_P_ends, .int P_constants, .int P_closed, .int P_open]))] sz) [(o_Program, .inr (0, [.ref r_P_words, .int z.2, .ref r_P_bytes, .ref r_P_ends, .int P_constants, .int P_closed, .int P_open]))]) (va_A [(o_Program, .inr (0, [.ref r_P_words, .int P_size, .ref r_P_bytes, .ref r_P_ends, .int P_constants, .int P_closed, .int P_open]))] sz)) 0 0 (va_A [(o_Program, .inr (0, [.ref r_P_words, .int P_size, .ref r_P_bytes, .ref r_P_ends, .int P_constants, .int P_closed, .int P_open]))] sz) := by
  refine Met.ofW (cc := b_Program_shorten) (maxL := 2) (ret := (some .int)) (by decide +kernel) rfl ?_
  intro p e s m args below meth c s₁ B hml hv
  obtain ⟨rfl, hN, hsz, hP, hK, hD0⟩ := hv
  have hx := B.exec
  have hb := B.bytes
  have hr := B.returns
  have hg : ∀ w ∈ lw_g, w.before _ s = true := fun w hw => atoms_spec (ws := .code y_Program_shorten b_Program_shorten 2 (some .int) :: lw_g) B.pre w (List.mem_cons_of_mem _ hw)
  have hown : s.vm.findClass R_Program = some m.cls := findClass_of_methodNamed B.named
  have hlocks := B.notSynchronized
  clear B
  subst hsz
  have hD := hD0.self (sz := s.heap.size)
  generalize hAe : va_A [(o_Program, .inr (0, [.ref r_P_words, .int P_size, .ref r_P_bytes, .ref r_P_ends, .int P_constants, .int P_closed, .int P_open]))] s.heap.size = A at hD ⊢
  have hA : ∀ q : Nat, s.heap.size ≤ q → A q := fun q h => by rw [← hAe]; exact Or.inr h
  have hS : va_S A s.heap s.heap [] := va_S.rf
  have hP : va_P (dC, dI) classes [(o_Program, .inr (0, [.ref r_P_words, .int P_size, .ref r_P_bytes, .ref r_P_ends, .int P_constants, .int P_closed, .int P_open]))] s.heap := hP
  have hl := lv_entry ([.ref o_Program, .int p0]) (n := 2) (Nat.le_of_ble_eq_true rfl)
  rw [lg_entry_eq]
  generalize (lg_sl ([.ref o_Program, .int p0]) ++ List.replicate (2 - (lg_sl ([.ref o_Program, .int p0])).length) Slot.unset).toArray = ls at hl ⊢
  have hl : lv_has ls 2 [(0, .ref o_Program), (1, .int p0)] := hl
  unfold m_Program_shorten at h
  refine lv_iload_n hx hb d_Program_shorten_0 rfl (lv_at hl 1 rfl) ?_
  refine lv_if_lt (tgt := 12) hx hb d_Program_shorten_1 (by decide) (fun c1 => ?_) (fun c1 => ?_)
  · rw [if_pos c1] at h
    refine lv_iconst (v := (-1)) hx hb d_Program_shorten_12 (by decide) ?_
    obtain rfl := Option.some.inj h
    have hP9 := hP.sub (ws' := [(o_Program, .inr (0, [.ref r_P_words, .int P_size, .ref r_P_bytes, .ref r_P_ends, .int P_constants, .int P_closed, .int P_open]))]) [0] rfl
    have hD9 := hD.sub (ws' := [(o_Program, .inr (0, [.ref r_P_words, .int P_size, .ref r_P_bytes, .ref r_P_ends, .int P_constants, .int P_closed, .int P_open]))]) [0] (by decide) rfl
    have hK9 := hK.sub (tys' := []) [] rfl
    exact W.iret (v := (-1)) hx hb hr (fun t ht hW => ⟨⟨(-1), (), rfl, rfl, by rw [ht]; exact hP9, va_K.moved hW.alike hK9, hD9⟩, hS.F ht⟩) hS.2.2 d_Program_shorten_13
  · rw [if_neg c1] at h
    refine lv_iload_n hx hb d_Program_shorten_4 rfl (lv_at hl 1 rfl) ?_
    refine lv_aload_n hx hb d_Program_shorten_5 rfl (lv_at hl 0 rfl) ?_
    refine va_get (D := (dC, dI)) (ci := 0) (v := .int P_size) (C := R_Program) (T := F_Program) (N := 7) hx hb hg i_Program hown hK hP 0 rfl rfl 1 (by decide) (hg _ k23) (fun _ h9 => h9) rfl d_Program_shorten_6 ?_
    refine lv_icmp_le (tgt := 14) hx hb d_Program_shorten_9 (by decide) (fun c2 => ?_) (fun c2 => ?_)
    · rw [if_pos c2] at h
      refine lv_aload_n hx hb d_Program_shorten_14 rfl (lv_at hl 0 rfl) ?_
      refine lv_iload_n hx hb d_Program_shorten_15 rfl (lv_at hl 1 rfl) ?_
      refine va_put (D := (dC, dI)) (ci := 0) (v := .int p0) (ty := .int) (C := R_Program) (T := F_Program) (N := 7) hx hb hg i_Program t_Program t_Program_ok n_Program hown hK hP hD hS 0 rfl rfl 1 (by decide) (hg _ k23) (fun _ h9 => h9) rfl (by decide +kernel) rfl rfl (Nat.le_of_ble_eq_true rfl) d_Program_shorten_16 (fun H locs hP hD hS => ?_)
      have hP : va_P (dC, dI) classes [(o_Program, .inr (0, [.ref r_P_words, .int p0, .ref r_P_bytes, .ref r_P_ends, .int P_constants, .int P_closed, .int P_open]))] H := hP
      have hD : va_D A [(o_Program, .inr (0, [.ref r_P_words, .int p0, .ref r_P_bytes, .ref r_P_ends, .int P_constants, .int P_closed, .int P_open]))] := hD
      refine lv_aload_n hx hb d_Program_shorten_19 rfl (lv_at hl 0 rfl) ?_
      refine va_get (D := (dC, dI)) (ci := 0) (v := .int p0) (C := R_Program) (T := F_Program) (N := 7) hx hb hg i_Program hown hK hP 0 rfl rfl 1 (by decide) (hg _ k23) (fun _ h9 => h9) rfl d_Program_shorten_20 ?_
      obtain rfl := Option.some.inj h
      have hP9 := hP.sub (ws' := [(o_Program, .inr (0, [.ref r_P_words, .int p0, .ref r_P_bytes, .ref r_P_ends, .int P_constants, .int P_closed, .int P_open]))]) [0] rfl
      have hD9 := hD.sub (ws' := [(o_Program, .inr (0, [.ref r_P_words, .int p0, .ref r_P_bytes, .ref r_P_ends, .int P_constants, .int P_closed, .int P_open]))]) [0] (by decide) rfl
      have hK9 := hK.sub (tys' := []) [] rfl
      exact W.iret (v := p0) hx hb hr (fun t ht hW => ⟨⟨p0, (), rfl, rfl, by rw [ht]; exact hP9, va_K.moved hW.alike hK9, hD9⟩, hS.F ht⟩) hS.2.2 d_Program_shorten_23
    · rw [if_neg c2] at h
      refine lv_iconst (v := (-1)) hx hb d_Program_shorten_12 (by decide) ?_
      obtain rfl := Option.some.inj h
      have hP9 := hP.sub (ws' := [(o_Program, .inr (0, [.ref r_P_words, .int P_size, .ref r_P_bytes, .ref r_P_ends, .int P_constants, .int P_closed, .int P_open]))]) [0] rfl
      have hD9 := hD.sub (ws' := [(o_Program, .inr (0, [.ref r_P_words, .int P_size, .ref r_P_bytes, .ref r_P_ends, .int P_constants, .int P_closed, .int P_open]))]) [0] (by decide) rfl
      have hK9 := hK.sub (tys' := []) [] rfl
      exact W.iret (v := (-1)) hx hb hr (fun t ht hW => ⟨⟨(-1), (), rfl, rfl, by rw [ht]; exact hP9, va_K.moved hW.alike hK9, hD9⟩, hS.F ht⟩) hS.2.2 d_Program_shorten_13

def lm_Program_bytesBeforeZero_1 {ζ : Type} (N : Nat) (p0 : Int64) (k1_31 : Int32 → Option (ζ)) (k1_23 : Int32 → Option (ζ)) : Nat → Int32 → Option (ζ)
  | 0, _ => none
  | n1 + 1, v1_3 => (if 8 ≤ v1_3 then k1_31 v1_3 else dz_let ((p0.toUInt64 >>> ((8 * v1_3).toInt64.toUInt64 &&& Int64.toUInt64 63)).toInt64) (fun x2 => (if (lg_cmp (x2 &&& 255) 0) = 0 then k1_23 v1_3 else lm_Program_bytesBeforeZero_1 N p0 k1_31 k1_23 n1 (v1_3 + 1))))
set_option maxHeartbeats 4000000 in
set_option maxRecDepth 100000 in
theorem l_Program_bytesBeforeZero_1 {p : Program} {l : Launch} {e : Env} {s : State} {m : MethodId} {args : Array Value} {below : List Frame} {meth : Method} {c : Code} {Q : State → Prop} (dC : Nat → ClassId) (dI : Nat → Nat → Nat) (N : Nat) (o_Program : Nat) (r_P_words : Nat) (r_P_bytes : Nat) (r_P_ends : Nat) (P_size : Int32) (P_constants : Int32) (P_closed : Int32) (P_open : Int32) (p0 : Int64) {ζ : Type} {z : ζ} (hx : p.tables.exec = Jvm.exec) (hb : c.code = b_Program_bytesBeforeZero) (hml : c.maxLocals = 4) (hown : s.vm.findClass R_Program = some m.cls) (hg : ∀ w ∈ lw_g, w.before args s = true) (hN : dz_N s) (hK : va_K (dC, dI) classes [] s) (hP : va_P (dC, dI) classes [(o_Program, .inr (0, [.ref r_P_words, .int P_size, .ref r_P_bytes, .ref r_P_ends, .int P_constants, .int P_closed, .int P_open]))] s.heap) {k1_31 : Int32 → Option (ζ)} {k1_23 : Int32 → Option (ζ)} (hk1_31 : ∀ (v1_3 : Int32)    (ls : Array Slot), k1_31 v1_3 = some z → lv_has ls 4 [(3, .int v1_3), (0, .ref o_Program), (1, .long p0)] → W p l e ({ frames := 0, cells := 0, slots := 0, locals := 0 } : Room) s m args below meth c s.heap [] 0 0 Q (F0 m 31 ls [])) (hk1_23 : ∀ (v1_3 : Int32)    (ls : Array Slot), k1_23 v1_3 = some z → lv_has ls 4 [(3, .int v1_3), (0, .ref o_Program), (1, .long p0)] → W p l e ({ frames := 0, cells := 0, slots := 0, locals := 0 } : Room) s m args below meth c s.heap [] 0 0 Q (F0 m 23 ls [])) : ∀ (n1 : Nat) (v1_3 : Int32)    (ls : Array Slot), lm_Program_bytesBeforeZero_1 N p0 k1_31 k1_23 n1 v1_3 = some z → lv_has ls 4 [(3, .int v1_3), (0, .ref o_Program), (1, .long p0)] → W p l e ({ frames := 0, cells := 0, slots := 0, locals := 0 } : Room) s m args below meth c s.heap [] 0 0 Q (F0 m 2 ls []) := by
  intro n1
  induction n1 with
  | zero =>
    intro v1_3 ls h hl
    rw [lm_Program_bytesBeforeZero_1] at h
    cases h
  | succ n1 ih1 =>
    intro v1_3 ls h hl
    rw [lm_Program_bytesBeforeZero_1] at h
    refine lv_iload_n hx hb d_Program_bytesBeforeZero_2 rfl (lv_at hl 0 rfl) ?_
    refine lv_bipush (v := 8) hx hb d_Program_bytesBeforeZero_3 (by decide) ?_
    refine lv_icmp_ge (tgt := 31) hx hb d_Program_bytesBeforeZero_5 (by decide) (fun c1 => ?_) (fun c1 => ?_)
    · rw [if_pos c1] at h
      exact hk1_31 v1_3 _ h (lv_sub hl [0, 1, 2] rfl)
    · rw [if_neg c1] at h
      refine lv_lload_n hx hb d_Program_bytesBeforeZero_8 rfl (lv_at hl 2 rfl) ?_
      refine lv_bipush (v := 8) hx hb d_Program_bytesBeforeZero_9 (by decide) ?_
      refine lv_iload_n hx hb d_Program_bytesBeforeZero_11 rfl (lv_at hl 0 rfl) ?_
      refine lv_imul hx hb d_Program_bytesBeforeZero_12 ?_
      refine lv_lushr (v := (p0.toUInt64 >>> ((8 * v1_3).toInt64.toUInt64 &&& Int64.toUInt64 63)).toInt64) hx hb d_Program_bytesBeforeZero_13 rfl ?_
      obtain ⟨x2, ex2, h⟩ := dz_lt h
      refine dz_topl ex2 ?_
      refine lv_ldc2 (v := 255) hx hb hown (hg _ k32) d_Program_bytesBeforeZero_14 ?_
      refine lv_land hx hb d_Program_bytesBeforeZero_17 ?_
      refine lv_lconst (v := 0) hx hb d_Program_bytesBeforeZero_18 (by decide) ?_
      refine W.lcmp hx hb d_Program_bytesBeforeZero_19 ?_
      refine lv_if_ne (tgt := 25) hx hb d_Program_bytesBeforeZero_20 (by decide) (fun c3 => ?_) (fun c3 => ?_)
      · rw [if_neg c3] at h
        refine lv_iinc (v := v1_3 + 1) (lv' := [(3, .int (v1_3 + 1)), (0, .ref o_Program), (1, .long p0)]) hx hb d_Program_bytesBeforeZero_25 hl (k := 0) rfl rfl (by decide) rfl (fun ls hl => ?_)
        refine lv_goto (tgt := 2) hx hb d_Program_bytesBeforeZero_28 (by decide) ?_
        exact ih1 (v1_3 + 1) _ h (lv_sub hl [0, 1, 2] rfl)
      · rw [if_pos c3] at h
        exact hk1_23 v1_3 _ h (lv_sub hl [0, 1, 2] rfl)
def m_Program_bytesBeforeZero (N : Nat) (P_size : Int32) (P_constants : Int32) (P_closed : Int32) (P_open : Int32) (p0 : Int64) : Option (Int32) := lm_Program_bytesBeforeZero_1 N p0 (fun (v1_3 : Int32) => some (8 : Int32)) (fun (v1_3 : Int32) => some v1_3) N (0 : Int32)
set_option maxHeartbeats 4000000 in
set_option maxRecDepth 100000 in
theorem c_Program_bytesBeforeZero (l : Launch) (dC : Nat → ClassId) (dI : Nat → Nat → Nat) (N : Nat) (o_Program : Nat) (r_P_words : Nat) (r_P_bytes : Nat) (r_P_ends : Nat) (P_size : Int32) (P_constants : Int32) (P_closed : Int32) (P_open : Int32) (p0 : Int64) (z : Int32) (h : m_Program_bytesBeforeZero N P_size P_constants P_closed P_open p0 = some z) : Met l y_Program_bytesBeforeZero (.code y_Program_bytesBeforeZero b_Program_bytesBeforeZero 4 (some .int) :: lw_g) ({ frames := 0, cells := 0, slots := 0, locals := 0 }) (va_Pc [.ref o_Program, .long p0] (fun U => dz_N U ∧ va_P (dC, dI) classes [(o_Program, .inr (0, [.ref r_P_words, .int P_size, .ref r_P_bytes, .ref r_P_ends, .int P_constants, .int P_closed, .int P_open]))] U.heap ∧ va_K (dC, dI) classes [] U)) (vp_Si (fun r => r = z)) 0 0 (fun _ => False) := by
  refine Met.ofW (cc := b_Program_bytesBeforeZero) (maxL := 4) (ret := (some .int)) (by decide +kernel) rfl ?_
  intro p e s m args below meth c s₁ B hml hv
  obtain ⟨rfl, hN, hP, hK⟩ := hv
  have hx := B.exec
  have hb := B.bytes
  have hr := B.returns
  have hg : ∀ w ∈ lw_g, w.before _ s = true := fun w hw => atoms_spec (ws := .code y_Program_bytesBeforeZero b_Program_bytesBeforeZero 4 (some .int) :: lw_g) B.pre w (List.mem_cons_of_mem _ hw)
  have hown : s.vm.findClass R_Program = some m.cls := findClass_of_methodNamed B.named
  have hlocks := B.notSynchronized
  clear B
  have hP : va_P (dC, dI) classes [(o_Program, .inr (0, [.ref r_P_words, .int P_size, .ref r_P_bytes, .ref r_P_ends, .int P_constants, .int P_closed, .int P_open]))] s.heap := hP
  have hl := lv_entry ([.ref o_Program, .long p0]) (n := 4) (Nat.le_of_ble_eq_true rfl)
  rw [lg_entry_eq]
  generalize (lg_sl ([.ref o_Program, .long p0]) ++ List.replicate (4 - (lg_sl ([.ref o_Program, .long p0])).length) Slot.unset).toArray = ls at hl ⊢
  have hl : lv_has ls 4 [(0, .ref o_Program), (1, .long p0)] := hl
  unfold m_Program_bytesBeforeZero at h
  refine lv_iconst (v := 0) hx hb d_Program_bytesBeforeZero_0 (by decide) ?_
  refine lv_istore_n (lv' := [(3, .int 0), (0, .ref o_Program), (1, .long p0)]) hx hb d_Program_bytesBeforeZero_1 rfl hl (by decide) rfl (fun ls hl => ?_)
  refine l_Program_bytesBeforeZero_1 dC dI N o_Program r_P_words r_P_bytes r_P_ends P_size P_constants P_closed P_open p0 hx hb hml hown hg hN hK hP (fun v1_3 ls h hl => ?_) (fun v1_3 ls h hl => ?_) N (0 : Int32) _ h (lv_sub hl [0, 1, 2] rfl)
  · skip
    refine lv_bipush (v := 8) hx hb d_Program_bytesBeforeZero_31 (by decide) ?_
    obtain rfl := Option.some.inj h
    exact W.iret (v := 8) hx hb hr (fun t ht hW => ⟨_, rfl, rfl, ht⟩) (fun _ h => by cases h) d_Program_bytesBeforeZero_33
  · skip
    refine lv_iload_n hx hb d_Program_bytesBeforeZero_23 rfl (lv_at hl 0 rfl) ?_
    obtain rfl := Option.some.inj h
    exact W.iret (v := v1_3) hx hb hr (fun t ht hW => ⟨_, rfl, rfl, ht⟩) (fun _ h => by cases h) d_Program_bytesBeforeZero_24

def lm_Program_addBytes_1 {α : Type} (N : Nat) (P_closed : Int32) (P_open : Int32) (n_P_bytes : Nat) (p0 : Int64) (z1_1 : Int32) (k1_108 : Int32 → (Nat → Int32) → Option (α × Nat × Nat)) : Nat → Int32 → (Nat → Int32) → Option (α × Nat × Nat)
  | 0, _, _ => none
  | n1 + 1, v1_5, w1_f_f_P_bytes => (if z1_1 ≤ v1_5 then k1_108 v1_5 w1_f_f_P_bytes else dz_let ((p0.toUInt64 >>> ((8 * v1_5).toInt64.toUInt64 &&& Int64.toUInt64 63)).toInt64) (fun x5 => (if ((P_closed + P_open) + v1_5) < 0 ∨ n_P_bytes ≤ ((P_closed + P_open) + v1_5).toNatClampNeg then none else dz_let (upd w1_f_f_P_bytes ((P_closed + P_open) + v1_5).toNatClampNeg (vp_nar .byte x5.toInt32.toInt8.toInt32)) (fun g7 => lm_Program_addBytes_1 N P_closed P_open n_P_bytes p0 z1_1 k1_108 n1 (v1_5 + 1) g7))))
set_option maxHeartbeats 4000000 in
set_option maxRecDepth 100000 in
theorem l_Program_addBytes_1 {p : Program} {l : Launch} {e : Env} {s : State} {m : MethodId} {args : Array Value} {below : List Frame} {meth : Method} {c : Code} {Q : State → Prop} {A : Nat → Prop} (dC : Nat → ClassId) (dI : Nat → Nat → Nat) (N : Nat) (cB : ClassId) (o_Program : Nat) (r_P_words : Nat) (r_P_bytes : Nat) (r_P_ends : Nat) (P_size : Int32) (P_constants : Int32) (P_closed : Int32) (P_open : Int32) (n_P_bytes : Nat) (p0 : Int64) (z1_1 : Int32) {α : Type} {Z1 : α} {Zc Zs : Nat} (hx : p.tables.exec = Jvm.exec) (hb : c.code = b_Program_addBytes) (hml : c.maxLocals = 6) (hown : s.vm.findClass R_Program = some m.cls) (hg : ∀ w ∈ lw_g, w.before args s = true) (hN : dz_N s) (hK : va_K (dC, dI) classes [(cB, .byte)] s) (hA : ∀ q : Nat, s.heap.size ≤ q → A q) {k1_108 : Int32 → (Nat → Int32) → Option (α × Nat × Nat)} (hk1_108 : ∀ (v1_5 : Int32) (w1_f_f_P_bytes : (Nat → Int32))  (z : α × Nat × Nat) (cc cs : Nat) (H : Heap) (locs : List Loc) (ls : Array Slot), k1_108 v1_5 w1_f_f_P_bytes = some z → dz_G Z1 Zc Zs z cc cs → va_P (dC, dI) classes [(o_Program, .inr (0, [.ref r_P_words, .int P_size, .ref r_P_bytes, .ref r_P_ends, .int P_constants, .int P_closed, .int P_open])), (r_P_bytes, .inl (cB, n_P_bytes, .inl w1_f_f_P_bytes))] H → va_D A [(o_Program, .inr (0, [.ref r_P_words, .int P_size, .ref r_P_bytes, .ref r_P_ends, .int P_constants, .int P_closed, .int P_open])), (r_P_bytes, .inl (cB, n_P_bytes, .inl w1_f_f_P_bytes))] → va_S A s.heap H locs → lv_has ls 6 [(5, .int v1_5), (4, .int ((P_closed + P_open) + z1_1)), (3, .int z1_1), (0, .ref o_Program), (1, .long p0)] → W p l e ({ frames := 2, cells := Zc, slots := Zs, locals := 82 } : Room) s m args below meth c H locs cc cs Q (F0 m 108 ls [])) : ∀ (n1 : Nat) (v1_5 : Int32) (w1_f_f_P_bytes : (Nat → Int32))  (z : α × Nat × Nat) (cc cs : Nat) (H : Heap) (locs : List Loc) (ls : Array Slot), lm_Program_addBytes_1 N P_closed P_open n_P_bytes p0 z1_1 k1_108 n1 v1_5 w1_f_f_P_bytes = some z → dz_G Z1 Zc Zs z cc cs → va_P (dC, dI) classes [(o_Program, .inr (0, [.ref r_P_words, .int P_size, .ref r_P_bytes, .ref r_P_ends, .int P_constants, .int P_closed, .int P_open])), (r_P_bytes, .inl (cB, n_P_bytes, .inl w1_f_f_P_bytes))] H → va_D A [(o_Program, .inr (0, [.ref r_P_words, .int P_size, .ref r_P_bytes, .ref r_P_ends, .int P_constants, .int P_closed, .int P_open])), (r_P_bytes, .inl (cB, n_P_bytes, .inl w1_f_f_P_bytes))] → va_S A s.heap H locs → lv_has ls 6 [(5, .int v1_5), (4, .int ((P_closed + P_open) + z1_1)), (3, .int z1_1), (0, .ref o_Program), (1, .long p0)] → W p l e ({ frames := 2, cells := Zc, slots := Zs, locals := 82 } : Room) s m args below meth c H locs cc cs Q (F0 m 70 ls []) := by
  intro n1
  induction n1 with
  | zero =>
    intro v1_5 w1_f_f_P_bytes z cc cs H locs ls h hG hP hD hS hl
    rw [lm_Program_addBytes_1] at h
    cases h
  | succ n1 ih1 =>
    intro v1_5 w1_f_f_P_bytes z cc cs H locs ls h hG hP hD hS hl
    rw [lm_Program_addBytes_1] at h
    refine lv_iload hx hb d_Program_addBytes_70 (lv_at hl 0 rfl) ?_
    refine lv_iload_n hx hb d_Program_addBytes_72 rfl (lv_at hl 2 rfl) ?_
    refine lv_icmp_ge (tgt := 108) hx hb d_Program_addBytes_73 (by decide) (fun c4 => ?_) (fun c4 => ?_)
    · rw [if_pos c4] at h
      exact hk1_108 v1_5 w1_f_f_P_bytes _ _ _ _ _ _ h hG (hP.sub [0, 1] rfl) (hD.sub [0, 1] (by decide) rfl) hS (lv_sub hl [0, 1, 2, 3, 4] rfl)
    · rw [if_neg c4] at h
      refine lv_aload_n hx hb d_Program_addBytes_76 rfl (lv_at hl 3 rfl) ?_
      refine va_get (D := (dC, dI)) (ci := 0) (v := .ref r_P_bytes) (C := R_Program) (T := F_Program) (N := 7) hx hb hg i_Program hown hK hP 0 rfl rfl 2 (by decide) (hg _ k35) (fun _ h9 => h9) rfl d_Program_addBytes_77 ?_
      refine lv_aload_n hx hb d_Program_addBytes_80 rfl (lv_at hl 3 rfl) ?_
      refine va_get (D := (dC, dI)) (ci := 0) (v := .int P_closed) (C := R_Program) (T := F_Program) (N := 7) hx hb hg i_Program hown hK hP 0 rfl rfl 5 (by decide) (hg _ k34) (fun _ h9 => h9) rfl d_Program_addBytes_81 ?_
      refine lv_aload_n hx hb d_Program_addBytes_84 rfl (lv_at hl 3 rfl) ?_
      refine va_get (D := (dC, dI)) (ci := 0) (v := .int P_open) (C := R_Program) (T := F_Program) (N := 7) hx hb hg i_Program hown hK hP 0 rfl rfl 6 (by decide) (hg _ k33) (fun _ h9 => h9) rfl d_Program_addBytes_85 ?_
      refine lv_iadd hx hb d_Program_addBytes_88 ?_
      refine lv_iload hx hb d_Program_addBytes_89 (lv_at hl 0 rfl) ?_
      refine lv_iadd hx hb d_Program_addBytes_91 ?_
      refine lv_lload_n hx hb d_Program_addBytes_92 rfl (lv_at hl 4 rfl) ?_
      refine lv_bipush (v := 8) hx hb d_Program_addBytes_93 (by decide) ?_
      refine lv_iload hx hb d_Program_addBytes_95 (lv_at hl 0 rfl) ?_
      refine lv_imul hx hb d_Program_addBytes_97 ?_
      refine lv_lushr (v := (p0.toUInt64 >>> ((8 * v1_5).toInt64.toUInt64 &&& Int64.toUInt64 63)).toInt64) hx hb d_Program_addBytes_98 rfl ?_
      obtain ⟨x5, ex5, h⟩ := dz_lt h
      refine dz_topl ex5 ?_
      refine lv_l2i (v := x5.toInt32) hx hb d_Program_addBytes_99 rfl ?_
      refine lv_i2b (v := x5.toInt32.toInt8.toInt32) hx hb d_Program_addBytes_100 rfl ?_
      obtain ⟨i6, h⟩ := dz_oi h
      refine va_bast (D := (dC, dI)) hx hb hK hP hD hS 1 0 rfl rfl i6 d_Program_addBytes_101 (fun H locs hP hD hS => ?_)
      obtain ⟨g7, eg7, h⟩ := dz_lt h
      rw [← eg7] at hP hD
      have hP : va_P (dC, dI) classes [(o_Program, .inr (0, [.ref r_P_words, .int P_size, .ref r_P_bytes, .ref r_P_ends, .int P_constants, .int P_closed, .int P_open])), (r_P_bytes, .inl (cB, n_P_bytes, .inl g7))] H := hP
      have hD : va_D A [(o_Program, .inr (0, [.ref r_P_words, .int P_size, .ref r_P_bytes, .ref r_P_ends, .int P_constants, .int P_closed, .int P_open])), (r_P_bytes, .inl (cB, n_P_bytes, .inl g7))] := hD
      refine lv_iinc (v := v1_5 + 1) (lv' := [(5, .int (v1_5 + 1)), (4, .int ((P_closed + P_open) + z1_1)), (3, .int z1_1), (0, .ref o_Program), (1, .long p0)]) hx hb d_Program_addBytes_102 hl (k := 0) rfl rfl (by decide) rfl (fun ls hl => ?_)
      refine lv_goto (tgt := 70) hx hb d_Program_addBytes_105 (by decide) ?_
      exact ih1 (v1_5 + 1) g7 _ _ _ _ _ _ h hG (hP.sub [0, 1] rfl) (hD.sub [0, 1] (by decide) rfl) hS (lv_sub hl [0, 1, 2, 3, 4] rfl)
def lm_Program_addBytes_2 {α : Type} (N : Nat) (P_closed : Int32) (P_open : Int32) (p0 : Int64) (z1_1 : Int32) (z9_1 : Nat) (k2_108 : Int32 → (Nat → Int32) → Option (α × Nat × Nat)) : Nat → Int32 → (Nat → Int32) → Option (α × Nat × Nat)
  | 0, _, _ => none
  | n2 + 1, v2_5, w2_f_f_P_bytes => (if z1_1 ≤ v2_5 then k2_108 v2_5 w2_f_f_P_bytes else dz_let ((p0.toUInt64 >>> ((8 * v2_5).toInt64.toUInt64 &&& Int64.toUInt64 63)).toInt64) (fun x11 => (if ((P_closed + P_open) + v2_5) < 0 ∨ z9_1 ≤ ((P_closed + P_open) + v2_5).toNatClampNeg then none else dz_let (upd w2_f_f_P_bytes ((P_closed + P_open) + v2_5).toNatClampNeg (vp_nar .byte x11.toInt32.toInt8.toInt32)) (fun g13 => lm_Program_addBytes_2 N P_closed P_open p0 z1_1 z9_1 k2_108 n2 (v2_5 + 1) g13))))
set_option maxHeartbeats 4000000 in
set_option maxRecDepth 100000 in
theorem l_Program_addBytes_2 {p : Program} {l : Launch} {e : Env} {s : State} {m : MethodId} {args : Array Value} {below : List Frame} {meth : Method} {c : Code} {Q : State → Prop} {A : Nat → Prop} (dC : Nat → ClassId) (dI : Nat → Nat → Nat) (N : Nat) (cB : ClassId) (o_Program : Nat) (r_P_words : Nat) (r_P_bytes : Nat) (r_P_ends : Nat) (P_size : Int32) (P_constants : Int32) (P_closed : Int32) (P_open : Int32) (n_P_bytes : Nat) (f_P_bytes : Nat → Int32) (p0 : Int64) (z1_1 : Int32) (z9_1 : Nat) (a9_r : Nat) {α : Type} {Z1 : α} {Zc Zs : Nat} (hx : p.tables.exec = Jvm.exec) (hb : c.code = b_Program_addBytes) (hml : c.maxLocals = 6) (hown : s.vm.findClass R_Program = some m.cls) (hg : ∀ w ∈ lw_g, w.before args s = true) (hN : dz_N s) (hK : va_K (dC, dI) classes [(cB, .byte)] s) (hA : ∀ q : Nat, s.heap.size ≤ q → A q) {k2_108 : Int32 → (Nat → Int32) → Option (α × Nat × Nat)} (hk2_108 : ∀ (v2_5 : Int32) (w2_f_f_P_bytes : (Nat → Int32))  (z : α × Nat × Nat) (cc cs : Nat) (H : Heap) (locs : List Loc) (ls : Array Slot), k2_108 v2_5 w2_f_f_P_bytes = some z → dz_G Z1 Zc Zs z cc cs → va_P (dC, dI) classes [(o_Program, .inr (0, [.ref r_P_words, .int P_size, .ref a9_r, .ref r_P_ends, .int P_constants, .int P_closed, .int P_open])), (r_P_bytes, .inl (cB, n_P_bytes, .inl f_P_bytes)), (a9_r, .inl (cB, z9_1, .inl w2_f_f_P_bytes))] H → va_D A [(o_Program, .inr (0, [.ref r_P_words, .int P_size, .ref a9_r, .ref r_P_ends, .int P_constants, .int P_closed, .int P_open])), (r_P_bytes, .inl (cB, n_P_bytes, .inl f_P_bytes)), (a9_r, .inl (cB, z9_1, .inl w2_f_f_P_bytes))] → va_S A s.heap H locs → lv_has ls 6 [(5, .int v2_5), (4, .int ((P_closed + P_open) + z1_1)), (3, .int z1_1), (0, .ref o_Program), (1, .long p0)] → W p l e ({ frames := 2, cells := Zc, slots := Zs, locals := 82 } : Room) s m args below meth c H locs cc cs Q (F0 m 108 ls [])) : ∀ (n2 : Nat) (v2_5 : Int32) (w2_f_f_P_bytes : (Nat → Int32))  (z : α × Nat × Nat) (cc cs : Nat) (H : Heap) (locs : List Loc) (ls : Array Slot), lm_Program_addBytes_2 N P_closed P_open p0 z1_1 z9_1 k2_108 n2 v2_5 w2_f_f_P_bytes = some z → dz_G Z1 Zc Zs z cc cs → va_P (dC, dI) classes [(o_Program, .inr (0, [.ref r_P_words, .int P_size, .ref a9_r, .ref r_P_ends, .int P_constants, .int P_closed, .int P_open])), (r_P_bytes, .inl (cB, n_P_bytes, .inl f_P_bytes)), (a9_r, .inl (cB, z9_1, .inl w2_f_f_P_bytes))] H → va_D A [(o_Program, .inr (0, [.ref r_P_words, .int P_size, .ref a9_r, .ref r_P_ends, .int P_constants, .int P_closed, .int P_open])), (r_P_bytes, .inl (cB, n_P_bytes, .inl f_P_bytes)), (a9_r, .inl (cB, z9_1, .inl w2_f_f_P_bytes))] → va_S A s.heap H locs → lv_has ls 6 [(5, .int v2_5), (4, .int ((P_closed + P_open) + z1_1)), (3, .int z1_1), (0, .ref o_Program), (1, .long p0)] → W p l e ({ frames := 2, cells := Zc, slots := Zs, locals := 82 } : Room) s m args below meth c H locs cc cs Q (F0 m 70 ls []) := by
  intro n2
  induction n2 with
  | zero =>
    intro v2_5 w2_f_f_P_bytes z cc cs H locs ls h hG hP hD hS hl
    rw [lm_Program_addBytes_2] at h
    cases h
  | succ n2 ih2 =>
    intro v2_5 w2_f_f_P_bytes z cc cs H locs ls h hG hP hD hS hl
    rw [lm_Program_addBytes_2] at h
    refine lv_iload hx hb d_Program_addBytes_70 (lv_at hl 0 rfl) ?_
    refine lv_iload_n hx hb d_Program_addBytes_72 rfl (lv_at hl 2 rfl) ?_
    refine lv_icmp_ge (tgt := 108) hx hb d_Program_addBytes_73 (by decide) (fun c10 => ?_) (fun c10 => ?_)
    · rw [if_pos c10] at h
      exact hk2_108 v2_5 w2_f_f_P_bytes _ _ _ _ _ _ h hG (hP.sub [0, 1, 2] rfl) (hD.sub [0, 1, 2] (by decide) rfl) hS (lv_sub hl [0, 1, 2, 3, 4] rfl)
    · rw [if_neg c10] at h
      refine lv_aload_n hx hb d_Program_addBytes_76 rfl (lv_at hl 3 rfl) ?_
      refine va_get (D := (dC, dI)) (ci := 0) (v := .ref a9_r) (C := R_Program) (T := F_Program) (N := 7) hx hb hg i_Program hown hK hP 0 rfl rfl 2 (by decide) (hg _ k35) (fun _ h9 => h9) rfl d_Program_addBytes_77 ?_
      refine lv_aload_n hx hb d_Program_addBytes_80 rfl (lv_at hl 3 rfl) ?_
      refine va_get (D := (dC, dI)) (ci := 0) (v := .int P_closed) (C := R_Program) (T := F_Program) (N := 7) hx hb hg i_Program hown hK hP 0 rfl rfl 5 (by decide) (hg _ k34) (fun _ h9 => h9) rfl d_Program_addBytes_81 ?_
      refine lv_aload_n hx hb d_Program_addBytes_84 rfl (lv_at hl 3 rfl) ?_
      refine va_get (D := (dC, dI)) (ci := 0) (v := .int P_open) (C := R_Program) (T := F_Program) (N := 7) hx hb hg i_Program hown hK hP 0 rfl rfl 6 (by decide) (hg _ k33) (fun _ h9 => h9) rfl d_Program_addBytes_85 ?_
      refine lv_iadd hx hb d_Program_addBytes_88 ?_
      refine lv_iload hx hb d_Program_addBytes_89 (lv_at hl 0 rfl) ?_
      refine lv_iadd hx hb d_Program_addBytes_91 ?_
      refine lv_lload_n hx hb d_Program_addBytes_92 rfl (lv_at hl 4 rfl) ?_
      refine lv_bipush (v := 8) hx hb d_Program_addBytes_93 (by decide) ?_
      refine lv_iload hx hb d_Program_addBytes_95 (lv_at hl 0 rfl) ?_
      refine lv_imul hx hb d_Program_addBytes_97 ?_
      refine lv_lushr (v := (p0.toUInt64 >>> ((8 * v2_5).toInt64.toUInt64 &&& Int64.toUInt64 63)).toInt64) hx hb d_Program_addBytes_98 rfl ?_
      obtain ⟨x11, ex11, h⟩ := dz_lt h
      refine dz_topl ex11 ?_
      refine lv_l2i (v := x11.toInt32) hx hb d_Program_addBytes_99 rfl ?_
      refine lv_i2b (v := x11.toInt32.toInt8.toInt32) hx hb d_Program_addBytes_100 rfl ?_
      obtain ⟨i12, h⟩ := dz_oi h
      refine va_bast (D := (dC, dI)) hx hb hK hP hD hS 2 0 rfl rfl i12 d_Program_addBytes_101 (fun H locs hP hD hS => ?_)
      obtain ⟨g13, eg13, h⟩ := dz_lt h
      rw [← eg13] at hP hD
      have hP : va_P (dC, dI) classes [(o_Program, .inr (0, [.ref r_P_words, .int P_size, .ref a9_r, .ref r_P_ends, .int P_constants, .int P_closed, .int P_open])), (r_P_bytes, .inl (cB, n_P_bytes, .inl f_P_bytes)), (a9_r, .inl (cB, z9_1, .inl g13))] H := hP
      have hD : va_D A [(o_Program, .inr (0, [.ref r_P_words, .int P_size, .ref a9_r, .ref r_P_ends, .int P_constants, .int P_closed, .int P_open])), (r_P_bytes, .inl (cB, n_P_bytes, .inl f_P_bytes)), (a9_r, .inl (cB, z9_1, .inl g13))] := hD
      refine lv_iinc (v := v2_5 + 1) (lv' := [(5, .int (v2_5 + 1)), (4, .int ((P_closed + P_open) + z1_1)), (3, .int z1_1), (0, .ref o_Program), (1, .long p0)]) hx hb d_Program_addBytes_102 hl (k := 0) rfl rfl (by decide) rfl (fun ls hl => ?_)
      refine lv_goto (tgt := 70) hx hb d_Program_addBytes_105 (by decide) ?_
      exact ih2 (v2_5 + 1) g13 _ _ _ _ _ _ h hG (hP.sub [0, 1, 2] rfl) (hD.sub [0, 1, 2] (by decide) rfl) hS (lv_sub hl [0, 1, 2, 3, 4] rfl)
def m_Program_addBytes (N : Nat) (P_size : Int32) (P_constants : Int32) (P_closed : Int32) (P_open : Int32) (n_P_bytes : Nat) (f_P_bytes : Nat → Int32) (p0 : Int64) : Option ((Int32 × Int32 × Nat × (Nat → Int32)) × Nat × Nat) := ((m_Program_bytesBeforeZero N P_size P_constants P_closed P_open p0).bind fun z1_1 => (if (P_open + z1_1) ≤ 4096 then (if ((P_closed + P_open) + z1_1) ≤ (Int32.ofNat n_P_bytes) then lm_Program_addBytes_1 N P_closed P_open n_P_bytes p0 z1_1 (fun (v1_5 : Int32) (w1_f_f_P_bytes : (Nat → Int32)) => some (((P_open + z1_1), P_open + z1_1, n_P_bytes, w1_f_f_P_bytes), 0, 0)) N (0 : Int32) f_P_bytes else ((m_Engine_longer N (Int32.ofNat n_P_bytes) ((P_closed + P_open) + z1_1) (69632 : Int32)).bind fun z8_1 => ((m_Arrays_copyOfB N n_P_bytes f_P_bytes z8_1).bind fun ((z9_1, z9_2), zc9, zs9) => dz_tk zc9 zs9 (lm_Program_addBytes_2 N P_closed P_open p0 z1_1 z9_1 (fun (v2_5 : Int32) (w2_f_f_P_bytes : (Nat → Int32)) => some (((P_open + z1_1), P_open + z1_1, z9_1, w2_f_f_P_bytes), 0, 0)) N (0 : Int32) z9_2)))) else some (((-2 : Int32), P_open, n_P_bytes, f_P_bytes), 0, 0)))
set_option maxHeartbeats 4000000 in
set_option maxRecDepth 100000 in
theorem c_Program_addBytes (l : Launch) (dC : Nat → ClassId) (dI : Nat → Nat → Nat) (N : Nat) (cB : ClassId) (o_Program : Nat) (r_P_words : Nat) (r_P_bytes : Nat) (r_P_ends : Nat) (P_size : Int32) (P_constants : Int32) (P_closed : Int32) (P_open : Int32) (n_P_bytes : Nat) (f_P_bytes : Nat → Int32) (p0 : Int64) (sz : Nat) (Z1 : Int32 × Int32 × Nat × (Nat → Int32)) (Zc Zs : Nat) (h : m_Program_addBytes N P_size P_constants P_closed P_open n_P_bytes f_P_bytes p0 = some (Z1, Zc, Zs)) : Met l y_Program_addBytes (.code y_Program_addBytes b_Program_addBytes 6 (some .int) :: lw_g) ({ frames := 2, cells := Zc, slots := Zs, locals := 82 }) (va_Pc [.ref o_Program, .long p0] (fun U => dz_N U ∧ U.heap.size = sz ∧ va_P (dC, dI) classes [(o_Program, .inr (0, [.ref r_P_words, .int P_size, .ref r_P_bytes, .ref r_P_ends, .int P_constants, .int P_closed, .int P_open])), (r_P_bytes, .inl (cB, n_P_bytes, .inl f_P_bytes))] U.heap ∧ va_K (dC, dI) classes [(cB, .byte)] U ∧ va_D (fun _ => True) [(o_Program, .inr (0, [.ref r_P_words, .int P_size, .ref r_P_bytes, .ref r_P_ends, .int P_constants, .int P_closed, .int P_open])), (r_P_bytes, .inl (cB, n_P_bytes, .inl f_P_bytes))])) (va_Qi (fun (r : Int32) (_ : Nat) => r = Z1.1) (fun (u : Nat) t => va_P (dC, dI) classes [(o_Program, .inr (0, [.ref r_P_words, .int P_size, .ref u, .ref r_P_ends, .int P_constants, .int P_closed, .int Z1.2.1])), (u, .inl (cB, Z1.2.2.1, .inl Z1.2.2.2))] t.heap ∧ va_K (dC, dI) classes [(cB, .byte)] t ∧ va_D (va_A [(o_Program, .inr (0, [.ref r_P_words, .int P_size, .ref r_P_bytes, .ref r_P_ends, .int P_constants, .int P_closed, .int P_open])), (r_P_bytes, .inl (cB, n_P_bytes, .inl f_P_bytes))] sz) [(o_Program, .inr (0, [.ref r_P_words, .int P_size, .ref u, .ref r_P_ends, .int P_constants, .int P_closed, .int Z1.2.1])), (u, .inl (cB, Z1.2.2.1, .inl Z1.2.2.2))]) (va_A [(o_Program, .inr (0, [.ref r_P_words, .int P_size, .ref r_P_bytes, .ref r_P_ends, .int P_constants, .int P_closed, .int P_open])), (r_P_bytes, .inl (cB, n_P_bytes, .inl f_P_bytes))] sz)) Zc Zs (va_A [(o_Program, .inr (0, [.ref r_P_words, .int P_size, .ref r_P_bytes, .ref r_P_ends, .int P_constants, .int P_closed, .int P_open])), (r_P_bytes, .inl (cB, n_P_bytes, .inl f_P_bytes))] sz) := by
  refine Met.ofW (cc := b_Program_addBytes) (maxL := 6) (ret := (some .int)) (by decide +kernel) rfl ?_
  intro p e s m args below meth c s₁ B hml hv
  obtain ⟨rfl, hN, hsz, hP, hK, hD0⟩ := hv
  have hx := B.exec
  have hb := B.bytes
  have hr := B.returns
  have hg : ∀ w ∈ lw_g, w.before _ s = true := fun w hw => atoms_spec (ws := .code y_Program_addBytes b_Program_addBytes 6 (some .int) :: lw_g) B.pre w (List.mem_cons_of_mem _ hw)
  have hown : s.vm.findClass R_Program = some m.cls := findClass_of_methodNamed B.named
  have hlocks := B.notSynchronized
  clear B
  subst hsz
  have hD := hD0.self (sz := s.heap.size)
  generalize hAe : va_A [(o_Program, .inr (0, [.ref r_P_words, .int P_size, .ref r_P_bytes, .ref r_P_ends, .int P_constants, .int P_closed, .int P_open])), (r_P_bytes, .inl (cB, n_P_bytes, .inl f_P_bytes))] s.heap.size = A at hD ⊢
  have hA : ∀ q : Nat, s.heap.size ≤ q → A q := fun q h => by rw [← hAe]; exact Or.inr h
  have hS : va_S A s.heap s.heap [] := va_S.rf
  have hP : va_P (dC, dI) classes [(o_Program, .inr (0, [.ref r_P_words, .int P_size, .ref r_P_bytes, .ref r_P_ends, .int P_constants, .int P_closed, .int P_open])), (r_P_bytes, .inl (cB, n_P_bytes, .inl f_P_bytes))] s.heap := hP
  have hl := lv_entry ([.ref o_Program, .long p0]) (n := 6) (Nat.le_of_ble_eq_true rfl)
  rw [lg_entry_eq]
  generalize (lg_sl ([.ref o_Program, .long p0]) ++ List.replicate (6 - (lg_sl ([.ref o_Program, .long p0])).length) Slot.unset).toArray = ls at hl ⊢
  have hl : lv_has ls 6 [(0, .ref o_Program), (1, .long p0)] := hl
  unfold m_Program_addBytes at h
  have hG : dz_G Z1 Zc Zs (Z1, Zc, Zs) 0 0 := ⟨rfl, (Nat.zero_add _).symm, (Nat.zero_add _).symm⟩
  generalize (Z1, Zc, Zs) = z at h hG
  refine lv_aload_n hx hb d_Program_addBytes_0 rfl (lv_at hl 0 rfl) ?_
  refine lv_lload_n hx hb d_Program_addBytes_1 rfl (lv_at hl 1 rfl) ?_
  obtain ⟨z1_1, hc1, h⟩ := dz_ob h
  try dsimp only at h
  have hPc := hP.sub (ws' := [(o_Program, .inr (0, [.ref r_P_words, .int P_size, .ref r_P_bytes, .ref r_P_ends, .int P_constants, .int P_closed, .int P_open]))]) [0] rfl
  have hKc := hK.sub (tys' := []) [] rfl
  refine vp_callSi (va_Run.run (va_runV (As := [.long p0]) (rest := []) ⟨hx, hb, hml, hown, hg⟩ (c_Program_bytesBeforeZero l dC dI N o_Program r_P_words r_P_bytes r_P_ends P_size P_constants P_closed P_open p0 z1_1 hc1) (cwV 1 hg (gd_V k38 k39 k40 k41 k37) rfl rfl rfl (by decide +kernel) ⟨Nat.le_of_ble_eq_true rfl, Nat.le_of_ble_eq_true rfl⟩) ⟨dz_blindR, va_recv hKc hPc (ci := 0) (q0 := 0) rfl rfl, fun U hU hW => ⟨rfl, dz_Nw hW hN, by rw [hU]; exact hPc, va_K.moved hW.alike hKc⟩⟩ rfl rfl hl.1 rfl (lv_room (Nat.le_of_ble_eq_true rfl)) d_Program_addBytes_2 ⟨dz_Gc hG, dz_Gs hG⟩)) (fun r1 hw => ?_)
  have hw : z1_1 = r1 := hw.symm
  subst hw
  refine lv_istore_n (lv' := [(3, .int z1_1), (0, .ref o_Program), (1, .long p0)]) hx hb d_Program_addBytes_5 rfl hl (by decide) rfl (fun ls hl => ?_)
  refine lv_aload_n hx hb d_Program_addBytes_6 rfl (lv_at hl 1 rfl) ?_
  refine va_get (D := (dC, dI)) (ci := 0) (v := .int P_open) (C := R_Program) (T := F_Program) (N := 7) hx hb hg i_Program hown hK hP 0 rfl rfl 6 (by decide) (hg _ k33) (fun _ h9 => h9) rfl d_Program_addBytes_7 ?_
  refine lv_iload_n hx hb d_Program_addBytes_10 rfl (lv_at hl 0 rfl) ?_
  refine lv_iadd hx hb d_Program_addBytes_11 ?_
  refine lv_sipush (v := 4096) hx hb d_Program_addBytes_12 (by decide) ?_
  refine lv_icmp_le (tgt := 21) hx hb d_Program_addBytes_15 (by decide) (fun c2 => ?_) (fun c2 => ?_)
  · rw [if_pos c2] at h
    refine lv_aload_n hx hb d_Program_addBytes_21 rfl (lv_at hl 1 rfl) ?_
    refine va_get (D := (dC, dI)) (ci := 0) (v := .int P_closed) (C := R_Program) (T := F_Program) (N := 7) hx hb hg i_Program hown hK hP 0 rfl rfl 5 (by decide) (hg _ k34) (fun _ h9 => h9) rfl d_Program_addBytes_22 ?_
    refine lv_aload_n hx hb d_Program_addBytes_25 rfl (lv_at hl 1 rfl) ?_
    refine va_get (D := (dC, dI)) (ci := 0) (v := .int P_open) (C := R_Program) (T := F_Program) (N := 7) hx hb hg i_Program hown hK hP 0 rfl rfl 6 (by decide) (hg _ k33) (fun _ h9 => h9) rfl d_Program_addBytes_26 ?_
    refine lv_iadd hx hb d_Program_addBytes_29 ?_
    refine lv_iload_n hx hb d_Program_addBytes_30 rfl (lv_at hl 0 rfl) ?_
    refine lv_iadd hx hb d_Program_addBytes_31 ?_
    refine lv_istore (lv' := [(4, .int ((P_closed + P_open) + z1_1)), (3, .int z1_1), (0, .ref o_Program), (1, .long p0)]) hx hb d_Program_addBytes_32 hl (by decide) rfl (fun ls hl => ?_)
    refine lv_iload hx hb d_Program_addBytes_34 (lv_at hl 0 rfl) ?_
    refine lv_aload_n hx hb d_Program_addBytes_36 rfl (lv_at hl 2 rfl) ?_
    refine va_get (D := (dC, dI)) (ci := 0) (v := .ref r_P_bytes) (C := R_Program) (T := F_Program) (N := 7) hx hb hg i_Program hown hK hP 0 rfl rfl 2 (by decide) (hg _ k35) (fun _ h9 => h9) rfl d_Program_addBytes_37 ?_
    refine va_alen (D := (dC, dI)) (v := Int32.ofNat n_P_bytes) hx hb hK hP 1 0 rfl rfl rfl d_Program_addBytes_40 ?_
    refine lv_icmp_le (tgt := 67) hx hb d_Program_addBytes_41 (by decide) (fun c3 => ?_) (fun c3 => ?_)
    · rw [if_pos c3] at h
      refine lv_iconst (v := 0) hx hb d_Program_addBytes_67 (by decide) ?_
      refine lv_istore (lv' := [(5, .int 0), (4, .int ((P_closed + P_open) + z1_1)), (3, .int z1_1), (0, .ref o_Program), (1, .long p0)]) hx hb d_Program_addBytes_68 hl (by decide) rfl (fun ls hl => ?_)
      refine l_Program_addBytes_1 dC dI N cB o_Program r_P_words r_P_bytes r_P_ends P_size P_constants P_closed P_open n_P_bytes p0 z1_1 hx hb hml hown hg hN hK hA (fun v1_5 w1_f_f_P_bytes z cc cs H locs ls h hG hP hD hS hl => ?_) N (0 : Int32) f_P_bytes _ _ _ _ _ _ h hG (hP.sub [0, 1] rfl) (hD.sub [0, 1] (by decide) rfl) hS (lv_sub hl [0, 1, 2, 3, 4] rfl)
      refine lv_aload_n hx hb d_Program_addBytes_108 rfl (lv_at hl 3 rfl) ?_
      refine lv_dup hx hb d_Program_addBytes_109 rfl ?_
      refine va_get (D := (dC, dI)) (ci := 0) (v := .int P_open) (C := R_Program) (T := F_Program) (N := 7) hx hb hg i_Program hown hK hP 0 rfl rfl 6 (by decide) (hg _ k33) (fun _ h9 => h9) rfl d_Program_addBytes_110 ?_
      refine lv_iload_n hx hb d_Program_addBytes_113 rfl (lv_at hl 2 rfl) ?_
      refine lv_iadd hx hb d_Program_addBytes_114 ?_
      refine va_put (D := (dC, dI)) (ci := 0) (v := .int (P_open + z1_1)) (ty := .int) (C := R_Program) (T := F_Program) (N := 7) hx hb hg i_Program t_Program t_Program_ok n_Program hown hK hP hD hS 0 rfl rfl 6 (by decide) (hg _ k33) (fun _ h9 => h9) rfl (by decide +kernel) rfl rfl (Nat.le_of_ble_eq_true rfl) d_Program_addBytes_115 (fun H locs hP hD hS => ?_)
      have hP : va_P (dC, dI) classes [(o_Program, .inr (0, [.ref r_P_words, .int P_size, .ref r_P_bytes, .ref r_P_ends, .int P_constants, .int P_closed, .int (P_open + z1_1)])), (r_P_bytes, .inl (cB, n_P_bytes, .inl w1_f_f_P_bytes))] H := hP
      have hD : va_D A [(o_Program, .inr (0, [.ref r_P_words, .int P_size, .ref r_P_bytes, .ref r_P_ends, .int P_constants, .int P_closed, .int (P_open + z1_1)])), (r_P_bytes, .inl (cB, n_P_bytes, .inl w1_f_f_P_bytes))] := hD
      refine lv_aload_n hx hb d_Program_addBytes_118 rfl (lv_at hl 3 rfl) ?_
      refine va_get (D := (dC, dI)) (ci := 0) (v := .int (P_open + z1_1)) (C := R_Program) (T := F_Program) (N := 7) hx hb hg i_Program hown hK hP 0 rfl rfl 6 (by decide) (hg _ k33) (fun _ h9 => h9) rfl d_Program_addBytes_119 ?_
      obtain rfl := Option.some.inj h
      have hP9 := hP.sub (ws' := [(o_Program, .inr (0, [.ref r_P_words, .int P_size, .ref r_P_bytes, .ref r_P_ends, .int P_constants, .int P_closed, .int (P_open + z1_1)])), (r_P_bytes, .inl (cB, n_P_bytes, .inl w1_f_f_P_bytes))]) [0, 1] rfl
      have hD9 := hD.sub (ws' := [(o_Program, .inr (0, [.ref r_P_words, .int P_size, .ref r_P_bytes, .ref r_P_ends, .int P_constants, .int P_closed, .int (P_open + z1_1)])), (r_P_bytes, .inl (cB, n_P_bytes, .inl w1_f_f_P_bytes))]) [0, 1] (by decide) rfl
      have hK9 := hK.sub (tys' := [(cB, .byte)]) [0] rfl
      refine W.widen (dz_Gc hG) (dz_Gs hG) ?_
      obtain ⟨rfl, -, -⟩ := hG
      exact W.iret (v := P_open + z1_1) hx hb hr (fun t ht hW => ⟨⟨P_open + z1_1, r_P_bytes, rfl, rfl, by rw [ht]; exact hP9, va_K.moved hW.alike hK9, hD9⟩, hS.F ht⟩) hS.2.2 d_Program_addBytes_122
    · rw [if_neg c3] at h
      refine lv_aload_n hx hb d_Program_addBytes_44 rfl (lv_at hl 2 rfl) ?_
      refine lv_aload_n hx hb d_Program_addBytes_45 rfl (lv_at hl 2 rfl) ?_
      refine va_get (D := (dC, dI)) (ci := 0) (v := .ref r_P_bytes) (C := R_Program) (T := F_Program) (N := 7) hx hb hg i_Program hown hK hP 0 rfl rfl 2 (by decide) (hg _ k35) (fun _ h9 => h9) rfl d_Program_addBytes_46 ?_
      refine lv_aload_n hx hb d_Program_addBytes_49 rfl (lv_at hl 2 rfl) ?_
      refine va_get (D := (dC, dI)) (ci := 0) (v := .ref r_P_bytes) (C := R_Program) (T := F_Program) (N := 7) hx hb hg i_Program hown hK hP 0 rfl rfl 2 (by decide) (hg _ k35) (fun _ h9 => h9) rfl d_Program_addBytes_50 ?_
      refine va_alen (D := (dC, dI)) (v := Int32.ofNat n_P_bytes) hx hb hK hP 1 0 rfl rfl rfl d_Program_addBytes_53 ?_
      refine lv_iload hx hb d_Program_addBytes_54 (lv_at hl 0 rfl) ?_
      refine lv_ldc (v := 69632) hx hb hown (hg _ k36) d_Program_addBytes_56 ?_
      obtain ⟨z8_1, hc8, h⟩ := dz_ob h
      try dsimp only at h
      have hPc := hP.sub (ws' := []) [] rfl
      have hKc := hK.sub (tys' := []) [] rfl
      refine vp_callSi (va_Run.run (va_runSN (As := [.int (Int32.ofNat n_P_bytes), .int ((P_closed + P_open) + z1_1), .int 69632]) (rest := [.ref r_P_bytes, .ref o_Program]) ⟨hx, hb, hml, hown, hg⟩ (c_Engine_longer l dC dI N (Int32.ofNat n_P_bytes) ((P_closed + P_open) + z1_1) (69632 : Int32) z8_1 hc8) ⟨va_cnB 3 hg (gd_N k26) rfl rfl rfl hN.2.2.2.2.1 (hg _ k27) (by decide +kernel) ⟨Nat.le_of_ble_eq_true rfl, Nat.le_of_ble_eq_true rfl⟩, hg _ k28, trivial⟩ ⟨dz_blindR, fun U hU hW => ⟨rfl, dz_Nw hW hN, by rw [hU]; exact hPc, va_K.moved hW.alike hKc⟩⟩ rfl rfl hl.1 rfl (lv_room (Nat.le_of_ble_eq_true rfl)) d_Program_addBytes_58 ⟨dz_Gc hG, dz_Gs hG⟩)) (fun r8 hw => ?_)
      have hw : z8_1 = r8 := hw.symm
      subst hw
      obtain ⟨⟨⟨z9_1, z9_2⟩, zc9, zs9⟩, hc9, h⟩ := dz_ob h
      try dsimp only at h
      obtain ⟨z, h, hG⟩ := dz_tkG h hG
      have hPc := hP.sub (ws' := [(r_P_bytes, .inl (cB, n_P_bytes, .inl f_P_bytes))]) [1] rfl
      have hKc := hK.sub (tys' := [(cB, .byte)]) [0] rfl
      have hDc := hD.sub (ws' := [(r_P_bytes, .inl (cB, n_P_bytes, .inl f_P_bytes))]) [1] (by decide) rfl
      have hFc := va_free (wc := [(r_P_bytes, .inl (cB, n_P_bytes, .inl f_P_bytes))]) hD hS hA [1] rfl
      refine va_callr (va_runS (As := [.ref r_P_bytes, .int z8_1]) (rest := [.ref o_Program]) ⟨hx, hb, hml, hown, hg⟩ (c_Arrays_copyOfB l dC dI N cB r_P_bytes n_P_bytes f_P_bytes z8_1 s.heap.size (z9_1, z9_2) zc9 zs9 hc9) (va_cwS 2 hg (gd_S k43 k44 k22 k42) rfl rfl rfl (by decide +kernel) ⟨Nat.le_of_ble_eq_true rfl, Nat.le_of_ble_eq_true rfl⟩) ⟨dz_blind, fun U hU hW => ⟨rfl, dz_Nw hW hN, by rw [hU], by rw [hU]; exact hPc, va_K.moved hW.alike hKc, hDc.weaken (fun _ _ _ _ => trivial)⟩⟩ rfl rfl hl.1 rfl (lv_room (Nat.le_of_ble_eq_true rfl)) d_Program_addBytes_61 ⟨dz_Gc hG, dz_Gs hG⟩) hS (fun q _ h => hFc q h) hFc (fun u9 a9_r t9 H1 locs ht hvm hw hB hz1 hk1 hS => ?_)
      obtain ⟨hP1, hK1, hD1⟩ := hB
      rw [ht] at hP1
      obtain ⟨hP, hD⟩ := va_join (wr := [(o_Program, .inr (0, [.ref r_P_words, .int P_size, .ref r_P_bytes, .ref r_P_ends, .int P_constants, .int P_closed, .int P_open]))]) (w1 := [(r_P_bytes, .inl (cB, n_P_bytes, .inl f_P_bytes)), (a9_r, .inl (cB, z9_1, .inl z9_2))]) hP hD [1] [0] rfl rfl (by decide) (by decide) hk1 hFc hP1 hD1
      generalize H1 = H at hP hS ⊢
      have hP : va_P (dC, dI) classes [(o_Program, .inr (0, [.ref r_P_words, .int P_size, .ref r_P_bytes, .ref r_P_ends, .int P_constants, .int P_closed, .int P_open])), (r_P_bytes, .inl (cB, n_P_bytes, .inl f_P_bytes)), (a9_r, .inl (cB, z9_1, .inl z9_2))] H := hP
      have hD : va_D A [(o_Program, .inr (0, [.ref r_P_words, .int P_size, .ref r_P_bytes, .ref r_P_ends, .int P_constants, .int P_closed, .int P_open])), (r_P_bytes, .inl (cB, n_P_bytes, .inl f_P_bytes)), (a9_r, .inl (cB, z9_1, .inl z9_2))] := hD
      refine va_put (D := (dC, dI)) (ci := 0) (v := .ref a9_r) (ty := .array .byte) (C := R_Program) (T := F_Program) (N := 7) hx hb hg i_Program t_Program t_Program_ok n_Program hown hK hP hD hS 0 rfl rfl 2 (by decide) (hg _ k35) (fun _ h9 => h9) rfl (by decide +kernel) rfl rfl (Nat.le_of_ble_eq_true rfl) d_Program_addBytes_64 (fun H locs hP hD hS => ?_)
      have hP : va_P (dC, dI) classes [(o_Program, .inr (0, [.ref r_P_words, .int P_size, .ref a9_r, .ref r_P_ends, .int P_constants, .int P_closed, .int P_open])), (r_P_bytes, .inl (cB, n_P_bytes, .inl f_P_bytes)), (a9_r, .inl (cB, z9_1, .inl z9_2))] H := hP
      have hD : va_D A [(o_Program, .inr (0, [.ref r_P_words, .int P_size, .ref a9_r, .ref r_P_ends, .int P_constants, .int P_closed, .int P_open])), (r_P_bytes, .inl (cB, n_P_bytes, .inl f_P_bytes)), (a9_r, .inl (cB, z9_1, .inl z9_2))] := hD
      refine lv_iconst (v := 0) hx hb d_Program_addBytes_67 (by decide) ?_
      refine lv_istore (lv' := [(5, .int 0), (4, .int ((P_closed + P_open) + z1_1)), (3, .int z1_1), (0, .ref o_Program), (1, .long p0)]) hx hb d_Program_addBytes_68 hl (by decide) rfl (fun ls hl => ?_)
      refine l_Program_addBytes_2 dC dI N cB o_Program r_P_words r_P_bytes r_P_ends P_size P_constants P_closed P_open n_P_bytes f_P_bytes p0 z1_1 z9_1 a9_r hx hb hml hown hg hN hK hA (fun v2_5 w2_f_f_P_bytes z cc cs H locs ls h hG hP hD hS hl => ?_) N (0 : Int32) z9_2 _ _ _ _ _ _ h hG (hP.sub [0, 1, 2] rfl) (hD.sub [0, 1, 2] (by decide) rfl) hS (lv_sub hl [0, 1, 2, 3, 4] rfl)
      refine lv_aload_n hx hb d_Program_addBytes_108 rfl (lv_at hl 3 rfl) ?_
      refine lv_dup hx hb d_Program_addBytes_109 rfl ?_
      refine va_get (D := (dC, dI)) (ci := 0) (v := .int P_open) (C := R_Program) (T := F_Program) (N := 7) hx hb hg i_Program hown hK hP 0 rfl rfl 6 (by decide) (hg _ k33) (fun _ h9 => h9) rfl d_Program_addBytes_110 ?_
      refine lv_iload_n hx hb d_Program_addBytes_113 rfl (lv_at hl 2 rfl) ?_
      refine lv_iadd hx hb d_Program_addBytes_114 ?_
      refine va_put (D := (dC, dI)) (ci := 0) (v := .int (P_open + z1_1)) (ty := .int) (C := R_Program) (T := F_Program) (N := 7) hx hb hg i_Program t_Program t_Program_ok n_Program hown hK hP hD hS 0 rfl rfl 6 (by decide) (hg _ k33) (fun _ h9 => h9) rfl (by decide +kernel) rfl rfl (Nat.le_of_ble_eq_true rfl) d_Program_addBytes_115 (fun H locs hP hD hS => ?_)
      have hP : va_P (dC, dI) classes [(o_Program, .inr (0, [.ref r_P_words, .int P_size, .ref a9_r, .ref r_P_ends, .int P_constants, .int P_closed, .int (P_open + z1_1)])), (r_P_bytes, .inl (cB, n_P_bytes, .inl f_P_bytes)), (a9_r, .inl (cB, z9_1, .inl w2_f_f_P_bytes))] H := hP
      have hD : va_D A [(o_Program, .inr (0, [.ref r_P_words, .int P_size, .ref a9_r, .ref r_P_ends, .int P_constants, .int P_closed, .int (P_open + z1_1)])), (r_P_bytes, .inl (cB, n_P_bytes, .inl f_P_bytes)), (a9_r, .inl (cB, z9_1, .inl w2_f_f_P_bytes))] := hD
      refine lv_aload_n hx hb d_Program_addBytes_118 rfl (lv_at hl 3 rfl) ?_
      refine va_get (D := (dC, dI)) (ci := 0) (v := .int (P_open + z1_1)) (C := R_Program) (T := F_Program) (N := 7) hx hb hg i_Program hown hK hP 0 rfl rfl 6 (by decide) (hg _ k33) (fun _ h9 => h9) rfl d_Program_addBytes_119 ?_
      obtain rfl := Option.some.inj h
      have hP9 := hP.sub (ws' := [(o_Program, .inr (0, [.ref r_P_words, .int P_size, .ref a9_r, .ref r_P_ends, .int P_constants, .int P_closed, .int (P_open + z1_1)])), (a9_r, .inl (cB, z9_1, .inl w2_f_f_P_bytes))]) [0, 2] rfl
      have hD9 := hD.sub (ws' := [(o_Program, .inr (0, [.ref r_P_words, .int P_size, .ref a9_r, .ref r_P_ends, .int P_constants, .int P_closed, .int (P_open + z1_1)])), (a9_r, .inl (cB, z9_1, .inl w2_f_f_P_bytes))]) [0, 2] (by decide) rfl
      have hK9 := hK.sub (tys' := [(cB, .byte)]) [0] rfl
      refine W.widen (dz_Gc hG) (dz_Gs hG) ?_
      obtain ⟨rfl, -, -⟩ := hG
      exact W.iret (v := P_open + z1_1) hx hb hr (fun t ht hW => ⟨⟨P_open + z1_1, a9_r, rfl, rfl, by rw [ht]; exact hP9, va_K.moved hW.alike hK9, hD9⟩, hS.F ht⟩) hS.2.2 d_Program_addBytes_122
  · rw [if_neg c2] at h
    refine lv_bipush (v := (-2)) hx hb d_Program_addBytes_18 (by decide) ?_
    obtain rfl := Option.some.inj h
    have hP9 := hP.sub (ws' := [(o_Program, .inr (0, [.ref r_P_words, .int P_size, .ref r_P_bytes, .ref r_P_ends, .int P_constants, .int P_closed, .int P_open])), (r_P_bytes, .inl (cB, n_P_bytes, .inl f_P_bytes))]) [0, 1] rfl
    have hD9 := hD.sub (ws' := [(o_Program, .inr (0, [.ref r_P_words, .int P_size, .ref r_P_bytes, .ref r_P_ends, .int P_constants, .int P_closed, .int P_open])), (r_P_bytes, .inl (cB, n_P_bytes, .inl f_P_bytes))]) [0, 1] (by decide) rfl
    have hK9 := hK.sub (tys' := [(cB, .byte)]) [0] rfl
    refine W.widen (dz_Gc hG) (dz_Gs hG) ?_
    obtain ⟨rfl, -, -⟩ := hG
    exact W.iret (v := (-2)) hx hb hr (fun t ht hW => ⟨⟨(-2), r_P_bytes, rfl, rfl, by rw [ht]; exact hP9, va_K.moved hW.alike hK9, hD9⟩, hS.F ht⟩) hS.2.2 d_Program_addBytes_20

def m_Program_endConstant (N : Nat) (P_size : Int32) (P_constants : Int32) (P_closed : Int32) (P_open : Int32) (n_P_ends : Nat) (f_P_ends : Nat → Int32) : Option ((Int32 × Int32 × Int32 × Int32 × Nat × (Nat → Int32)) × Nat × Nat) := (if 1024 ≤ P_constants then some (((-2 : Int32), P_closed, P_constants, P_open, n_P_ends, f_P_ends), 0, 0) else (if (P_closed + P_open) ≤ 65536 then (if P_constants < (Int32.ofNat n_P_ends) then (if P_constants < 0 ∨ n_P_ends ≤ P_constants.toNatClampNeg then none else some ((P_constants, P_closed + P_open, P_constants + 1, (0 : Int32), n_P_ends, upd f_P_ends P_constants.toNatClampNeg (P_closed + P_open)), 0, 0)) else ((m_Engine_longer N (Int32.ofNat n_P_ends) (P_constants + 1) (1024 : Int32)).bind fun z5_1 => ((m_Arrays_copyOfI N n_P_ends f_P_ends z5_1).bind fun ((z6_1, z6_2), zc6, zs6) => dz_tk zc6 zs6 ((if P_constants < 0 ∨ z6_1 ≤ P_constants.toNatClampNeg then none else some ((P_constants, P_closed + P_open, P_constants + 1, (0 : Int32), z6_1, upd z6_2 P_constants.toNatClampNeg (P_closed + P_open)), 0, 0)))))) else some (((-2 : Int32), P_closed, P_constants, P_open, n_P_ends, f_P_ends), 0, 0)))
set_option maxHeartbeats 4000000 in
set_option maxRecDepth 100000 in
theorem c_Program_endConstant (l : Launch) (dC : Nat → ClassId) (dI : Nat → Nat → Nat) (N : Nat) (cI : ClassId) (o_Program : Nat) (r_P_words : Nat) (r_P_bytes : Nat) (r_P_ends : Nat) (P_size : Int32) (P_constants : Int32) (P_closed : Int32) (P_open : Int32) (n_P_ends : Nat) (f_P_ends : Nat → Int32) (sz : Nat) (Z1 : Int32 × Int32 × Int32 × Int32 × Nat × (Nat → Int32)) (Zc Zs : Nat) (h : m_Program_endConstant N P_size P_constants P_closed P_open n_P_ends f_P_ends = some (Z1, Zc, Zs)) : Met l y_Program_endConstant (.code y_Program_endConstant b_Program_endConstant 1 (some .int) :: lw_g) ({ frames := 2, cells := Zc, slots := Zs, locals := 82 }) (va_Pc [.ref o_Program] (fun U => dz_N U ∧ U.heap.size = sz ∧ va_P (dC, dI) classes [(o_Program, .inr (0, [.ref r_P_words, .int P_size, .ref r_P_bytes, .ref r_P_ends, .int P_constants, .int P_closed, .int P_open])), (r_P_ends, .inl (cI, n_P_ends, .inl f_P_ends))] U.heap ∧ va_K (dC, dI) classes [(cI, .int)] U ∧ va_D (fun _ => True) [(o_Program, .inr (0, [.ref r_P_words, .int P_size, .ref r_P_bytes, .ref r_P_ends, .int P_constants, .int P_closed, .int P_open])), (r_P_ends, .inl (cI, n_P_ends, .inl f_P_ends))])) (va_Qi (fun (r : Int32) (_ : Nat) => r = Z1.1) (fun (u : Nat) t => va_P (dC, dI) classes [(o_Program, .inr (0, [.ref r_P_words, .int P_size, .ref r_P_bytes, .ref u, .int Z1.2.2.1, .int Z1.2.1, .int Z1.2.2.2.1])), (u, .inl (cI, Z1.2.2.2.2.1, .inl Z1.2.2.2.2.2))] t.heap ∧ va_K (dC, dI) classes [(cI, .int)] t ∧ va_D (va_A [(o_Program, .inr (0, [.ref r_P_words, .int P_size, .ref r_P_bytes, .ref r_P_ends, .int P_constants, .int P_closed, .int P_open])), (r_P_ends, .inl (cI, n_P_ends, .inl f_P_ends))] sz) [(o_Program, .inr (0, [.ref r_P_words, .int P_size, .ref r_P_bytes, .ref u, .int Z1.2.2.1, .int Z1.2.1, .int Z1.2.2.2.1])), (u, .inl (cI, Z1.2.2.2.2.1, .inl Z1.2.2.2.2.2))]) (va_A [(o_Program, .inr (0, [.ref r_P_words, .int P_size, .ref r_P_bytes, .ref r_P_ends, .int P_constants, .int P_closed, .int P_open])), (r_P_ends, .inl (cI, n_P_ends, .inl f_P_ends))] sz)) Zc Zs (va_A [(o_Program, .inr (0, [.ref r_P_words, .int P_size, .ref r_P_bytes, .ref r_P_ends, .int P_constants, .int P_closed, .int P_open])), (r_P_ends, .inl (cI, n_P_ends, .inl f_P_ends))] sz) := by
  refine Met.ofW (cc := b_Program_endConstant) (maxL := 1) (ret := (some .int)) (by decide +kernel) rfl ?_
  intro p e s m args below meth c s₁ B hml hv
  obtain ⟨rfl, hN, hsz, hP, hK, hD0⟩ := hv
  have hx := B.exec
  have hb := B.bytes
  have hr := B.returns
  have hg : ∀ w ∈ lw_g, w.before _ s = true := fun w hw => atoms_spec (ws := .code y_Program_endConstant b_Program_endConstant 1 (some .int) :: lw_g) B.pre w (List.mem_cons_of_mem _ hw)
  have hown : s.vm.findClass R_Program = some m.cls := findClass_of_methodNamed B.named
  have hlocks := B.notSynchronized
  clear B
  subst hsz
  have hD := hD0.self (sz := s.heap.size)
  generalize hAe : va_A [(o_Program, .inr (0, [.ref r_P_words, .int P_size, .ref r_P_bytes, .ref r_P_ends, .int P_constants, .int P_closed, .int P_open])), (r_P_ends, .inl (cI, n_P_ends, .inl f_P_ends))] s.heap.size = A at hD ⊢
  have hA : ∀ q : Nat, s.heap.size ≤ q → A q := fun q h => by rw [← hAe]; exact Or.inr h
  have hS : va_S A s.heap s.heap [] := va_S.rf
  have hP : va_P (dC, dI) classes [(o_Program, .inr (0, [.ref r_P_words, .int P_size, .ref r_P_bytes, .ref r_P_ends, .int P_constants, .int P_closed, .int P_open])), (r_P_ends, .inl (cI, n_P_ends, .inl f_P_ends))] s.heap := hP
  have hl := lv_entry ([.ref o_Program]) (n := 1) (Nat.le_of_ble_eq_true rfl)
  rw [lg_entry_eq]
  generalize (lg_sl ([.ref o_Program]) ++ List.replicate (1 - (lg_sl ([.ref o_Program])).length) Slot.unset).toArray = ls at hl ⊢
  have hl : lv_has ls 1 [(0, .ref o_Program)] := hl
  unfold m_Program_endConstant at h
  have hG : dz_G Z1 Zc Zs (Z1, Zc, Zs) 0 0 := ⟨rfl, (Nat.zero_add _).symm, (Nat.zero_add _).symm⟩
  generalize (Z1, Zc, Zs) = z at h hG
  refine lv_aload_n hx hb d_Program_endConstant_0 rfl (lv_at hl 0 rfl) ?_
  refine va_get (D := (dC, dI)) (ci := 0) (v := .int P_constants) (C := R_Program) (T := F_Program) (N := 7) hx hb hg i_Program hown hK hP 0 rfl rfl 4 (by decide) (hg _ k45) (fun _ h9 => h9) rfl d_Program_endConstant_1 ?_
  refine lv_sipush (v := 1024) hx hb d_Program_endConstant_4 (by decide) ?_
  refine lv_icmp_ge (tgt := 24) hx hb d_Program_endConstant_7 (by decide) (fun c1 => ?_) (fun c1 => ?_)
  · rw [if_pos c1] at h
    refine lv_bipush (v := (-2)) hx hb d_Program_endConstant_24 (by decide) ?_
    obtain rfl := Option.some.inj h
    have hP9 := hP.sub (ws' := [(o_Program, .inr (0, [.ref r_P_words, .int P_size, .ref r_P_bytes, .ref r_P_ends, .int P_constants, .int P_closed, .int P_open])), (r_P_ends, .inl (cI, n_P_ends, .inl f_P_ends))]) [0, 1] rfl
    have hD9 := hD.sub (ws' := [(o_Program, .inr (0, [.ref r_P_words, .int P_size, .ref r_P_bytes, .ref r_P_ends, .int P_constants, .int P_closed, .int P_open])), (r_P_ends, .inl (cI, n_P_ends, .inl f_P_ends))]) [0, 1] (by decide) rfl
    have hK9 := hK.sub (tys' := [(cI, .int)]) [0] rfl
    refine W.widen (dz_Gc hG) (dz_Gs hG) ?_
    obtain ⟨rfl, -, -⟩ := hG
    exact W.iret (v := (-2)) hx hb hr (fun t ht hW => ⟨⟨(-2), r_P_ends, rfl, rfl, by rw [ht]; exact hP9, va_K.moved hW.alike hK9, hD9⟩, hS.F ht⟩) hS.2.2 d_Program_endConstant_26
  · rw [if_neg c1] at h
    refine lv_aload_n hx hb d_Program_endConstant_10 rfl (lv_at hl 0 rfl) ?_
    refine va_get (D := (dC, dI)) (ci := 0) (v := .int P_closed) (C := R_Program) (T := F_Program) (N := 7) hx hb hg i_Program hown hK hP 0 rfl rfl 5 (by decide) (hg _ k34) (fun _ h9 => h9) rfl d_Program_endConstant_11 ?_
    refine lv_aload_n hx hb d_Program_endConstant_14 rfl (lv_at hl 0 rfl) ?_
    refine va_get (D := (dC, dI)) (ci := 0) (v := .int P_open) (C := R_Program) (T := F_Program) (N := 7) hx hb hg i_Program hown hK hP 0 rfl rfl 6 (by decide) (hg _ k33) (fun _ h9 => h9) rfl d_Program_endConstant_15 ?_
    refine lv_iadd hx hb d_Program_endConstant_18 ?_
    refine lv_ldc (v := 65536) hx hb hown (hg _ k46) d_Program_endConstant_19 ?_
    refine lv_icmp_le (tgt := 27) hx hb d_Program_endConstant_21 (by decide) (fun c2 => ?_) (fun c2 => ?_)
    · rw [if_pos c2] at h
      refine lv_aload_n hx hb d_Program_endConstant_27 rfl (lv_at hl 0 rfl) ?_
      refine va_get (D := (dC, dI)) (ci := 0) (v := .int P_constants) (C := R_Program) (T := F_Program) (N := 7) hx hb hg i_Program hown hK hP 0 rfl rfl 4 (by decide) (hg _ k45) (fun _ h9 => h9) rfl d_Program_endConstant_28 ?_
      refine lv_aload_n hx hb d_Program_endConstant_31 rfl (lv_at hl 0 rfl) ?_
      refine va_get (D := (dC, dI)) (ci := 0) (v := .ref r_P_ends) (C := R_Program) (T := F_Program) (N := 7) hx hb hg i_Program hown hK hP 0 rfl rfl 3 (by decide) (hg _ k47) (fun _ h9 => h9) rfl d_Program_endConstant_32 ?_
      refine va_alen (D := (dC, dI)) (v := Int32.ofNat n_P_ends) hx hb hK hP 1 0 rfl rfl rfl d_Program_endConstant_35 ?_
      refine lv_icmp_lt (tgt := 67) hx hb d_Program_endConstant_36 (by decide) (fun c3 => ?_) (fun c3 => ?_)
      · rw [if_pos c3] at h
        refine lv_aload_n hx hb d_Program_endConstant_67 rfl (lv_at hl 0 rfl) ?_
        refine lv_dup hx hb d_Program_endConstant_68 rfl ?_
        refine va_get (D := (dC, dI)) (ci := 0) (v := .int P_closed) (C := R_Program) (T := F_Program) (N := 7) hx hb hg i_Program hown hK hP 0 rfl rfl 5 (by decide) (hg _ k34) (fun _ h9 => h9) rfl d_Program_endConstant_69 ?_
        refine lv_aload_n hx hb d_Program_endConstant_72 rfl (lv_at hl 0 rfl) ?_
        refine va_get (D := (dC, dI)) (ci := 0) (v := .int P_open) (C := R_Program) (T := F_Program) (N := 7) hx hb hg i_Program hown hK hP 0 rfl rfl 6 (by decide) (hg _ k33) (fun _ h9 => h9) rfl d_Program_endConstant_73 ?_
        refine lv_iadd hx hb d_Program_endConstant_76 ?_
        refine va_put (D := (dC, dI)) (ci := 0) (v := .int (P_closed + P_open)) (ty := .int) (C := R_Program) (T := F_Program) (N := 7) hx hb hg i_Program t_Program t_Program_ok n_Program hown hK hP hD hS 0 rfl rfl 5 (by decide) (hg _ k34) (fun _ h9 => h9) rfl (by decide +kernel) rfl rfl (Nat.le_of_ble_eq_true rfl) d_Program_endConstant_77 (fun H locs hP hD hS => ?_)
        have hP : va_P (dC, dI) classes [(o_Program, .inr (0, [.ref r_P_words, .int P_size, .ref r_P_bytes, .ref r_P_ends, .int P_constants, .int (P_closed + P_open), .int P_open])), (r_P_ends, .inl (cI, n_P_ends, .inl f_P_ends))] H := hP
        have hD : va_D A [(o_Program, .inr (0, [.ref r_P_words, .int P_size, .ref r_P_bytes, .ref r_P_ends, .int P_constants, .int (P_closed + P_open), .int P_open])), (r_P_ends, .inl (cI, n_P_ends, .inl f_P_ends))] := hD
        refine lv_aload_n hx hb d_Program_endConstant_80 rfl (lv_at hl 0 rfl) ?_
        refine lv_iconst (v := 0) hx hb d_Program_endConstant_81 (by decide) ?_
        refine va_put (D := (dC, dI)) (ci := 0) (v := .int 0) (ty := .int) (C := R_Program) (T := F_Program) (N := 7) hx hb hg i_Program t_Program t_Program_ok n_Program hown hK hP hD hS 0 rfl rfl 6 (by decide) (hg _ k33) (fun _ h9 => h9) rfl (by decide +kernel) rfl rfl (Nat.le_of_ble_eq_true rfl) d_Program_endConstant_82 (fun H locs hP hD hS => ?_)
        have hP : va_P (dC, dI) classes [(o_Program, .inr (0, [.ref r_P_words, .int P_size, .ref r_P_bytes, .ref r_P_ends, .int P_constants, .int (P_closed + P_open), .int 0])), (r_P_ends, .inl (cI, n_P_ends, .inl f_P_ends))] H := hP
        have hD : va_D A [(o_Program, .inr (0, [.ref r_P_words, .int P_size, .ref r_P_bytes, .ref r_P_ends, .int P_constants, .int (P_closed + P_open), .int 0])), (r_P_ends, .inl (cI, n_P_ends, .inl f_P_ends))] := hD
        refine lv_aload_n hx hb d_Program_endConstant_85 rfl (lv_at hl 0 rfl) ?_
        refine va_get (D := (dC, dI)) (ci := 0) (v := .ref r_P_ends) (C := R_Program) (T := F_Program) (N := 7) hx hb hg i_Program hown hK hP 0 rfl rfl 3 (by decide) (hg _ k47) (fun _ h9 => h9) rfl d_Program_endConstant_86 ?_
        refine lv_aload_n hx hb d_Program_endConstant_89 rfl (lv_at hl 0 rfl) ?_
        refine va_get (D := (dC, dI)) (ci := 0) (v := .int P_constants) (C := R_Program) (T := F_Program) (N := 7) hx hb hg i_Program hown hK hP 0 rfl rfl 4 (by decide) (hg _ k45) (fun _ h9 => h9) rfl d_Program_endConstant_90 ?_
        refine lv_aload_n hx hb d_Program_endConstant_93 rfl (lv_at hl 0 rfl) ?_
        refine va_get (D := (dC, dI)) (ci := 0) (v := .int (P_closed + P_open)) (C := R_Program) (T := F_Program) (N := 7) hx hb hg i_Program hown hK hP 0 rfl rfl 5 (by decide) (hg _ k34) (fun _ h9 => h9) rfl d_Program_endConstant_94 ?_
        obtain ⟨i4, h⟩ := dz_oi h
        refine va_iast (D := (dC, dI)) hx hb hK hP hD hS 1 0 rfl rfl i4 d_Program_endConstant_97 (fun H locs hP hD hS => ?_)
        have hP : va_P (dC, dI) classes [(o_Program, .inr (0, [.ref r_P_words, .int P_size, .ref r_P_bytes, .ref r_P_ends, .int P_constants, .int (P_closed + P_open), .int 0])), (r_P_ends, .inl (cI, n_P_ends, .inl (upd f_P_ends P_constants.toNatClampNeg (P_closed + P_open))))] H := hP
        have hD : va_D A [(o_Program, .inr (0, [.ref r_P_words, .int P_size, .ref r_P_bytes, .ref r_P_ends, .int P_constants, .int (P_closed + P_open), .int 0])), (r_P_ends, .inl (cI, n_P_ends, .inl (upd f_P_ends P_constants.toNatClampNeg (P_closed + P_open))))] := hD
        refine lv_aload_n hx hb d_Program_endConstant_98 rfl (lv_at hl 0 rfl) ?_
        refine lv_dup hx hb d_Program_endConstant_99 rfl ?_
        refine va_get (D := (dC, dI)) (ci := 0) (v := .int P_constants) (C := R_Program) (T := F_Program) (N := 7) hx hb hg i_Program hown hK hP 0 rfl rfl 4 (by decide) (hg _ k45) (fun _ h9 => h9) rfl d_Program_endConstant_100 ?_
        refine lv_dup_x1 hx hb d_Program_endConstant_103 rfl rfl ?_
        refine lv_iconst (v := 1) hx hb d_Program_endConstant_104 (by decide) ?_
        refine lv_iadd hx hb d_Program_endConstant_105 ?_
        refine va_put (D := (dC, dI)) (ci := 0) (v := .int (P_constants + 1)) (ty := .int) (C := R_Program) (T := F_Program) (N := 7) hx hb hg i_Program t_Program t_Program_ok n_Program hown hK hP hD hS 0 rfl rfl 4 (by decide) (hg _ k45) (fun _ h9 => h9) rfl (by decide +kernel) rfl rfl (Nat.le_of_ble_eq_true rfl) d_Program_endConstant_106 (fun H locs hP hD hS => ?_)
        have hP : va_P (dC, dI) classes [(o_Program, .inr (0, [.ref r_P_words, .int P_size, .ref r_P_bytes, .ref r_P_ends, .int (P_constants + 1), .int (P_closed + P_open), .int 0])), (r_P_ends, .inl (cI, n_P_ends, .inl (upd f_P_ends P_constants.toNatClampNeg (P_closed + P_open))))] H := hP
        have hD : va_D A [(o_Program, .inr (0, [.ref r_P_words, .int P_size, .ref r_P_bytes, .ref r_P_ends, .int (P_constants + 1), .int (P_closed + P_open), .int 0])), (r_P_ends, .inl (cI, n_P_ends, .inl (upd f_P_ends P_constants.toNatClampNeg (P_closed + P_open))))] := hD
        obtain rfl := Option.some.inj h
        have hP9 := hP.sub (ws' := [(o_Program, .inr (0, [.ref r_P_words, .int P_size, .ref r_P_bytes, .ref r_P_ends, .int (P_constants + 1), .int (P_closed + P_open), .int 0])), (r_P_ends, .inl (cI, n_P_ends, .inl (upd f_P_ends P_constants.toNatClampNeg (P_closed + P_open))))]) [0, 1] rfl
        have hD9 := hD.sub (ws' := [(o_Program, .inr (0, [.ref r_P_words, .int P_size, .ref r_P_bytes, .ref r_P_ends, .int (P_constants + 1), .int (P_closed + P_open), .int 0])), (r_P_ends, .inl (cI, n_P_ends, .inl (upd f_P_ends P_constants.toNatClampNeg (P_closed + P_open))))]) [0, 1] (by decide) rfl
        have hK9 := hK.sub (tys' := [(cI, .int)]) [0] rfl
        refine W.widen (dz_Gc hG) (dz_Gs hG) ?_
        obtain ⟨rfl, -, -⟩ := hG
        exact W.iret (v := P_constants) hx hb hr (fun t ht hW => ⟨⟨P_constants, r_P_ends, rfl, rfl, by rw [ht]; exact hP9, va_K.moved hW.alike hK9, hD9⟩, hS.F ht⟩) hS.2.2 d_Program_endConstant_109
      · rw [if_neg c3] at h
        refine lv_aload_n hx hb d_Program_endConstant_39 rfl (lv_at hl 0 rfl) ?_
        refine lv_aload_n hx hb d_Program_endConstant_40 rfl (lv_at hl 0 rfl) ?_
        refine va_get (D := (dC, dI)) (ci := 0) (v := .ref r_P_ends) (C := R_Program) (T := F_Program) (N := 7) hx hb hg i_Program hown hK hP 0 rfl rfl 3 (by decide) (hg _ k47) (fun _ h9 => h9) rfl d_Program_endConstant_41 ?_
        refine lv_aload_n hx hb d_Program_endConstant_44 rfl (lv_at hl 0 rfl) ?_
        refine va_get (D := (dC, dI)) (ci := 0) (v := .ref r_P_ends) (C := R_Program) (T := F_Program) (N := 7) hx hb hg i_Program hown hK hP 0 rfl rfl 3 (by decide) (hg _ k47) (fun _ h9 => h9) rfl d_Program_endConstant_45 ?_
        refine va_alen (D := (dC, dI)) (v := Int32.ofNat n_P_ends) hx hb hK hP 1 0 rfl rfl rfl d_Program_endConstant_48 ?_
        refine lv_aload_n hx hb d_Program_endConstant_49 rfl (lv_at hl 0 rfl) ?_
        refine va_get (D := (dC, dI)) (ci := 0) (v := .int P_constants) (C := R_Program) (T := F_Program) (N := 7) hx hb hg i_Program hown hK hP 0 rfl rfl 4 (by decide) (hg _ k45) (fun _ h9 => h9) rfl d_Program_endConstant_50 ?_
        refine lv_iconst (v := 1) hx hb d_Program_endConstant_53 (by decide) ?_
        refine lv_iadd hx hb d_Program_endConstant_54 ?_
        refine lv_sipush (v := 1024) hx hb d_Program_endConstant_55 (by decide) ?_
        obtain ⟨z5_1, hc5, h⟩ := dz_ob h
        try dsimp only at h
        have hPc := hP.sub (ws' := []) [] rfl
        have hKc := hK.sub (tys' := []) [] rfl
        refine vp_callSi (va_Run.run (va_runSN (As := [.int (Int32.ofNat n_P_ends), .int (P_constants + 1), .int 1024]) (rest := [.ref r_P_ends, .ref o_Program]) ⟨hx, hb, hml, hown, hg⟩ (c_Engine_longer l dC dI N (Int32.ofNat n_P_ends) (P_constants + 1) (1024 : Int32) z5_1 hc5) ⟨va_cnB 3 hg (gd_N k26) rfl rfl rfl hN.2.2.2.2.1 (hg _ k27) (by decide +kernel) ⟨Nat.le_of_ble_eq_true rfl, Nat.le_of_ble_eq_true rfl⟩, hg _ k28, trivial⟩ ⟨dz_blindR, fun U hU hW => ⟨rfl, dz_Nw hW hN, by rw [hU]; exact hPc, va_K.moved hW.alike hKc⟩⟩ rfl rfl hl.1 rfl (lv_room (Nat.le_of_ble_eq_true rfl)) d_Program_endConstant_58 ⟨dz_Gc hG, dz_Gs hG⟩)) (fun r5 hw => ?_)
        have hw : z5_1 = r5 := hw.symm
        subst hw
        obtain ⟨⟨⟨z6_1, z6_2⟩, zc6, zs6⟩, hc6, h⟩ := dz_ob h
        try dsimp only at h
        obtain ⟨z, h, hG⟩ := dz_tkG h hG
        have hPc := hP.sub (ws' := [(r_P_ends, .inl (cI, n_P_ends, .inl f_P_ends))]) [1] rfl
        have hKc := hK.sub (tys' := [(cI, .int)]) [0] rfl
        have hDc := hD.sub (ws' := [(r_P_ends, .inl (cI, n_P_ends, .inl f_P_ends))]) [1] (by decide) rfl
        have hFc := va_free (wc := [(r_P_ends, .inl (cI, n_P_ends, .inl f_P_ends))]) hD hS hA [1] rfl
        refine va_callr (va_runS (As := [.ref r_P_ends, .int z5_1]) (rest := [.ref o_Program]) ⟨hx, hb, hml, hown, hg⟩ (c_Arrays_copyOfI l dC dI N cI r_P_ends n_P_ends f_P_ends z5_1 s.heap.size (z6_1, z6_2) zc6 zs6 hc6) (va_cwS 2 hg (gd_S k30 k31 k22 k29) rfl rfl rfl (by decide +kernel) ⟨Nat.le_of_ble_eq_true rfl, Nat.le_of_ble_eq_true rfl⟩) ⟨dz_blind, fun U hU hW => ⟨rfl, dz_Nw hW hN, by rw [hU], by rw [hU]; exact hPc, va_K.moved hW.alike hKc, hDc.weaken (fun _ _ _ _ => trivial)⟩⟩ rfl rfl hl.1 rfl (lv_room (Nat.le_of_ble_eq_true rfl)) d_Program_endConstant_61 ⟨dz_Gc hG, dz_Gs hG⟩) hS (fun q _ h => hFc q h) hFc (fun u6 a6_r t6 H1 locs ht hvm hw hB hz1 hk1 hS => ?_)
        obtain ⟨hP1, hK1, hD1⟩ := hB
        rw [ht] at hP1
        obtain ⟨hP, hD⟩ := va_join (wr := [(o_Program, .inr (0, [.ref r_P_words, .int P_size, .ref r_P_bytes, .ref r_P_ends, .int P_constants, .int P_closed, .int P_open]))]) (w1 := [(r_P_ends, .inl (cI, n_P_ends, .inl f_P_ends)), (a6_r, .inl (cI, z6_1, .inl z6_2))]) hP hD [1] [0] rfl rfl (by decide) (by decide) hk1 hFc hP1 hD1
        generalize H1 = H at hP hS ⊢
        have hP : va_P (dC, dI) classes [(o_Program, .inr (0, [.ref r_P_words, .int P_size, .ref r_P_bytes, .ref r_P_ends, .int P_constants, .int P_closed, .int P_open])), (r_P_ends, .inl (cI, n_P_ends, .inl f_P_ends)), (a6_r, .inl (cI, z6_1, .inl z6_2))] H := hP
        have hD : va_D A [(o_Program, .inr (0, [.ref r_P_words, .int P_size, .ref r_P_bytes, .ref r_P_ends, .int P_constants, .int P_closed, .int P_open])), (r_P_ends, .inl (cI, n_P_ends, .inl f_P_ends)), (a6_r, .inl (cI, z6_1, .inl z6_2))] := hD
        refine va_put (D := (dC, dI)) (ci := 0) (v := .ref a6_r) (ty := .array .int) (C := R_Program) (T := F_Program) (N := 7) hx hb hg i_Program t_Program t_Program_ok n_Program hown hK hP hD hS 0 rfl rfl 3 (by decide) (hg _ k47) (fun _ h9 => h9) rfl (by decide +kernel) rfl rfl (Nat.le_of_ble_eq_true rfl) d_Program_endConstant_64 (fun H locs hP hD hS => ?_)
        have hP : va_P (dC, dI) classes [(o_Program, .inr (0, [.ref r_P_words, .int P_size, .ref r_P_bytes, .ref a6_r, .int P_constants, .int P_closed, .int P_open])), (r_P_ends, .inl (cI, n_P_ends, .inl f_P_ends)), (a6_r, .inl (cI, z6_1, .inl z6_2))] H := hP
        have hD : va_D A [(o_Program, .inr (0, [.ref r_P_words, .int P_size, .ref r_P_bytes, .ref a6_r, .int P_constants, .int P_closed, .int P_open])), (r_P_ends, .inl (cI, n_P_ends, .inl f_P_ends)), (a6_r, .inl (cI, z6_1, .inl z6_2))] := hD
        refine lv_aload_n hx hb d_Program_endConstant_67 rfl (lv_at hl 0 rfl) ?_
        refine lv_dup hx hb d_Program_endConstant_68 rfl ?_
        refine va_get (D := (dC, dI)) (ci := 0) (v := .int P_closed) (C := R_Program) (T := F_Program) (N := 7) hx hb hg i_Program hown hK hP 0 rfl rfl 5 (by decide) (hg _ k34) (fun _ h9 => h9) rfl d_Program_endConstant_69 ?_
        refine lv_aload_n hx hb d_Program_endConstant_72 rfl (lv_at hl 0 rfl) ?_
        refine va_get (D := (dC, dI)) (ci := 0) (v := .int P_open) (C := R_Program) (T := F_Program) (N := 7) hx hb hg i_Program hown hK hP 0 rfl rfl 6 (by decide) (hg _ k33) (fun _ h9 => h9) rfl d_Program_endConstant_73 ?_
        refine lv_iadd hx hb d_Program_endConstant_76 ?_
        refine va_put (D := (dC, dI)) (ci := 0) (v := .int (P_closed + P_open)) (ty := .int) (C := R_Program) (T := F_Program) (N := 7) hx hb hg i_Program t_Program t_Program_ok n_Program hown hK hP hD hS 0 rfl rfl 5 (by decide) (hg _ k34) (fun _ h9 => h9) rfl (by decide +kernel) rfl rfl (Nat.le_of_ble_eq_true rfl) d_Program_endConstant_77 (fun H locs hP hD hS => ?_)
        have hP : va_P (dC, dI) classes [(o_Program, .inr (0, [.ref r_P_words, .int P_size, .ref r_P_bytes, .ref a6_r, .int P_constants, .int (P_closed + P_open), .int P_open])), (r_P_ends, .inl (cI, n_P_ends, .inl f_P_ends)), (a6_r, .inl (cI, z6_1, .inl z6_2))] H := hP
        have hD : va_D A [(o_Program, .inr (0, [.ref r_P_words, .int P_size, .ref r_P_bytes, .ref a6_r, .int P_constants, .int (P_closed + P_open), .int P_open])), (r_P_ends, .inl (cI, n_P_ends, .inl f_P_ends)), (a6_r, .inl (cI, z6_1, .inl z6_2))] := hD
        refine lv_aload_n hx hb d_Program_endConstant_80 rfl (lv_at hl 0 rfl) ?_
        refine lv_iconst (v := 0) hx hb d_Program_endConstant_81 (by decide) ?_
        refine va_put (D := (dC, dI)) (ci := 0) (v := .int 0) (ty := .int) (C := R_Program) (T := F_Program) (N := 7) hx hb hg i_Program t_Program t_Program_ok n_Program hown hK hP hD hS 0 rfl rfl 6 (by decide) (hg _ k33) (fun _ h9 => h9) rfl (by decide +kernel) rfl rfl (Nat.le_of_ble_eq_true rfl) d_Program_endConstant_82 (fun H locs hP hD hS => ?_)
        have hP : va_P (dC, dI) classes [(o_Program, .inr (0, [.ref r_P_words, .int P_size, .ref r_P_bytes, .ref a6_r, .int P_constants, .int (P_closed + P_open), .int 0])), (r_P_ends, .inl (cI, n_P_ends, .inl f_P_ends)), (a6_r, .inl (cI, z6_1, .inl z6_2))] H := hP
        have hD : va_D A [(o_Program, .inr (0, [.ref r_P_words, .int P_size, .ref r_P_bytes, .ref a6_r, .int P_constants, .int (P_closed + P_open), .int 0])), (r_P_ends, .inl (cI, n_P_ends, .inl f_P_ends)), (a6_r, .inl (cI, z6_1, .inl z6_2))] := hD
        refine lv_aload_n hx hb d_Program_endConstant_85 rfl (lv_at hl 0 rfl) ?_
        refine va_get (D := (dC, dI)) (ci := 0) (v := .ref a6_r) (C := R_Program) (T := F_Program) (N := 7) hx hb hg i_Program hown hK hP 0 rfl rfl 3 (by decide) (hg _ k47) (fun _ h9 => h9) rfl d_Program_endConstant_86 ?_
        refine lv_aload_n hx hb d_Program_endConstant_89 rfl (lv_at hl 0 rfl) ?_
        refine va_get (D := (dC, dI)) (ci := 0) (v := .int P_constants) (C := R_Program) (T := F_Program) (N := 7) hx hb hg i_Program hown hK hP 0 rfl rfl 4 (by decide) (hg _ k45) (fun _ h9 => h9) rfl d_Program_endConstant_90 ?_
        refine lv_aload_n hx hb d_Program_endConstant_93 rfl (lv_at hl 0 rfl) ?_
        refine va_get (D := (dC, dI)) (ci := 0) (v := .int (P_closed + P_open)) (C := R_Program) (T := F_Program) (N := 7) hx hb hg i_Program hown hK hP 0 rfl rfl 5 (by decide) (hg _ k34) (fun _ h9 => h9) rfl d_Program_endConstant_94 ?_
        obtain ⟨i7, h⟩ := dz_oi h
        refine va_iast (D := (dC, dI)) hx hb hK hP hD hS 2 0 rfl rfl i7 d_Program_endConstant_97 (fun H locs hP hD hS => ?_)
        have hP : va_P (dC, dI) classes [(o_Program, .inr (0, [.ref r_P_words, .int P_size, .ref r_P_bytes, .ref a6_r, .int P_constants, .int (P_closed + P_open), .int 0])), (r_P_ends, .inl (cI, n_P_ends, .inl f_P_ends)), (a6_r, .inl (cI, z6_1, .inl (upd z6_2 P_constants.toNatClampNeg (P_closed + P_open))))] H := hP
        have hD : va_D A [(o_Program, .inr (0, [.ref r_P_words, .int P_size, .ref r_P_bytes, .ref a6_r, .int P_constants, .int (P_closed + P_open), .int 0])), (r_P_ends, .inl (cI, n_P_ends, .inl f_P_ends)), (a6_r, .inl (cI, z6_1, .inl (upd z6_2 P_constants.toNatClampNeg (P_closed + P_open))))] := hD
        refine lv_aload_n hx hb d_Program_endConstant_98 rfl (lv_at hl 0 rfl) ?_
        refine lv_dup hx hb d_Program_endConstant_99 rfl ?_
        refine va_get (D := (dC, dI)) (ci := 0) (v := .int P_constants) (C := R_Program) (T := F_Program) (N := 7) hx hb hg i_Program hown hK hP 0 rfl rfl 4 (by decide) (hg _ k45) (fun _ h9 => h9) rfl d_Program_endConstant_100 ?_
        refine lv_dup_x1 hx hb d_Program_endConstant_103 rfl rfl ?_
        refine lv_iconst (v := 1) hx hb d_Program_endConstant_104 (by decide) ?_
        refine lv_iadd hx hb d_Program_endConstant_105 ?_
        refine va_put (D := (dC, dI)) (ci := 0) (v := .int (P_constants + 1)) (ty := .int) (C := R_Program) (T := F_Program) (N := 7) hx hb hg i_Program t_Program t_Program_ok n_Program hown hK hP hD hS 0 rfl rfl 4 (by decide) (hg _ k45) (fun _ h9 => h9) rfl (by decide +kernel) rfl rfl (Nat.le_of_ble_eq_true rfl) d_Program_endConstant_106 (fun H locs hP hD hS => ?_)
        have hP : va_P (dC, dI) classes [(o_Program, .inr (0, [.ref r_P_words, .int P_size, .ref r_P_bytes, .ref a6_r, .int (P_constants + 1), .int (P_closed + P_open), .int 0])), (r_P_ends, .inl (cI, n_P_ends, .inl f_P_ends)), (a6_r, .inl (cI, z6_1, .inl (upd z6_2 P_constants.toNatClampNeg (P_closed + P_open))))] H := hP
        have hD : va_D A [(o_Program, .inr (0, [.ref r_P_words, .int P_size, .ref r_P_bytes, .ref a6_r, .int (P_constants + 1), .int (P_closed + P_open), .int 0])), (r_P_ends, .inl (cI, n_P_ends, .inl f_P_ends)), (a6_r, .inl (cI, z6_1, .inl (upd z6_2 P_constants.toNatClampNeg (P_closed + P_open))))] := hD
        obtain rfl := Option.some.inj h
        have hP9 := hP.sub (ws' := [(o_Program, .inr (0, [.ref r_P_words, .int P_size, .ref r_P_bytes, .ref a6_r, .int (P_constants + 1), .int (P_closed + P_open), .int 0])), (a6_r, .inl (cI, z6_1, .inl (upd z6_2 P_constants.toNatClampNeg (P_closed + P_open))))]) [0, 2] rfl
        have hD9 := hD.sub (ws' := [(o_Program, .inr (0, [.ref r_P_words, .int P_size, .ref r_P_bytes, .ref a6_r, .int (P_constants + 1), .int (P_closed + P_open), .int 0])), (a6_r, .inl (cI, z6_1, .inl (upd z6_2 P_constants.toNatClampNeg (P_closed + P_open))))]) [0, 2] (by decide) rfl
        have hK9 := hK.sub (tys' := [(cI, .int)]) [0] rfl
        refine W.widen (dz_Gc hG) (dz_Gs hG) ?_
        obtain ⟨rfl, -, -⟩ := hG
        exact W.iret (v := P_constants) hx hb hr (fun t ht hW => ⟨⟨P_constants, a6_r, rfl, rfl, by rw [ht]; exact hP9, va_K.moved hW.alike hK9, hD9⟩, hS.F ht⟩) hS.2.2 d_Program_endConstant_109
    · rw [if_neg c2] at h
      refine lv_bipush (v := (-2)) hx hb d_Program_endConstant_24 (by decide) ?_
      obtain rfl := Option.some.inj h
      have hP9 := hP.sub (ws' := [(o_Program, .inr (0, [.ref r_P_words, .int P_size, .ref r_P_bytes, .ref r_P_ends, .int P_constants, .int P_closed, .int P_open])), (r_P_ends, .inl (cI, n_P_ends, .inl f_P_ends))]) [0, 1] rfl
      have hD9 := hD.sub (ws' := [(o_Program, .inr (0, [.ref r_P_words, .int P_size, .ref r_P_bytes, .ref r_P_ends, .int P_constants, .int P_closed, .int P_open])), (r_P_ends, .inl (cI, n_P_ends, .inl f_P_ends))]) [0, 1] (by decide) rfl
      have hK9 := hK.sub (tys' := [(cI, .int)]) [0] rfl
      refine W.widen (dz_Gc hG) (dz_Gs hG) ?_
      obtain ⟨rfl, -, -⟩ := hG
      exact W.iret (v := (-2)) hx hb hr (fun t ht hW => ⟨⟨(-2), r_P_ends, rfl, rfl, by rw [ht]; exact hP9, va_K.moved hW.alike hK9, hD9⟩, hS.F ht⟩) hS.2.2 d_Program_endConstant_26

def m_Program_beginOf (N : Nat) (P_size : Int32) (P_constants : Int32) (P_closed : Int32) (P_open : Int32) (n_P_ends : Nat) (f_P_ends : Nat → Int32) (p0 : Int32) : Option (Int32) := (if p0 = 0 then some (0 : Int32) else (if (p0 - 1) < 0 ∨ n_P_ends ≤ (p0 - 1).toNatClampNeg then none else some (f_P_ends (p0 - 1).toNatClampNeg)))
set_option maxHeartbeats 4000000 in
set_option maxRecDepth 100000 in
theorem c_Program_beginOf (l : Launch) (dC : Nat → ClassId) (dI : Nat → Nat → Nat) (N : Nat) (cI : ClassId) (o_Program : Nat) (r_P_words : Nat) (r_P_bytes : Nat) (r_P_ends : Nat) (P_size : Int32) (P_constants : Int32) (P_closed : Int32) (P_open : Int32) (n_P_ends : Nat) (f_P_ends : Nat → Int32) (p0 : Int32) (z : Int32) (h : m_Program_beginOf N P_size P_constants P_closed P_open n_P_ends f_P_ends p0 = some z) : Met l y_Program_beginOf (.code y_Program_beginOf b_Program_beginOf 2 (some .int) :: lw_g) ({ frames := 0, cells := 0, slots := 0, locals := 0 }) (va_Pc [.ref o_Program, .int p0] (fun U => dz_N U ∧ va_P (dC, dI) classes [(o_Program, .inr (0, [.ref r_P_words, .int P_size, .ref r_P_bytes, .ref r_P_ends, .int P_constants, .int P_closed, .int P_open])), (r_P_ends, .inl (cI, n_P_ends, .inl f_P_ends))] U.heap ∧ va_K (dC, dI) classes [(cI, .int)] U)) (vp_Si (fun r => r = z)) 0 0 (fun _ => False) := by
  refine Met.ofW (cc := b_Program_beginOf) (maxL := 2) (ret := (some .int)) (by decide +kernel) rfl ?_
  intro p e s m args below meth c s₁ B hml hv
  obtain ⟨rfl, hN, hP, hK⟩ := hv
  have hx := B.exec
  have hb := B.bytes
  have hr := B.returns
  have hg : ∀ w ∈ lw_g, w.before _ s = true := fun w hw => atoms_spec (ws := .code y_Program_beginOf b_Program_beginOf 2 (some .int) :: lw_g) B.pre w (List.mem_cons_of_mem _ hw)
  have hown : s.vm.findClass R_Program = some m.cls := findClass_of_methodNamed B.named
  have hlocks := B.notSynchronized
  clear B
  have hP : va_P (dC, dI) classes [(o_Program, .inr (0, [.ref r_P_words, .int P_size, .ref r_P_bytes, .ref r_P_ends, .int P_constants, .int P_closed, .int P_open])), (r_P_ends, .inl (cI, n_P_ends, .inl f_P_ends))] s.heap := hP
  have hl := lv_entry ([.ref o_Program, .int p0]) (n := 2) (Nat.le_of_ble_eq_true rfl)
  rw [lg_entry_eq]
  generalize (lg_sl ([.ref o_Program, .int p0]) ++ List.replicate (2 - (lg_sl ([.ref o_Program, .int p0])).length) Slot.unset).toArray = ls at hl ⊢
  have hl : lv_has ls 2 [(0, .ref o_Program), (1, .int p0)] := hl
  unfold m_Program_beginOf at h
  refine lv_iload_n hx hb d_Program_beginOf_0 rfl (lv_at hl 1 rfl) ?_
  refine lv_if_ne (tgt := 8) hx hb d_Program_beginOf_1 (by decide) (fun c1 => ?_) (fun c1 => ?_)
  · rw [if_neg c1] at h
    refine lv_aload_n hx hb d_Program_beginOf_8 rfl (lv_at hl 0 rfl) ?_
    refine va_get (D := (dC, dI)) (ci := 0) (v := .ref r_P_ends) (C := R_Program) (T := F_Program) (N := 7) hx hb hg i_Program hown hK hP 0 rfl rfl 3 (by decide) (hg _ k47) (fun _ h9 => h9) rfl d_Program_beginOf_9 ?_
    refine lv_iload_n hx hb d_Program_beginOf_12 rfl (lv_at hl 1 rfl) ?_
    refine lv_iconst (v := 1) hx hb d_Program_beginOf_13 (by decide) ?_
    refine lv_isub hx hb d_Program_beginOf_14 ?_
    obtain ⟨i2, h⟩ := dz_oi h
    refine va_iald (D := (dC, dI)) hx hb hK hP 1 0 rfl rfl i2 d_Program_beginOf_15 ?_
    obtain rfl := Option.some.inj h
    exact W.iret (v := f_P_ends (p0 - 1).toNatClampNeg) hx hb hr (fun t ht hW => ⟨_, rfl, rfl, ht⟩) (fun _ h => by cases h) d_Program_beginOf_16
  · rw [if_pos c1] at h
    refine lv_iconst (v := 0) hx hb d_Program_beginOf_4 (by decide) ?_
    refine lv_goto (tgt := 16) hx hb d_Program_beginOf_5 (by decide) ?_
    obtain rfl := Option.some.inj h
    exact W.iret (v := 0) hx hb hr (fun t ht hW => ⟨_, rfl, rfl, ht⟩) (fun _ h => by cases h) d_Program_beginOf_16

def m_Output_accept (N : Nat) (O_size : Int32) (n_O_bytes : Nat) (f_O_bytes : Nat → Int32) (p0 : Int32) : Option ((Int32 × Nat × (Nat → Int32)) × Nat × Nat) := ((m_Math_min N p0 (65536 - O_size)).bind fun z1_1 => (if (O_size + z1_1) ≤ (Int32.ofNat n_O_bytes) then some ((z1_1, n_O_bytes, f_O_bytes), 0, 0) else ((m_Engine_longer N (Int32.ofNat n_O_bytes) (O_size + z1_1) (65536 : Int32)).bind fun z3_1 => ((m_Arrays_copyOfB N n_O_bytes f_O_bytes z3_1).bind fun ((z4_1, z4_2), zc4, zs4) => dz_tk zc4 zs4 (some ((z1_1, z4_1, z4_2), 0, 0))))))
set_option maxHeartbeats 4000000 in
set_option maxRecDepth 100000 in
theorem c_Output_accept (l : Launch) (dC : Nat → ClassId) (dI : Nat → Nat → Nat) (N : Nat) (cB : ClassId) (o_Output : Nat) (r_O_bytes : Nat) (O_size : Int32) (n_O_bytes : Nat) (f_O_bytes : Nat → Int32) (p0 : Int32) (sz : Nat) (Z1 : Int32 × Nat × (Nat → Int32)) (Zc Zs : Nat) (h : m_Output_accept N O_size n_O_bytes f_O_bytes p0 = some (Z1, Zc, Zs)) : Met l y_Output_accept (.code y_Output_accept b_Output_accept 3 (some .int) :: lw_g) ({ frames := 2, cells := Zc, slots := Zs, locals := 82 }) (va_Pc [.ref o_Output, .int p0] (fun U => dz_N U ∧ U.heap.size = sz ∧ va_P (dC, dI) classes [(o_Output, .inr (1, [.ref r_O_bytes, .int O_size])), (r_O_bytes, .inl (cB, n_O_bytes, .inl f_O_bytes))] U.heap ∧ va_K (dC, dI) classes [(cB, .byte)] U ∧ va_D (fun _ => True) [(o_Output, .inr (1, [.ref r_O_bytes, .int O_size])), (r_O_bytes, .inl (cB, n_O_bytes, .inl f_O_bytes))])) (va_Qi (fun (r : Int32) (_ : Nat) => r = Z1.1) (fun (u : Nat) t => va_P (dC, dI) classes [(o_Output, .inr (1, [.ref u, .int O_size])), (u, .inl (cB, Z1.2.1, .inl Z1.2.2))] t.heap ∧ va_K (dC, dI) classes [(cB, .byte)] t ∧ va_D (va_A [(o_Output, .inr (1, [.ref r_O_bytes, .int O_size])), (r_O_bytes, .inl (cB, n_O_bytes, .inl f_O_bytes))] sz) [(o_Output, .inr (1, [.ref u, .int O_size])), (u, .inl (cB, Z1.2.1, .inl Z1.2.2))]) (va_A [(o_Output, .inr (1, [.ref r_O_bytes, .int O_size])), (r_O_bytes, .inl (cB, n_O_bytes, .inl f_O_bytes))] sz)) Zc Zs (va_A [(o_Output, .inr (1, [.ref r_O_bytes, .int O_size])), (r_O_bytes, .inl (cB, n_O_bytes, .inl f_O_bytes))] sz) := by
  refine Met.ofW (cc := b_Output_accept) (maxL := 3) (ret := (some .int)) (by decide +kernel) rfl ?_
  intro p e s m args below meth c s₁ B hml hv
  obtain ⟨rfl, hN, hsz, hP, hK, hD0⟩ := hv
  have hx := B.exec
  have hb := B.bytes
  have hr := B.returns
  have hg : ∀ w ∈ lw_g, w.before _ s = true := fun w hw => atoms_spec (ws := .code y_Output_accept b_Output_accept 3 (some .int) :: lw_g) B.pre w (List.mem_cons_of_mem _ hw)
  have hown : s.vm.findClass R_Output = some m.cls := findClass_of_methodNamed B.named
  have hlocks := B.notSynchronized
  clear B
  subst hsz
  have hD := hD0.self (sz := s.heap.size)
  generalize hAe : va_A [(o_Output, .inr (1, [.ref r_O_bytes, .int O_size])), (r_O_bytes, .inl (cB, n_O_bytes, .inl f_O_bytes))] s.heap.size = A at hD ⊢
  have hA : ∀ q : Nat, s.heap.size ≤ q → A q := fun q h => by rw [← hAe]; exact Or.inr h
  have hS : va_S A s.heap s.heap [] := va_S.rf
  have hP : va_P (dC, dI) classes [(o_Output, .inr (1, [.ref r_O_bytes, .int O_size])), (r_O_bytes, .inl (cB, n_O_bytes, .inl f_O_bytes))] s.heap := hP
  have hl := lv_entry ([.ref o_Output, .int p0]) (n := 3) (Nat.le_of_ble_eq_true rfl)
  rw [lg_entry_eq]
  generalize (lg_sl ([.ref o_Output, .int p0]) ++ List.replicate (3 - (lg_sl ([.ref o_Output, .int p0])).length) Slot.unset).toArray = ls at hl ⊢
  have hl : lv_has ls 3 [(0, .ref o_Output), (1, .int p0)] := hl
  unfold m_Output_accept at h
  have hG : dz_G Z1 Zc Zs (Z1, Zc, Zs) 0 0 := ⟨rfl, (Nat.zero_add _).symm, (Nat.zero_add _).symm⟩
  generalize (Z1, Zc, Zs) = z at h hG
  refine lv_iload_n hx hb d_Output_accept_0 rfl (lv_at hl 1 rfl) ?_
  refine lv_ldc (v := 65536) hx hb hown (hg _ k48) d_Output_accept_1 ?_
  refine lv_aload_n hx hb d_Output_accept_3 rfl (lv_at hl 0 rfl) ?_
  refine va_get (D := (dC, dI)) (ci := 1) (v := .int O_size) (C := R_Output) (T := F_Output) (N := 2) hx hb hg i_Output hown hK hP 0 rfl rfl 1 (by decide) (hg _ k49) (fun _ h9 => h9) rfl d_Output_accept_4 ?_
  refine lv_isub hx hb d_Output_accept_7 ?_
  obtain ⟨z1_1, hc1, h⟩ := dz_ob h
  try dsimp only at h
  have hPc := hP.sub (ws' := []) [] rfl
  have hKc := hK.sub (tys' := []) [] rfl
  refine vp_callSi (va_Run.run (va_runS (As := [.int p0, .int (65536 - O_size)]) (rest := []) ⟨hx, hb, hml, hown, hg⟩ (c_Math_min l dC dI N p0 (65536 - O_size) z1_1 hc1) (va_cwS 2 hg (gd_S k51 k10 k7 k8) rfl rfl rfl (by decide +kernel) ⟨Nat.le_of_ble_eq_true rfl, Nat.le_of_ble_eq_true rfl⟩) ⟨dz_blindR, fun U hU hW => ⟨rfl, dz_Nw hW hN, by rw [hU]; exact hPc, va_K.moved hW.alike hKc⟩⟩ rfl rfl hl.1 rfl (lv_room (Nat.le_of_ble_eq_true rfl)) d_Output_accept_8 ⟨dz_Gc hG, dz_Gs hG⟩)) (fun r1 hw => ?_)
  have hw : z1_1 = r1 := hw.symm
  subst hw
  refine lv_istore_n (lv' := [(2, .int z1_1), (0, .ref o_Output), (1, .int p0)]) hx hb d_Output_accept_11 rfl hl (by decide) rfl (fun ls hl => ?_)
  refine lv_aload_n hx hb d_Output_accept_12 rfl (lv_at hl 1 rfl) ?_
  refine va_get (D := (dC, dI)) (ci := 1) (v := .int O_size) (C := R_Output) (T := F_Output) (N := 2) hx hb hg i_Output hown hK hP 0 rfl rfl 1 (by decide) (hg _ k49) (fun _ h9 => h9) rfl d_Output_accept_13 ?_
  refine lv_iload_n hx hb d_Output_accept_16 rfl (lv_at hl 0 rfl) ?_
  refine lv_iadd hx hb d_Output_accept_17 ?_
  refine lv_aload_n hx hb d_Output_accept_18 rfl (lv_at hl 1 rfl) ?_
  refine va_get (D := (dC, dI)) (ci := 1) (v := .ref r_O_bytes) (C := R_Output) (T := F_Output) (N := 2) hx hb hg i_Output hown hK hP 0 rfl rfl 0 (by decide) (hg _ k50) (fun _ h9 => h9) rfl d_Output_accept_19 ?_
  refine va_alen (D := (dC, dI)) (v := Int32.ofNat n_O_bytes) hx hb hK hP 1 0 rfl rfl rfl d_Output_accept_22 ?_
  refine lv_icmp_le (tgt := 53) hx hb d_Output_accept_23 (by decide) (fun c2 => ?_) (fun c2 => ?_)
  · rw [if_pos c2] at h
    refine lv_iload_n hx hb d_Output_accept_53 rfl (lv_at hl 0 rfl) ?_
    obtain rfl := Option.some.inj h
    have hP9 := hP.sub (ws' := [(o_Output, .inr (1, [.ref r_O_bytes, .int O_size])), (r_O_bytes, .inl (cB, n_O_bytes, .inl f_O_bytes))]) [0, 1] rfl
    have hD9 := hD.sub (ws' := [(o_Output, .inr (1, [.ref r_O_bytes, .int O_size])), (r_O_bytes, .inl (cB, n_O_bytes, .inl f_O_bytes))]) [0, 1] (by decide) rfl
    have hK9 := hK.sub (tys' := [(cB, .byte)]) [0] rfl
    refine W.widen (dz_Gc hG) (dz_Gs hG) ?_
    obtain ⟨rfl, -, -⟩ := hG
    exact W.iret (v := z1_1) hx hb hr (fun t ht hW => ⟨⟨z1_1, r_O_bytes, rfl, rfl, by rw [ht]; exact hP9, va_K.moved hW.alike hK9, hD9⟩, hS.F ht⟩) hS.2.2 d_Output_accept_54
  · rw [if_neg c2] at h
    refine lv_aload_n hx hb d_Output_accept_26 rfl (lv_at hl 1 rfl) ?_
    refine lv_aload_n hx hb d_Output_accept_27 rfl (lv_at hl 1 rfl) ?_
    refine va_get (D := (dC, dI)) (ci := 1) (v := .ref r_O_bytes) (C := R_Output) (T := F_Output) (N := 2) hx hb hg i_Output hown hK hP 0 rfl rfl 0 (by decide) (hg _ k50) (fun _ h9 => h9) rfl d_Output_accept_28 ?_
    refine lv_aload_n hx hb d_Output_accept_31 rfl (lv_at hl 1 rfl) ?_
    refine va_get (D := (dC, dI)) (ci := 1) (v := .ref r_O_bytes) (C := R_Output) (T := F_Output) (N := 2) hx hb hg i_Output hown hK hP 0 rfl rfl 0 (by decide) (hg _ k50) (fun _ h9 => h9) rfl d_Output_accept_32 ?_
    refine va_alen (D := (dC, dI)) (v := Int32.ofNat n_O_bytes) hx hb hK hP 1 0 rfl rfl rfl d_Output_accept_35 ?_
    refine lv_aload_n hx hb d_Output_accept_36 rfl (lv_at hl 1 rfl) ?_
    refine va_get (D := (dC, dI)) (ci := 1) (v := .int O_size) (C := R_Output) (T := F_Output) (N := 2) hx hb hg i_Output hown hK hP 0 rfl rfl 1 (by decide) (hg _ k49) (fun _ h9 => h9) rfl d_Output_accept_37 ?_
    refine lv_iload_n hx hb d_Output_accept_40 rfl (lv_at hl 0 rfl) ?_
    refine lv_iadd hx hb d_Output_accept_41 ?_
    refine lv_ldc (v := 65536) hx hb hown (hg _ k48) d_Output_accept_42 ?_
    obtain ⟨z3_1, hc3, h⟩ := dz_ob h
    try dsimp only at h
    have hPc := hP.sub (ws' := []) [] rfl
    have hKc := hK.sub (tys' := []) [] rfl
    refine vp_callSi (va_Run.run (va_runSN (As := [.int (Int32.ofNat n_O_bytes), .int (O_size + z1_1), .int 65536]) (rest := [.ref r_O_bytes, .ref o_Output]) ⟨hx, hb, hml, hown, hg⟩ (c_Engine_longer l dC dI N (Int32.ofNat n_O_bytes) (O_size + z1_1) (65536 : Int32) z3_1 hc3) ⟨va_cnB 3 hg (gd_N k26) rfl rfl rfl hN.2.2.2.1 (hg _ k27) (by decide +kernel) ⟨Nat.le_of_ble_eq_true rfl, Nat.le_of_ble_eq_true rfl⟩, hg _ k28, trivial⟩ ⟨dz_blindR, fun U hU hW => ⟨rfl, dz_Nw hW hN, by rw [hU]; exact hPc, va_K.moved hW.alike hKc⟩⟩ rfl rfl hl.1 rfl (lv_room (Nat.le_of_ble_eq_true rfl)) d_Output_accept_44 ⟨dz_Gc hG, dz_Gs hG⟩)) (fun r3 hw => ?_)
    have hw : z3_1 = r3 := hw.symm
    subst hw
    obtain ⟨⟨⟨z4_1, z4_2⟩, zc4, zs4⟩, hc4, h⟩ := dz_ob h
    try dsimp only at h
    obtain ⟨z, h, hG⟩ := dz_tkG h hG
    have hPc := hP.sub (ws' := [(r_O_bytes, .inl (cB, n_O_bytes, .inl f_O_bytes))]) [1] rfl
    have hKc := hK.sub (tys' := [(cB, .byte)]) [0] rfl
    have hDc := hD.sub (ws' := [(r_O_bytes, .inl (cB, n_O_bytes, .inl f_O_bytes))]) [1] (by decide) rfl
    have hFc := va_free (wc := [(r_O_bytes, .inl (cB, n_O_bytes, .inl f_O_bytes))]) hD hS hA [1] rfl
    refine va_callr (va_runS (As := [.ref r_O_bytes, .int z3_1]) (rest := [.ref o_Output]) ⟨hx, hb, hml, hown, hg⟩ (c_Arrays_copyOfB l dC dI N cB r_O_bytes n_O_bytes f_O_bytes z3_1 s.heap.size (z4_1, z4_2) zc4 zs4 hc4) (va_cwS 2 hg (gd_S k52 k44 k22 k42) rfl rfl rfl (by decide +kernel) ⟨Nat.le_of_ble_eq_true rfl, Nat.le_of_ble_eq_true rfl⟩) ⟨dz_blind, fun U hU hW => ⟨rfl, dz_Nw hW hN, by rw [hU], by rw [hU]; exact hPc, va_K.moved hW.alike hKc, hDc.weaken (fun _ _ _ _ => trivial)⟩⟩ rfl rfl hl.1 rfl (lv_room (Nat.le_of_ble_eq_true rfl)) d_Output_accept_47 ⟨dz_Gc hG, dz_Gs hG⟩) hS (fun q _ h => hFc q h) hFc (fun u4 a4_r t4 H1 locs ht hvm hw hB hz1 hk1 hS => ?_)
    obtain ⟨hP1, hK1, hD1⟩ := hB
    rw [ht] at hP1
    obtain ⟨hP, hD⟩ := va_join (wr := [(o_Output, .inr (1, [.ref r_O_bytes, .int O_size]))]) (w1 := [(r_O_bytes, .inl (cB, n_O_bytes, .inl f_O_bytes)), (a4_r, .inl (cB, z4_1, .inl z4_2))]) hP hD [1] [0] rfl rfl (by decide) (by decide) hk1 hFc hP1 hD1
    generalize H1 = H at hP hS ⊢
    have hP : va_P (dC, dI) classes [(o_Output, .inr (1, [.ref r_O_bytes, .int O_size])), (r_O_bytes, .inl (cB, n_O_bytes, .inl f_O_bytes)), (a4_r, .inl (cB, z4_1, .inl z4_2))] H := hP
    have hD : va_D A [(o_Output, .inr (1, [.ref r_O_bytes, .int O_size])), (r_O_bytes, .inl (cB, n_O_bytes, .inl f_O_bytes)), (a4_r, .inl (cB, z4_1, .inl z4_2))] := hD
    refine va_put (D := (dC, dI)) (ci := 1) (v := .ref a4_r) (ty := .array .byte) (C := R_Output) (T := F_Output) (N := 2) hx hb hg i_Output t_Output t_Output_ok n_Output hown hK hP hD hS 0 rfl rfl 0 (by decide) (hg _ k50) (fun _ h9 => h9) rfl (by decide +kernel) rfl rfl (Nat.le_of_ble_eq_true rfl) d_Output_accept_50 (fun H locs hP hD hS => ?_)
    have hP : va_P (dC, dI) classes [(o_Output, .inr (1, [.ref a4_r, .int O_size])), (r_O_bytes, .inl (cB, n_O_bytes, .inl f_O_bytes)), (a4_r, .inl (cB, z4_1, .inl z4_2))] H := hP
    have hD : va_D A [(o_Output, .inr (1, [.ref a4_r, .int O_size])), (r_O_bytes, .inl (cB, n_O_bytes, .inl f_O_bytes)), (a4_r, .inl (cB, z4_1, .inl z4_2))] := hD
    refine lv_iload_n hx hb d_Output_accept_53 rfl (lv_at hl 0 rfl) ?_
    obtain rfl := Option.some.inj h
    have hP9 := hP.sub (ws' := [(o_Output, .inr (1, [.ref a4_r, .int O_size])), (a4_r, .inl (cB, z4_1, .inl z4_2))]) [0, 2] rfl
    have hD9 := hD.sub (ws' := [(o_Output, .inr (1, [.ref a4_r, .int O_size])), (a4_r, .inl (cB, z4_1, .inl z4_2))]) [0, 2] (by decide) rfl
    have hK9 := hK.sub (tys' := [(cB, .byte)]) [0] rfl
    refine W.widen (dz_Gc hG) (dz_Gs hG) ?_
    obtain ⟨rfl, -, -⟩ := hG
    exact W.iret (v := z1_1) hx hb hr (fun t ht hW => ⟨⟨z1_1, a4_r, rfl, rfl, by rw [ht]; exact hP9, va_K.moved hW.alike hK9, hD9⟩, hS.F ht⟩) hS.2.2 d_Output_accept_54

def m_Output_add (N : Nat) (O_size : Int32) (n_O_bytes : Nat) (f_O_bytes : Nat → Int32) (p0 : Int32) : Option ((Nat → Int32) × Int32) := (if (Int32.ofNat n_O_bytes) ≤ O_size then some (f_O_bytes, O_size) else (if O_size < 0 ∨ n_O_bytes ≤ O_size.toNatClampNeg then none else some (upd f_O_bytes O_size.toNatClampNeg (vp_nar .byte p0.toInt8.toInt32), O_size + 1)))
set_option maxHeartbeats 4000000 in
set_option maxRecDepth 100000 in
theorem c_Output_add (l : Launch) (dC : Nat → ClassId) (dI : Nat → Nat → Nat) (N : Nat) (cB : ClassId) (o_Output : Nat) (r_O_bytes : Nat) (O_size : Int32) (n_O_bytes : Nat) (f_O_bytes : Nat → Int32) (p0 : Int32) (sz : Nat) (z : (Nat → Int32) × Int32) (h : m_Output_add N O_size n_O_bytes f_O_bytes p0 = some z) : Met l y_Output_add (.code y_Output_add b_Output_add 2 none :: lw_g) ({ frames := 0, cells := 0, slots := 0, locals := 0 }) (va_Pc [.ref o_Output, .int p0] (fun U => dz_N U ∧ U.heap.size = sz ∧ va_P (dC, dI) classes [(o_Output, .inr (1, [.ref r_O_bytes, .int O_size])), (r_O_bytes, .inl (cB, n_O_bytes, .inl f_O_bytes))] U.heap ∧ va_K (dC, dI) classes [(cB, .byte)] U ∧ va_D (fun _ => True) [(o_Output, .inr (1, [.ref r_O_bytes, .int O_size])), (r_O_bytes, .inl (cB, n_O_bytes, .inl f_O_bytes))])) (va_Qv (fun (_ : Unit) => True) (fun (u : Unit) t => va_P (dC, dI) classes [(o_Output, .inr (1, [.ref r_O_bytes, .int z.2])), (r_O_bytes, .inl (cB, n_O_bytes, .inl z.1))] t.heap ∧ va_K (dC, dI) classes [(cB, .byte)] t ∧ va_D (va_A [(o_Output, .inr (1, [.ref r_O_bytes, .int O_size])), (r_O_bytes, .inl (cB, n_O_bytes, .inl f_O_bytes))] sz) [(o_Output, .inr (1, [.ref r_O_bytes, .int z.2])), (r_O_bytes, .inl (cB, n_O_bytes, .inl z.1))]) (va_A [(o_Output, .inr (1, [.ref r_O_bytes, .int O_size])), (r_O_bytes, .inl (cB, n_O_bytes, .inl f_O_bytes))] sz)) 0 0 (va_A [(o_Output, .inr (1, [.ref r_O_bytes, .int O_size])), (r_O_bytes, .inl (cB, n_O_bytes, .inl f_O_bytes))] sz) := by
  refine Met.ofW (cc := b_Output_add) (maxL := 2) (ret := none) (by decide +kernel) rfl ?_
  intro p e s m args below meth c s₁ B hml hv
  obtain ⟨rfl, hN, hsz, hP, hK, hD0⟩ := hv
  have hx := B.exec
  have hb := B.bytes
  have hr := B.returns
  have hg : ∀ w ∈ lw_g, w.before _ s = true := fun w hw => atoms_spec (ws := .code y_Output_add b_Output_add 2 none :: lw_g) B.pre w (List.mem_cons_of_mem _ hw)
  have hown : s.vm.findClass R_Output = some m.cls := findClass_of_methodNamed B.named
  have hlocks := B.notSynchronized
  clear B
  subst hsz
  have hD := hD0.self (sz := s.heap.size)
  generalize hAe : va_A [(o_Output, .inr (1, [.ref r_O_bytes, .int O_size])), (r_O_bytes, .inl (cB, n_O_bytes, .inl f_O_bytes))] s.heap.size = A at hD ⊢
  have hA : ∀ q : Nat, s.heap.size ≤ q → A q := fun q h => by rw [← hAe]; exact Or.inr h
  have hS : va_S A s.heap s.heap [] := va_S.rf
  have hP : va_P (dC, dI) classes [(o_Output, .inr (1, [.ref r_O_bytes, .int O_size])), (r_O_bytes, .inl (cB, n_O_bytes, .inl f_O_bytes))] s.heap := hP
  have hl := lv_entry ([.ref o_Output, .int p0]) (n := 2) (Nat.le_of_ble_eq_true rfl)
  rw [lg_entry_eq]
  generalize (lg_sl ([.ref o_Output, .int p0]) ++ List.replicate (2 - (lg_sl ([.ref o_Output, .int p0])).length) Slot.unset).toArray = ls at hl ⊢
  have hl : lv_has ls 2 [(0, .ref o_Output), (1, .int p0)] := hl
  unfold m_Output_add at h
  refine lv_aload_n hx hb d_Output_add_0 rfl (lv_at hl 0 rfl) ?_
  refine va_get (D := (dC, dI)) (ci := 1) (v := .int O_size) (C := R_Output) (T := F_Output) (N := 2) hx hb hg i_Output hown hK hP 0 rfl rfl 1 (by decide) (hg _ k49) (fun _ h9 => h9) rfl d_Output_add_1 ?_
  refine lv_aload_n hx hb d_Output_add_4 rfl (lv_at hl 0 rfl) ?_
  refine va_get (D := (dC, dI)) (ci := 1) (v := .ref r_O_bytes) (C := R_Output) (T := F_Output) (N := 2) hx hb hg i_Output hown hK hP 0 rfl rfl 0 (by decide) (hg _ k50) (fun _ h9 => h9) rfl d_Output_add_5 ?_
  refine va_alen (D := (dC, dI)) (v := Int32.ofNat n_O_bytes) hx hb hK hP 1 0 rfl rfl rfl d_Output_add_8 ?_
  refine lv_icmp_ge (tgt := 30) hx hb d_Output_add_9 (by decide) (fun c1 => ?_) (fun c1 => ?_)
  · rw [if_pos c1] at h
    obtain rfl := Option.some.inj h
    have hP9 := hP.sub (ws' := [(o_Output, .inr (1, [.ref r_O_bytes, .int O_size])), (r_O_bytes, .inl (cB, n_O_bytes, .inl f_O_bytes))]) [0, 1] rfl
    have hD9 := hD.sub (ws' := [(o_Output, .inr (1, [.ref r_O_bytes, .int O_size])), (r_O_bytes, .inl (cB, n_O_bytes, .inl f_O_bytes))]) [0, 1] (by decide) rfl
    have hK9 := hK.sub (tys' := [(cB, .byte)]) [0] rfl
    exact W.vret hx hb hr (fun t ht hW => ⟨⟨(), rfl, trivial, by rw [ht]; exact hP9, va_K.moved hW.alike hK9, hD9⟩, hS.F ht⟩) hS.2.2 d_Output_add_30
  · rw [if_neg c1] at h
    refine lv_aload_n hx hb d_Output_add_12 rfl (lv_at hl 0 rfl) ?_
    refine va_get (D := (dC, dI)) (ci := 1) (v := .ref r_O_bytes) (C := R_Output) (T := F_Output) (N := 2) hx hb hg i_Output hown hK hP 0 rfl rfl 0 (by decide) (hg _ k50) (fun _ h9 => h9) rfl d_Output_add_13 ?_
    refine lv_aload_n hx hb d_Output_add_16 rfl (lv_at hl 0 rfl) ?_
    refine lv_dup hx hb d_Output_add_17 rfl ?_
    refine va_get (D := (dC, dI)) (ci := 1) (v := .int O_size) (C := R_Output) (T := F_Output) (N := 2) hx hb hg i_Output hown hK hP 0 rfl rfl 1 (by decide) (hg _ k49) (fun _ h9 => h9) rfl d_Output_add_18 ?_
    refine lv_dup_x1 hx hb d_Output_add_21 rfl rfl ?_
    refine lv_iconst (v := 1) hx hb d_Output_add_22 (by decide) ?_
    refine lv_iadd hx hb d_Output_add_23 ?_
    refine va_put (D := (dC, dI)) (ci := 1) (v := .int (O_size + 1)) (ty := .int) (C := R_Output) (T := F_Output) (N := 2) hx hb hg i_Output t_Output t_Output_ok n_Output hown hK hP hD hS 0 rfl rfl 1 (by decide) (hg _ k49) (fun _ h9 => h9) rfl (by decide +kernel) rfl rfl (Nat.le_of_ble_eq_true rfl) d_Output_add_24 (fun H locs hP hD hS => ?_)
    have hP : va_P (dC, dI) classes [(o_Output, .inr (1, [.ref r_O_bytes, .int (O_size + 1)])), (r_O_bytes, .inl (cB, n_O_bytes, .inl f_O_bytes))] H := hP
    have hD : va_D A [(o_Output, .inr (1, [.ref r_O_bytes, .int (O_size + 1)])), (r_O_bytes, .inl (cB, n_O_bytes, .inl f_O_bytes))] := hD
    refine lv_iload_n hx hb d_Output_add_27 rfl (lv_at hl 1 rfl) ?_
    refine lv_i2b (v := p0.toInt8.toInt32) hx hb d_Output_add_28 rfl ?_
    obtain ⟨i2, h⟩ := dz_oi h
    refine va_bast (D := (dC, dI)) hx hb hK hP hD hS 1 0 rfl rfl i2 d_Output_add_29 (fun H locs hP hD hS => ?_)
    have hP : va_P (dC, dI) classes [(o_Output, .inr (1, [.ref r_O_bytes, .int (O_size + 1)])), (r_O_bytes, .inl (cB, n_O_bytes, .inl (upd f_O_bytes O_size.toNatClampNeg (vp_nar .byte p0.toInt8.toInt32))))] H := hP
    have hD : va_D A [(o_Output, .inr (1, [.ref r_O_bytes, .int (O_size + 1)])), (r_O_bytes, .inl (cB, n_O_bytes, .inl (upd f_O_bytes O_size.toNatClampNeg (vp_nar .byte p0.toInt8.toInt32))))] := hD
    obtain rfl := Option.some.inj h
    have hP9 := hP.sub (ws' := [(o_Output, .inr (1, [.ref r_O_bytes, .int (O_size + 1)])), (r_O_bytes, .inl (cB, n_O_bytes, .inl (upd f_O_bytes O_size.toNatClampNeg (vp_nar .byte p0.toInt8.toInt32))))]) [0, 1] rfl
    have hD9 := hD.sub (ws' := [(o_Output, .inr (1, [.ref r_O_bytes, .int (O_size + 1)])), (r_O_bytes, .inl (cB, n_O_bytes, .inl (upd f_O_bytes O_size.toNatClampNeg (vp_nar .byte p0.toInt8.toInt32))))]) [0, 1] (by decide) rfl
    have hK9 := hK.sub (tys' := [(cB, .byte)]) [0] rfl
    exact W.vret hx hb hr (fun t ht hW => ⟨⟨(), rfl, trivial, by rw [ht]; exact hP9, va_K.moved hW.alike hK9, hD9⟩, hS.F ht⟩) hS.2.2 d_Output_add_30
end

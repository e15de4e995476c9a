-- ===== PART A: goes FIRST, ahead of the names: the tables' words, and 'selects' of the private methods out of them =====
/-- a private method of a class that the tables say can be made, by its rows of tables_1 -/
def lw_okq (q : MethodName × Nat) : Prop := (q.1.cls ≠ "java/lang/invoke/MethodHandle" ∧ q.1.cls ≠ "java/lang/invoke/VarHandle") ∧ Cond.instantiable q.1.cls q.2 ∈ tables_1 ∧ Cond.privateMethod q.1 ∈ tables_1 ∧ Cond.instanceMethod q.1 ∈ tables_1
theorem lw_p0 : lw_okq (⟨"WasmReader$Grammar", "customSection", "()V"⟩, 3) := ⟨⟨by decide +kernel, by decide +kernel⟩, List.mem_of_getElem? (i := 392) (by decide +kernel), List.mem_of_getElem? (i := 450) (by decide +kernel), List.mem_of_getElem? (i := 451) (by decide +kernel)⟩
theorem lw_p1 : lw_okq (⟨"WasmReader$Grammar", "typeSection", "()V"⟩, 3) := ⟨⟨by decide +kernel, by decide +kernel⟩, List.mem_of_getElem? (i := 392) (by decide +kernel), List.mem_of_getElem? (i := 459) (by decide +kernel), List.mem_of_getElem? (i := 460) (by decide +kernel)⟩
theorem lw_p2 : lw_okq (⟨"WasmReader$Grammar", "atMost", "(I)I"⟩, 3) := ⟨⟨by decide +kernel, by decide +kernel⟩, List.mem_of_getElem? (i := 392) (by decide +kernel), List.mem_of_getElem? (i := 463) (by decide +kernel), List.mem_of_getElem? (i := 464) (by decide +kernel)⟩
theorem lw_p3 : lw_okq (⟨"WasmReader$Grammar", "valueType", "()I"⟩, 3) := ⟨⟨by decide +kernel, by decide +kernel⟩, List.mem_of_getElem? (i := 392) (by decide +kernel), List.mem_of_getElem? (i := 467) (by decide +kernel), List.mem_of_getElem? (i := 468) (by decide +kernel)⟩
theorem lw_p4 : lw_okq (⟨"WasmReader$Grammar", "importSection", "()V"⟩, 3) := ⟨⟨by decide +kernel, by decide +kernel⟩, List.mem_of_getElem? (i := 392) (by decide +kernel), List.mem_of_getElem? (i := 478) (by decide +kernel), List.mem_of_getElem? (i := 479) (by decide +kernel)⟩
theorem lw_p5 : lw_okq (⟨"WasmReader$Grammar", "nameLength", "()I"⟩, 3) := ⟨⟨by decide +kernel, by decide +kernel⟩, List.mem_of_getElem? (i := 392) (by decide +kernel), List.mem_of_getElem? (i := 482) (by decide +kernel), List.mem_of_getElem? (i := 483) (by decide +kernel)⟩
theorem lw_p6 : lw_okq (⟨"WasmReader$Grammar", "table", "()V"⟩, 3) := ⟨⟨by decide +kernel, by decide +kernel⟩, List.mem_of_getElem? (i := 392) (by decide +kernel), List.mem_of_getElem? (i := 502) (by decide +kernel), List.mem_of_getElem? (i := 503) (by decide +kernel)⟩
theorem lw_p7 : lw_okq (⟨"WasmReader$Grammar", "globalType", "()V"⟩, 3) := ⟨⟨by decide +kernel, by decide +kernel⟩, List.mem_of_getElem? (i := 392) (by decide +kernel), List.mem_of_getElem? (i := 513) (by decide +kernel), List.mem_of_getElem? (i := 514) (by decide +kernel)⟩
theorem lw_p8 : lw_okq (⟨"WasmReader$Grammar", "functionSection", "()V"⟩, 3) := ⟨⟨by decide +kernel, by decide +kernel⟩, List.mem_of_getElem? (i := 392) (by decide +kernel), List.mem_of_getElem? (i := 521) (by decide +kernel), List.mem_of_getElem? (i := 522) (by decide +kernel)⟩
theorem lw_p9 : lw_okq (⟨"WasmReader$Grammar", "tableSection", "()V"⟩, 3) := ⟨⟨by decide +kernel, by decide +kernel⟩, List.mem_of_getElem? (i := 392) (by decide +kernel), List.mem_of_getElem? (i := 525) (by decide +kernel), List.mem_of_getElem? (i := 526) (by decide +kernel)⟩
theorem lw_p10 : lw_okq (⟨"WasmReader$Grammar", "memorySection", "()V"⟩, 3) := ⟨⟨by decide +kernel, by decide +kernel⟩, List.mem_of_getElem? (i := 392) (by decide +kernel), List.mem_of_getElem? (i := 530) (by decide +kernel), List.mem_of_getElem? (i := 531) (by decide +kernel)⟩
theorem lw_p11 : lw_okq (⟨"WasmReader$Grammar", "globalSection", "()V"⟩, 3) := ⟨⟨by decide +kernel, by decide +kernel⟩, List.mem_of_getElem? (i := 392) (by decide +kernel), List.mem_of_getElem? (i := 535) (by decide +kernel), List.mem_of_getElem? (i := 536) (by decide +kernel)⟩
theorem lw_p12 : lw_okq (⟨"WasmReader$Grammar", "valueOfInitial", "(I)J"⟩, 3) := ⟨⟨by decide +kernel, by decide +kernel⟩, List.mem_of_getElem? (i := 392) (by decide +kernel), List.mem_of_getElem? (i := 539) (by decide +kernel), List.mem_of_getElem? (i := 540) (by decide +kernel)⟩
theorem lw_p13 : lw_okq (⟨"WasmReader$Cursor", "withSign", "(JIII)J"⟩, 5) := ⟨⟨by decide +kernel, by decide +kernel⟩, List.mem_of_getElem? (i := 33) (by decide +kernel), List.mem_of_getElem? (i := 547) (by decide +kernel), List.mem_of_getElem? (i := 548) (by decide +kernel)⟩
theorem lw_p14 : lw_okq (⟨"WasmReader$Grammar", "exportSection", "()V"⟩, 3) := ⟨⟨by decide +kernel, by decide +kernel⟩, List.mem_of_getElem? (i := 392) (by decide +kernel), List.mem_of_getElem? (i := 559) (by decide +kernel), List.mem_of_getElem? (i := 560) (by decide +kernel)⟩
theorem lw_p15 : lw_okq (⟨"WasmReader$Grammar", "elementSection", "()V"⟩, 3) := ⟨⟨by decide +kernel, by decide +kernel⟩, List.mem_of_getElem? (i := 392) (by decide +kernel), List.mem_of_getElem? (i := 574) (by decide +kernel), List.mem_of_getElem? (i := 575) (by decide +kernel)⟩
def lw_privs_1 : List (MethodName × Nat) := [(⟨"WasmReader$Grammar", "customSection", "()V"⟩, 3), (⟨"WasmReader$Grammar", "typeSection", "()V"⟩, 3), (⟨"WasmReader$Grammar", "atMost", "(I)I"⟩, 3), (⟨"WasmReader$Grammar", "valueType", "()I"⟩, 3), (⟨"WasmReader$Grammar", "importSection", "()V"⟩, 3), (⟨"WasmReader$Grammar", "nameLength", "()I"⟩, 3), (⟨"WasmReader$Grammar", "table", "()V"⟩, 3), (⟨"WasmReader$Grammar", "globalType", "()V"⟩, 3), (⟨"WasmReader$Grammar", "functionSection", "()V"⟩, 3), (⟨"WasmReader$Grammar", "tableSection", "()V"⟩, 3), (⟨"WasmReader$Grammar", "memorySection", "()V"⟩, 3), (⟨"WasmReader$Grammar", "globalSection", "()V"⟩, 3), (⟨"WasmReader$Grammar", "valueOfInitial", "(I)J"⟩, 3), (⟨"WasmReader$Cursor", "withSign", "(JIII)J"⟩, 5), (⟨"WasmReader$Grammar", "exportSection", "()V"⟩, 3), (⟨"WasmReader$Grammar", "elementSection", "()V"⟩, 3)]
theorem lw_r1 : ∀ q ∈ lw_privs_1, lw_okq q := List.forall_mem_cons.mpr ⟨lw_p0, List.forall_mem_cons.mpr ⟨lw_p1, List.forall_mem_cons.mpr ⟨lw_p2, List.forall_mem_cons.mpr ⟨lw_p3, List.forall_mem_cons.mpr ⟨lw_p4, List.forall_mem_cons.mpr ⟨lw_p5, List.forall_mem_cons.mpr ⟨lw_p6, List.forall_mem_cons.mpr ⟨lw_p7, List.forall_mem_cons.mpr ⟨lw_p8, List.forall_mem_cons.mpr ⟨lw_p9, List.forall_mem_cons.mpr ⟨lw_p10, List.forall_mem_cons.mpr ⟨lw_p11, List.forall_mem_cons.mpr ⟨lw_p12, List.forall_mem_cons.mpr ⟨lw_p13, List.forall_mem_cons.mpr ⟨lw_p14, List.forall_mem_cons.mpr ⟨lw_p15, fun _ h => absurd h List.not_mem_nil⟩⟩⟩⟩⟩⟩⟩⟩⟩⟩⟩⟩⟩⟩⟩⟩
theorem lw_p16 : lw_okq (⟨"WasmReader$Grammar", "highestFunction", "()I"⟩, 3) := ⟨⟨by decide +kernel, by decide +kernel⟩, List.mem_of_getElem? (i := 392) (by decide +kernel), List.mem_of_getElem? (i := 578) (by decide +kernel), List.mem_of_getElem? (i := 579) (by decide +kernel)⟩
theorem lw_p17 : lw_okq (⟨"WasmReader$Grammar", "codeSection", "()V"⟩, 3) := ⟨⟨by decide +kernel, by decide +kernel⟩, List.mem_of_getElem? (i := 392) (by decide +kernel), List.mem_of_getElem? (i := 586) (by decide +kernel), List.mem_of_getElem? (i := 587) (by decide +kernel)⟩
theorem lw_p18 : lw_okq (⟨"WasmReader$Grammar", "locals", "(I)V"⟩, 3) := ⟨⟨by decide +kernel, by decide +kernel⟩, List.mem_of_getElem? (i := 392) (by decide +kernel), List.mem_of_getElem? (i := 590) (by decide +kernel), List.mem_of_getElem? (i := 591) (by decide +kernel)⟩
theorem lw_p19 : lw_okq (⟨"WasmReader$Grammar", "instructions", "()V"⟩, 3) := ⟨⟨by decide +kernel, by decide +kernel⟩, List.mem_of_getElem? (i := 392) (by decide +kernel), List.mem_of_getElem? (i := 604) (by decide +kernel), List.mem_of_getElem? (i := 605) (by decide +kernel)⟩
theorem lw_p20 : lw_okq (⟨"WasmReader$Grammar", "elseOf", "(I)V"⟩, 3) := ⟨⟨by decide +kernel, by decide +kernel⟩, List.mem_of_getElem? (i := 392) (by decide +kernel), List.mem_of_getElem? (i := 608) (by decide +kernel), List.mem_of_getElem? (i := 609) (by decide +kernel)⟩
theorem lw_p21 : lw_okq (⟨"WasmReader$Grammar", "blockType", "()V"⟩, 3) := ⟨⟨by decide +kernel, by decide +kernel⟩, List.mem_of_getElem? (i := 392) (by decide +kernel), List.mem_of_getElem? (i := 612) (by decide +kernel), List.mem_of_getElem? (i := 613) (by decide +kernel)⟩
theorem lw_p22 : lw_okq (⟨"WasmReader$Grammar", "openBlock", "(IZ)V"⟩, 3) := ⟨⟨by decide +kernel, by decide +kernel⟩, List.mem_of_getElem? (i := 392) (by decide +kernel), List.mem_of_getElem? (i := 616) (by decide +kernel), List.mem_of_getElem? (i := 617) (by decide +kernel)⟩
theorem lw_p23 : lw_okq (⟨"WasmReader$Grammar", "labels", "()V"⟩, 3) := ⟨⟨by decide +kernel, by decide +kernel⟩, List.mem_of_getElem? (i := 392) (by decide +kernel), List.mem_of_getElem? (i := 620) (by decide +kernel), List.mem_of_getElem? (i := 621) (by decide +kernel)⟩
theorem lw_p24 : lw_okq (⟨"WasmReader$Grammar", "operands", "(I)V"⟩, 3) := ⟨⟨by decide +kernel, by decide +kernel⟩, List.mem_of_getElem? (i := 392) (by decide +kernel), List.mem_of_getElem? (i := 624) (by decide +kernel), List.mem_of_getElem? (i := 625) (by decide +kernel)⟩
theorem lw_p25 : lw_okq (⟨"WasmReader$Grammar", "dataSection", "()V"⟩, 3) := ⟨⟨by decide +kernel, by decide +kernel⟩, List.mem_of_getElem? (i := 392) (by decide +kernel), List.mem_of_getElem? (i := 646) (by decide +kernel), List.mem_of_getElem? (i := 647) (by decide +kernel)⟩
theorem lw_p26 : lw_okq (⟨"WasmReader$Validity", "typesHold", "()Z"⟩, 3) := ⟨⟨by decide +kernel, by decide +kernel⟩, List.mem_of_getElem? (i := 654) (by decide +kernel), List.mem_of_getElem? (i := 680) (by decide +kernel), List.mem_of_getElem? (i := 681) (by decide +kernel)⟩
theorem lw_p27 : lw_okq (⟨"WasmReader$Validity", "globalsHold", "()Z"⟩, 3) := ⟨⟨by decide +kernel, by decide +kernel⟩, List.mem_of_getElem? (i := 654) (by decide +kernel), List.mem_of_getElem? (i := 686) (by decide +kernel), List.mem_of_getElem? (i := 687) (by decide +kernel)⟩
theorem lw_p28 : lw_okq (⟨"WasmReader$Validity", "initialHolds", "(IJII)Z"⟩, 3) := ⟨⟨by decide +kernel, by decide +kernel⟩, List.mem_of_getElem? (i := 654) (by decide +kernel), List.mem_of_getElem? (i := 691) (by decide +kernel), List.mem_of_getElem? (i := 692) (by decide +kernel)⟩
theorem lw_p29 : lw_okq (⟨"WasmReader$Validity", "exportsHold", "()Z"⟩, 3) := ⟨⟨by decide +kernel, by decide +kernel⟩, List.mem_of_getElem? (i := 654) (by decide +kernel), List.mem_of_getElem? (i := 695) (by decide +kernel), List.mem_of_getElem? (i := 696) (by decide +kernel)⟩
theorem lw_p30 : lw_okq (⟨"WasmReader$Validity", "countOfSort", "(I)I"⟩, 3) := ⟨⟨by decide +kernel, by decide +kernel⟩, List.mem_of_getElem? (i := 654) (by decide +kernel), List.mem_of_getElem? (i := 703) (by decide +kernel), List.mem_of_getElem? (i := 704) (by decide +kernel)⟩
theorem lw_p31 : lw_okq (⟨"WasmReader$Validity", "startHolds", "()Z"⟩, 3) := ⟨⟨by decide +kernel, by decide +kernel⟩, List.mem_of_getElem? (i := 654) (by decide +kernel), List.mem_of_getElem? (i := 716) (by decide +kernel), List.mem_of_getElem? (i := 717) (by decide +kernel)⟩
def lw_privs_2 : List (MethodName × Nat) := [(⟨"WasmReader$Grammar", "highestFunction", "()I"⟩, 3), (⟨"WasmReader$Grammar", "codeSection", "()V"⟩, 3), (⟨"WasmReader$Grammar", "locals", "(I)V"⟩, 3), (⟨"WasmReader$Grammar", "instructions", "()V"⟩, 3), (⟨"WasmReader$Grammar", "elseOf", "(I)V"⟩, 3), (⟨"WasmReader$Grammar", "blockType", "()V"⟩, 3), (⟨"WasmReader$Grammar", "openBlock", "(IZ)V"⟩, 3), (⟨"WasmReader$Grammar", "labels", "()V"⟩, 3), (⟨"WasmReader$Grammar", "operands", "(I)V"⟩, 3), (⟨"WasmReader$Grammar", "dataSection", "()V"⟩, 3), (⟨"WasmReader$Validity", "typesHold", "()Z"⟩, 3), (⟨"WasmReader$Validity", "globalsHold", "()Z"⟩, 3), (⟨"WasmReader$Validity", "initialHolds", "(IJII)Z"⟩, 3), (⟨"WasmReader$Validity", "exportsHold", "()Z"⟩, 3), (⟨"WasmReader$Validity", "countOfSort", "(I)I"⟩, 3), (⟨"WasmReader$Validity", "startHolds", "()Z"⟩, 3)]
theorem lw_r2 : ∀ q ∈ lw_privs_2, lw_okq q := List.forall_mem_cons.mpr ⟨lw_p16, List.forall_mem_cons.mpr ⟨lw_p17, List.forall_mem_cons.mpr ⟨lw_p18, List.forall_mem_cons.mpr ⟨lw_p19, List.forall_mem_cons.mpr ⟨lw_p20, List.forall_mem_cons.mpr ⟨lw_p21, List.forall_mem_cons.mpr ⟨lw_p22, List.forall_mem_cons.mpr ⟨lw_p23, List.forall_mem_cons.mpr ⟨lw_p24, List.forall_mem_cons.mpr ⟨lw_p25, List.forall_mem_cons.mpr ⟨lw_p26, List.forall_mem_cons.mpr ⟨lw_p27, List.forall_mem_cons.mpr ⟨lw_p28, List.forall_mem_cons.mpr ⟨lw_p29, List.forall_mem_cons.mpr ⟨lw_p30, List.forall_mem_cons.mpr ⟨lw_p31, fun _ h => absurd h List.not_mem_nil⟩⟩⟩⟩⟩⟩⟩⟩⟩⟩⟩⟩⟩⟩⟩⟩
theorem lw_p32 : lw_okq (⟨"WasmReader$Validity", "segmentsHold", "(LWasmReader$Segments;I)Z"⟩, 3) := ⟨⟨by decide +kernel, by decide +kernel⟩, List.mem_of_getElem? (i := 654) (by decide +kernel), List.mem_of_getElem? (i := 720) (by decide +kernel), List.mem_of_getElem? (i := 721) (by decide +kernel)⟩
theorem lw_p33 : lw_okq (⟨"WasmReader$Validity", "bodiesHold", "()Z"⟩, 3) := ⟨⟨by decide +kernel, by decide +kernel⟩, List.mem_of_getElem? (i := 654) (by decide +kernel), List.mem_of_getElem? (i := 724) (by decide +kernel), List.mem_of_getElem? (i := 725) (by decide +kernel)⟩
theorem lw_p34 : lw_okq (⟨"WasmReader$Validity", "instruction", "(II)V"⟩, 3) := ⟨⟨by decide +kernel, by decide +kernel⟩, List.mem_of_getElem? (i := 654) (by decide +kernel), List.mem_of_getElem? (i := 739) (by decide +kernel), List.mem_of_getElem? (i := 740) (by decide +kernel)⟩
theorem lw_p35 : lw_okq (⟨"WasmReader$Validity", "ifBlock", "()V"⟩, 3) := ⟨⟨by decide +kernel, by decide +kernel⟩, List.mem_of_getElem? (i := 654) (by decide +kernel), List.mem_of_getElem? (i := 749) (by decide +kernel), List.mem_of_getElem? (i := 750) (by decide +kernel)⟩
theorem lw_p36 : lw_okq (⟨"WasmReader$TypeStack", "finishArm", "()V"⟩, 8) := ⟨⟨by decide +kernel, by decide +kernel⟩, List.mem_of_getElem? (i := 332) (by decide +kernel), List.mem_of_getElem? (i := 765) (by decide +kernel), List.mem_of_getElem? (i := 766) (by decide +kernel)⟩
theorem lw_p37 : lw_okq (⟨"WasmReader$Validity", "branch", "(I)V"⟩, 3) := ⟨⟨by decide +kernel, by decide +kernel⟩, List.mem_of_getElem? (i := 654) (by decide +kernel), List.mem_of_getElem? (i := 783) (by decide +kernel), List.mem_of_getElem? (i := 784) (by decide +kernel)⟩
theorem lw_p38 : lw_okq (⟨"WasmReader$Validity", "branchIf", "(I)V"⟩, 3) := ⟨⟨by decide +kernel, by decide +kernel⟩, List.mem_of_getElem? (i := 654) (by decide +kernel), List.mem_of_getElem? (i := 787) (by decide +kernel), List.mem_of_getElem? (i := 788) (by decide +kernel)⟩
theorem lw_p39 : lw_okq (⟨"WasmReader$Validity", "branchTable", "()V"⟩, 3) := ⟨⟨by decide +kernel, by decide +kernel⟩, List.mem_of_getElem? (i := 654) (by decide +kernel), List.mem_of_getElem? (i := 792) (by decide +kernel), List.mem_of_getElem? (i := 793) (by decide +kernel)⟩
theorem lw_p40 : lw_okq (⟨"WasmReader$Validity", "call", "(I)V"⟩, 3) := ⟨⟨by decide +kernel, by decide +kernel⟩, List.mem_of_getElem? (i := 654) (by decide +kernel), List.mem_of_getElem? (i := 798) (by decide +kernel), List.mem_of_getElem? (i := 799) (by decide +kernel)⟩
theorem lw_p41 : lw_okq (⟨"WasmReader$Validity", "callOfType", "(I)V"⟩, 3) := ⟨⟨by decide +kernel, by decide +kernel⟩, List.mem_of_getElem? (i := 654) (by decide +kernel), List.mem_of_getElem? (i := 802) (by decide +kernel), List.mem_of_getElem? (i := 803) (by decide +kernel)⟩
theorem lw_p42 : lw_okq (⟨"WasmReader$Validity", "callIndirect", "()V"⟩, 3) := ⟨⟨by decide +kernel, by decide +kernel⟩, List.mem_of_getElem? (i := 654) (by decide +kernel), List.mem_of_getElem? (i := 806) (by decide +kernel), List.mem_of_getElem? (i := 807) (by decide +kernel)⟩
theorem lw_p43 : lw_okq (⟨"WasmReader$Validity", "select", "()V"⟩, 3) := ⟨⟨by decide +kernel, by decide +kernel⟩, List.mem_of_getElem? (i := 654) (by decide +kernel), List.mem_of_getElem? (i := 811) (by decide +kernel), List.mem_of_getElem? (i := 812) (by decide +kernel)⟩
theorem lw_p44 : lw_okq (⟨"WasmReader$Validity", "local", "(III)V"⟩, 3) := ⟨⟨by decide +kernel, by decide +kernel⟩, List.mem_of_getElem? (i := 654) (by decide +kernel), List.mem_of_getElem? (i := 815) (by decide +kernel), List.mem_of_getElem? (i := 816) (by decide +kernel)⟩
theorem lw_p45 : lw_okq (⟨"WasmReader$Validity", "globalAccess", "(II)V"⟩, 3) := ⟨⟨by decide +kernel, by decide +kernel⟩, List.mem_of_getElem? (i := 654) (by decide +kernel), List.mem_of_getElem? (i := 828) (by decide +kernel), List.mem_of_getElem? (i := 829) (by decide +kernel)⟩
theorem lw_p46 : lw_okq (⟨"WasmReader$Validity", "memorySize", "(I)V"⟩, 3) := ⟨⟨by decide +kernel, by decide +kernel⟩, List.mem_of_getElem? (i := 654) (by decide +kernel), List.mem_of_getElem? (i := 832) (by decide +kernel), List.mem_of_getElem? (i := 833) (by decide +kernel)⟩
theorem lw_p47 : lw_okq (⟨"WasmReader$Validity", "access", "(II)V"⟩, 3) := ⟨⟨by decide +kernel, by decide +kernel⟩, List.mem_of_getElem? (i := 654) (by decide +kernel), List.mem_of_getElem? (i := 838) (by decide +kernel), List.mem_of_getElem? (i := 839) (by decide +kernel)⟩
def lw_privs_3 : List (MethodName × Nat) := [(⟨"WasmReader$Validity", "segmentsHold", "(LWasmReader$Segments;I)Z"⟩, 3), (⟨"WasmReader$Validity", "bodiesHold", "()Z"⟩, 3), (⟨"WasmReader$Validity", "instruction", "(II)V"⟩, 3), (⟨"WasmReader$Validity", "ifBlock", "()V"⟩, 3), (⟨"WasmReader$TypeStack", "finishArm", "()V"⟩, 8), (⟨"WasmReader$Validity", "branch", "(I)V"⟩, 3), (⟨"WasmReader$Validity", "branchIf", "(I)V"⟩, 3), (⟨"WasmReader$Validity", "branchTable", "()V"⟩, 3), (⟨"WasmReader$Validity", "call", "(I)V"⟩, 3), (⟨"WasmReader$Validity", "callOfType", "(I)V"⟩, 3), (⟨"WasmReader$Validity", "callIndirect", "()V"⟩, 3), (⟨"WasmReader$Validity", "select", "()V"⟩, 3), (⟨"WasmReader$Validity", "local", "(III)V"⟩, 3), (⟨"WasmReader$Validity", "globalAccess", "(II)V"⟩, 3), (⟨"WasmReader$Validity", "memorySize", "(I)V"⟩, 3), (⟨"WasmReader$Validity", "access", "(II)V"⟩, 3)]
theorem lw_r3 : ∀ q ∈ lw_privs_3, lw_okq q := List.forall_mem_cons.mpr ⟨lw_p32, List.forall_mem_cons.mpr ⟨lw_p33, List.forall_mem_cons.mpr ⟨lw_p34, List.forall_mem_cons.mpr ⟨lw_p35, List.forall_mem_cons.mpr ⟨lw_p36, List.forall_mem_cons.mpr ⟨lw_p37, List.forall_mem_cons.mpr ⟨lw_p38, List.forall_mem_cons.mpr ⟨lw_p39, List.forall_mem_cons.mpr ⟨lw_p40, List.forall_mem_cons.mpr ⟨lw_p41, List.forall_mem_cons.mpr ⟨lw_p42, List.forall_mem_cons.mpr ⟨lw_p43, List.forall_mem_cons.mpr ⟨lw_p44, List.forall_mem_cons.mpr ⟨lw_p45, List.forall_mem_cons.mpr ⟨lw_p46, List.forall_mem_cons.mpr ⟨lw_p47, fun _ h => absurd h List.not_mem_nil⟩⟩⟩⟩⟩⟩⟩⟩⟩⟩⟩⟩⟩⟩⟩⟩
theorem lw_p48 : lw_okq (⟨"WasmReader$Validity", "numeric", "(I)V"⟩, 3) := ⟨⟨by decide +kernel, by decide +kernel⟩, List.mem_of_getElem? (i := 654) (by decide +kernel), List.mem_of_getElem? (i := 847) (by decide +kernel), List.mem_of_getElem? (i := 848) (by decide +kernel)⟩
theorem lw_p49 : lw_okq (⟨"java/lang/Throwable", "fillInStackTrace", "(I)Ljava/lang/Throwable;"⟩, 6) := ⟨⟨by decide +kernel, by decide +kernel⟩, List.mem_of_getElem? (i := 899) (by decide +kernel), List.mem_of_getElem? (i := 897) (by decide +kernel), List.mem_of_getElem? (i := 898) (by decide +kernel)⟩
theorem lw_p50 : lw_okq (⟨"WasmReaderModel", "four", "(I)V"⟩, 24) := ⟨⟨by decide +kernel, by decide +kernel⟩, List.mem_of_getElem? (i := 1013) (by decide +kernel), List.mem_of_getElem? (i := 1316) (by decide +kernel), List.mem_of_getElem? (i := 1317) (by decide +kernel)⟩
theorem lw_p51 : lw_okq (⟨"WasmReaderModel", "parse", "()V"⟩, 24) := ⟨⟨by decide +kernel, by decide +kernel⟩, List.mem_of_getElem? (i := 1013) (by decide +kernel), List.mem_of_getElem? (i := 1332) (by decide +kernel), List.mem_of_getElem? (i := 1333) (by decide +kernel)⟩
theorem lw_p52 : lw_okq (⟨"WasmReaderModel", "one", "()I"⟩, 24) := ⟨⟨by decide +kernel, by decide +kernel⟩, List.mem_of_getElem? (i := 1013) (by decide +kernel), List.mem_of_getElem? (i := 1336) (by decide +kernel), List.mem_of_getElem? (i := 1337) (by decide +kernel)⟩
theorem lw_p53 : lw_okq (⟨"WasmReaderModel", "whole", "()J"⟩, 24) := ⟨⟨by decide +kernel, by decide +kernel⟩, List.mem_of_getElem? (i := 1013) (by decide +kernel), List.mem_of_getElem? (i := 1366) (by decide +kernel), List.mem_of_getElem? (i := 1367) (by decide +kernel)⟩
theorem lw_p54 : lw_okq (⟨"WasmReaderModel", "name", "(Z)I"⟩, 24) := ⟨⟨by decide +kernel, by decide +kernel⟩, List.mem_of_getElem? (i := 1013) (by decide +kernel), List.mem_of_getElem? (i := 1370) (by decide +kernel), List.mem_of_getElem? (i := 1371) (by decide +kernel)⟩
theorem lw_p55 : lw_okq (⟨"WasmReaderModel", "item", "(I)V"⟩, 24) := ⟨⟨by decide +kernel, by decide +kernel⟩, List.mem_of_getElem? (i := 1013) (by decide +kernel), List.mem_of_getElem? (i := 1380) (by decide +kernel), List.mem_of_getElem? (i := 1381) (by decide +kernel)⟩
theorem lw_p56 : lw_okq (⟨"WasmReaderModel", "typeItem", "()V"⟩, 24) := ⟨⟨by decide +kernel, by decide +kernel⟩, List.mem_of_getElem? (i := 1013) (by decide +kernel), List.mem_of_getElem? (i := 1384) (by decide +kernel), List.mem_of_getElem? (i := 1385) (by decide +kernel)⟩
theorem lw_p57 : lw_okq (⟨"WasmReaderModel", "type", "()I"⟩, 24) := ⟨⟨by decide +kernel, by decide +kernel⟩, List.mem_of_getElem? (i := 1013) (by decide +kernel), List.mem_of_getElem? (i := 1389) (by decide +kernel), List.mem_of_getElem? (i := 1390) (by decide +kernel)⟩
theorem lw_p58 : lw_okq (⟨"WasmReaderModel", "importItem", "()V"⟩, 24) := ⟨⟨by decide +kernel, by decide +kernel⟩, List.mem_of_getElem? (i := 1013) (by decide +kernel), List.mem_of_getElem? (i := 1393) (by decide +kernel), List.mem_of_getElem? (i := 1394) (by decide +kernel)⟩
theorem lw_p59 : lw_okq (⟨"WasmReaderModel", "functionItem", "(II)V"⟩, 24) := ⟨⟨by decide +kernel, by decide +kernel⟩, List.mem_of_getElem? (i := 1013) (by decide +kernel), List.mem_of_getElem? (i := 1397) (by decide +kernel), List.mem_of_getElem? (i := 1398) (by decide +kernel)⟩
theorem lw_p60 : lw_okq (⟨"WasmReaderModel", "flag", "()I"⟩, 24) := ⟨⟨by decide +kernel, by decide +kernel⟩, List.mem_of_getElem? (i := 1013) (by decide +kernel), List.mem_of_getElem? (i := 1401) (by decide +kernel), List.mem_of_getElem? (i := 1402) (by decide +kernel)⟩
theorem lw_p61 : lw_okq (⟨"WasmReaderModel", "global", "(III)V"⟩, 24) := ⟨⟨by decide +kernel, by decide +kernel⟩, List.mem_of_getElem? (i := 1013) (by decide +kernel), List.mem_of_getElem? (i := 1405) (by decide +kernel), List.mem_of_getElem? (i := 1406) (by decide +kernel)⟩
theorem lw_p62 : lw_okq (⟨"WasmReaderModel", "limits", "(J)V"⟩, 24) := ⟨⟨by decide +kernel, by decide +kernel⟩, List.mem_of_getElem? (i := 1013) (by decide +kernel), List.mem_of_getElem? (i := 1410) (by decide +kernel), List.mem_of_getElem? (i := 1411) (by decide +kernel)⟩
theorem lw_p63 : lw_okq (⟨"WasmReaderModel", "limited", "(ZI)V"⟩, 24) := ⟨⟨by decide +kernel, by decide +kernel⟩, List.mem_of_getElem? (i := 1013) (by decide +kernel), List.mem_of_getElem? (i := 1415) (by decide +kernel), List.mem_of_getElem? (i := 1416) (by decide +kernel)⟩
def lw_privs_4 : List (MethodName × Nat) := [(⟨"WasmReader$Validity", "numeric", "(I)V"⟩, 3), (⟨"java/lang/Throwable", "fillInStackTrace", "(I)Ljava/lang/Throwable;"⟩, 6), (⟨"WasmReaderModel", "four", "(I)V"⟩, 24), (⟨"WasmReaderModel", "parse", "()V"⟩, 24), (⟨"WasmReaderModel", "one", "()I"⟩, 24), (⟨"WasmReaderModel", "whole", "()J"⟩, 24), (⟨"WasmReaderModel", "name", "(Z)I"⟩, 24), (⟨"WasmReaderModel", "item", "(I)V"⟩, 24), (⟨"WasmReaderModel", "typeItem", "()V"⟩, 24), (⟨"WasmReaderModel", "type", "()I"⟩, 24), (⟨"WasmReaderModel", "importItem", "()V"⟩, 24), (⟨"WasmReaderModel", "functionItem", "(II)V"⟩, 24), (⟨"WasmReaderModel", "flag", "()I"⟩, 24), (⟨"WasmReaderModel", "global", "(III)V"⟩, 24), (⟨"WasmReaderModel", "limits", "(J)V"⟩, 24), (⟨"WasmReaderModel", "limited", "(ZI)V"⟩, 24)]
theorem lw_r4 : ∀ q ∈ lw_privs_4, lw_okq q := List.forall_mem_cons.mpr ⟨lw_p48, List.forall_mem_cons.mpr ⟨lw_p49, List.forall_mem_cons.mpr ⟨lw_p50, List.forall_mem_cons.mpr ⟨lw_p51, List.forall_mem_cons.mpr ⟨lw_p52, List.forall_mem_cons.mpr ⟨lw_p53, List.forall_mem_cons.mpr ⟨lw_p54, List.forall_mem_cons.mpr ⟨lw_p55, List.forall_mem_cons.mpr ⟨lw_p56, List.forall_mem_cons.mpr ⟨lw_p57, List.forall_mem_cons.mpr ⟨lw_p58, List.forall_mem_cons.mpr ⟨lw_p59, List.forall_mem_cons.mpr ⟨lw_p60, List.forall_mem_cons.mpr ⟨lw_p61, List.forall_mem_cons.mpr ⟨lw_p62, List.forall_mem_cons.mpr ⟨lw_p63, fun _ h => absurd h List.not_mem_nil⟩⟩⟩⟩⟩⟩⟩⟩⟩⟩⟩⟩⟩⟩⟩⟩
theorem lw_p64 : lw_okq (⟨"WasmReaderModel", "initial", "()V"⟩, 24) := ⟨⟨by decide +kernel, by decide +kernel⟩, List.mem_of_getElem? (i := 1013) (by decide +kernel), List.mem_of_getElem? (i := 1422) (by decide +kernel), List.mem_of_getElem? (i := 1423) (by decide +kernel)⟩
theorem lw_p65 : lw_okq (⟨"WasmReaderModel", "signed", "(I)J"⟩, 24) := ⟨⟨by decide +kernel, by decide +kernel⟩, List.mem_of_getElem? (i := 1013) (by decide +kernel), List.mem_of_getElem? (i := 1426) (by decide +kernel), List.mem_of_getElem? (i := 1427) (by decide +kernel)⟩
theorem lw_p66 : lw_okq (⟨"WasmReaderModel", "element", "()V"⟩, 24) := ⟨⟨by decide +kernel, by decide +kernel⟩, List.mem_of_getElem? (i := 1013) (by decide +kernel), List.mem_of_getElem? (i := 1430) (by decide +kernel), List.mem_of_getElem? (i := 1431) (by decide +kernel)⟩
theorem lw_p67 : lw_okq (⟨"WasmReaderModel", "body", "()V"⟩, 24) := ⟨⟨by decide +kernel, by decide +kernel⟩, List.mem_of_getElem? (i := 1013) (by decide +kernel), List.mem_of_getElem? (i := 1434) (by decide +kernel), List.mem_of_getElem? (i := 1435) (by decide +kernel)⟩
theorem lw_p68 : lw_okq (⟨"WasmReaderModel", "code", "()V"⟩, 24) := ⟨⟨by decide +kernel, by decide +kernel⟩, List.mem_of_getElem? (i := 1013) (by decide +kernel), List.mem_of_getElem? (i := 1440) (by decide +kernel), List.mem_of_getElem? (i := 1441) (by decide +kernel)⟩
theorem lw_p69 : lw_okq (⟨"WasmReaderModel", "data", "()V"⟩, 24) := ⟨⟨by decide +kernel, by decide +kernel⟩, List.mem_of_getElem? (i := 1013) (by decide +kernel), List.mem_of_getElem? (i := 1447) (by decide +kernel), List.mem_of_getElem? (i := 1448) (by decide +kernel)⟩
theorem lw_p70 : lw_okq (⟨"WasmReaderModel", "isRoom", "()Z"⟩, 24) := ⟨⟨by decide +kernel, by decide +kernel⟩, List.mem_of_getElem? (i := 1013) (by decide +kernel), List.mem_of_getElem? (i := 1451) (by decide +kernel), List.mem_of_getElem? (i := 1452) (by decide +kernel)⟩
theorem lw_p71 : lw_okq (⟨"WasmReaderModel", "valid", "()V"⟩, 24) := ⟨⟨by decide +kernel, by decide +kernel⟩, List.mem_of_getElem? (i := 1013) (by decide +kernel), List.mem_of_getElem? (i := 1455) (by decide +kernel), List.mem_of_getElem? (i := 1456) (by decide +kernel)⟩
theorem lw_p72 : lw_okq (⟨"WasmReaderModel", "must", "(Z)V"⟩, 24) := ⟨⟨by decide +kernel, by decide +kernel⟩, List.mem_of_getElem? (i := 1013) (by decide +kernel), List.mem_of_getElem? (i := 1459) (by decide +kernel), List.mem_of_getElem? (i := 1460) (by decide +kernel)⟩
theorem lw_p73 : lw_okq (⟨"WasmReaderModel", "isInitial", "(IJI)Z"⟩, 24) := ⟨⟨by decide +kernel, by decide +kernel⟩, List.mem_of_getElem? (i := 1013) (by decide +kernel), List.mem_of_getElem? (i := 1463) (by decide +kernel), List.mem_of_getElem? (i := 1464) (by decide +kernel)⟩
theorem lw_p74 : lw_okq (⟨"WasmReaderModel", "valid", "(I)V"⟩, 24) := ⟨⟨by decide +kernel, by decide +kernel⟩, List.mem_of_getElem? (i := 1013) (by decide +kernel), List.mem_of_getElem? (i := 1470) (by decide +kernel), List.mem_of_getElem? (i := 1471) (by decide +kernel)⟩
theorem lw_p75 : lw_okq (⟨"WasmReaderModel", "open", "(III)V"⟩, 24) := ⟨⟨by decide +kernel, by decide +kernel⟩, List.mem_of_getElem? (i := 1013) (by decide +kernel), List.mem_of_getElem? (i := 1474) (by decide +kernel), List.mem_of_getElem? (i := 1475) (by decide +kernel)⟩
theorem lw_p76 : lw_okq (⟨"WasmReaderModel", "dead", "()V"⟩, 24) := ⟨⟨by decide +kernel, by decide +kernel⟩, List.mem_of_getElem? (i := 1013) (by decide +kernel), List.mem_of_getElem? (i := 1478) (by decide +kernel), List.mem_of_getElem? (i := 1479) (by decide +kernel)⟩
theorem lw_p77 : lw_okq (⟨"WasmReaderModel", "blockType", "()I"⟩, 24) := ⟨⟨by decide +kernel, by decide +kernel⟩, List.mem_of_getElem? (i := 1013) (by decide +kernel), List.mem_of_getElem? (i := 1482) (by decide +kernel), List.mem_of_getElem? (i := 1483) (by decide +kernel)⟩
theorem lw_p78 : lw_okq (⟨"WasmReaderModel", "pop", "(I)I"⟩, 24) := ⟨⟨by decide +kernel, by decide +kernel⟩, List.mem_of_getElem? (i := 1013) (by decide +kernel), List.mem_of_getElem? (i := 1486) (by decide +kernel), List.mem_of_getElem? (i := 1487) (by decide +kernel)⟩
theorem lw_p79 : lw_okq (⟨"WasmReaderModel", "pops", "(I)V"⟩, 24) := ⟨⟨by decide +kernel, by decide +kernel⟩, List.mem_of_getElem? (i := 1013) (by decide +kernel), List.mem_of_getElem? (i := 1490) (by decide +kernel), List.mem_of_getElem? (i := 1491) (by decide +kernel)⟩
def lw_privs_5 : List (MethodName × Nat) := [(⟨"WasmReaderModel", "initial", "()V"⟩, 24), (⟨"WasmReaderModel", "signed", "(I)J"⟩, 24), (⟨"WasmReaderModel", "element", "()V"⟩, 24), (⟨"WasmReaderModel", "body", "()V"⟩, 24), (⟨"WasmReaderModel", "code", "()V"⟩, 24), (⟨"WasmReaderModel", "data", "()V"⟩, 24), (⟨"WasmReaderModel", "isRoom", "()Z"⟩, 24), (⟨"WasmReaderModel", "valid", "()V"⟩, 24), (⟨"WasmReaderModel", "must", "(Z)V"⟩, 24), (⟨"WasmReaderModel", "isInitial", "(IJI)Z"⟩, 24), (⟨"WasmReaderModel", "valid", "(I)V"⟩, 24), (⟨"WasmReaderModel", "open", "(III)V"⟩, 24), (⟨"WasmReaderModel", "dead", "()V"⟩, 24), (⟨"WasmReaderModel", "blockType", "()I"⟩, 24), (⟨"WasmReaderModel", "pop", "(I)I"⟩, 24), (⟨"WasmReaderModel", "pops", "(I)V"⟩, 24)]
theorem lw_r5 : ∀ q ∈ lw_privs_5, lw_okq q := List.forall_mem_cons.mpr ⟨lw_p64, List.forall_mem_cons.mpr ⟨lw_p65, List.forall_mem_cons.mpr ⟨lw_p66, List.forall_mem_cons.mpr ⟨lw_p67, List.forall_mem_cons.mpr ⟨lw_p68, List.forall_mem_cons.mpr ⟨lw_p69, List.forall_mem_cons.mpr ⟨lw_p70, List.forall_mem_cons.mpr ⟨lw_p71, List.forall_mem_cons.mpr ⟨lw_p72, List.forall_mem_cons.mpr ⟨lw_p73, List.forall_mem_cons.mpr ⟨lw_p74, List.forall_mem_cons.mpr ⟨lw_p75, List.forall_mem_cons.mpr ⟨lw_p76, List.forall_mem_cons.mpr ⟨lw_p77, List.forall_mem_cons.mpr ⟨lw_p78, List.forall_mem_cons.mpr ⟨lw_p79, fun _ h => absurd h List.not_mem_nil⟩⟩⟩⟩⟩⟩⟩⟩⟩⟩⟩⟩⟩⟩⟩⟩
theorem lw_p80 : lw_okq (⟨"WasmReaderModel", "push", "(I)V"⟩, 24) := ⟨⟨by decide +kernel, by decide +kernel⟩, List.mem_of_getElem? (i := 1013) (by decide +kernel), List.mem_of_getElem? (i := 1494) (by decide +kernel), List.mem_of_getElem? (i := 1495) (by decide +kernel)⟩
theorem lw_p81 : lw_okq (⟨"WasmReaderModel", "block", "(J)I"⟩, 24) := ⟨⟨by decide +kernel, by decide +kernel⟩, List.mem_of_getElem? (i := 1013) (by decide +kernel), List.mem_of_getElem? (i := 1498) (by decide +kernel), List.mem_of_getElem? (i := 1499) (by decide +kernel)⟩
theorem lw_p82 : lw_okq (⟨"WasmReaderModel", "table", "()V"⟩, 24) := ⟨⟨by decide +kernel, by decide +kernel⟩, List.mem_of_getElem? (i := 1013) (by decide +kernel), List.mem_of_getElem? (i := 1502) (by decide +kernel), List.mem_of_getElem? (i := 1503) (by decide +kernel)⟩
theorem lw_p83 : lw_okq (⟨"WasmReaderModel", "called", "(I)V"⟩, 24) := ⟨⟨by decide +kernel, by decide +kernel⟩, List.mem_of_getElem? (i := 1013) (by decide +kernel), List.mem_of_getElem? (i := 1506) (by decide +kernel), List.mem_of_getElem? (i := 1507) (by decide +kernel)⟩
theorem lw_p84 : lw_okq (⟨"WasmReaderModel", "access", "(I)V"⟩, 24) := ⟨⟨by decide +kernel, by decide +kernel⟩, List.mem_of_getElem? (i := 1013) (by decide +kernel), List.mem_of_getElem? (i := 1510) (by decide +kernel), List.mem_of_getElem? (i := 1511) (by decide +kernel)⟩
theorem lw_p85 : lw_okq (⟨"WasmReaderModel", "numeric", "(I)V"⟩, 24) := ⟨⟨by decide +kernel, by decide +kernel⟩, List.mem_of_getElem? (i := 1013) (by decide +kernel), List.mem_of_getElem? (i := 1518) (by decide +kernel), List.mem_of_getElem? (i := 1519) (by decide +kernel)⟩
theorem lw_p86 : lw_okq (⟨"WasmReaderModel", "fails", "(I)Z"⟩, 24) := ⟨⟨by decide +kernel, by decide +kernel⟩, List.mem_of_getElem? (i := 1013) (by decide +kernel), List.mem_of_getElem? (i := 1526) (by decide +kernel), List.mem_of_getElem? (i := 1527) (by decide +kernel)⟩
def lw_privs_6 : List (MethodName × Nat) := [(⟨"WasmReaderModel", "push", "(I)V"⟩, 24), (⟨"WasmReaderModel", "block", "(J)I"⟩, 24), (⟨"WasmReaderModel", "table", "()V"⟩, 24), (⟨"WasmReaderModel", "called", "(I)V"⟩, 24), (⟨"WasmReaderModel", "access", "(I)V"⟩, 24), (⟨"WasmReaderModel", "numeric", "(I)V"⟩, 24), (⟨"WasmReaderModel", "fails", "(I)Z"⟩, 24)]
theorem lw_r6 : ∀ q ∈ lw_privs_6, lw_okq q := List.forall_mem_cons.mpr ⟨lw_p80, List.forall_mem_cons.mpr ⟨lw_p81, List.forall_mem_cons.mpr ⟨lw_p82, List.forall_mem_cons.mpr ⟨lw_p83, List.forall_mem_cons.mpr ⟨lw_p84, List.forall_mem_cons.mpr ⟨lw_p85, List.forall_mem_cons.mpr ⟨lw_p86, fun _ h => absurd h List.not_mem_nil⟩⟩⟩⟩⟩⟩⟩
def lw_privs : List (MethodName × Nat) := lw_privs_1 ++ (lw_privs_2 ++ (lw_privs_3 ++ (lw_privs_4 ++ (lw_privs_5 ++ (lw_privs_6)))))
def lw_tbl : List Cond := k2_sels lw_privs ++ tables_1
theorem lw_privs_ok : ∀ q ∈ lw_privs, lw_okq q := by
  show ∀ q ∈ lw_privs_1 ++ (lw_privs_2 ++ (lw_privs_3 ++ (lw_privs_4 ++ (lw_privs_5 ++ (lw_privs_6))))), lw_okq q
  exact List.forall_mem_append.mpr ⟨lw_r1, List.forall_mem_append.mpr ⟨lw_r2, List.forall_mem_append.mpr ⟨lw_r3, List.forall_mem_append.mpr ⟨lw_r4, List.forall_mem_append.mpr ⟨lw_r5, lw_r6⟩⟩⟩⟩⟩

-- ===== end of PART A =====
def T_Reader : u_T := fun k => match k with
  | 0 => ("WasmReader", "cursor", "LWasmReader$Cursor;", true)
  | 1 => ("WasmReader", "module", "LWasmReader$WasmModule;", true)
  | 2 => ("WasmReader", "elseMayCome", "[Z", true)
  | 3 => ("WasmReader", "stack", "LWasmReader$TypeStack;", true)
  | _ => ("WasmReader", "present", "Z", false)
def t_Reader : Nat → FieldType := fun k => match k with
  | 0 => .object "WasmReader$Cursor"
  | 1 => .object "WasmReader$WasmModule"
  | 2 => .array .boolean
  | 3 => .object "WasmReader$TypeStack"
  | _ => .boolean
theorem nok_Reader : ∀ a, a < 5 → ∀ b, b < 5 → a ≠ b → (T_Reader a).2.1 ≠ (T_Reader b).2.1 := by decide +kernel
theorem tok_Reader : ∀ k, k < 5 → parseFieldDescriptor (T_Reader k).2.2.1 = some (t_Reader k) := by decide +kernel
def T_Cursor : u_T := fun k => match k with
  | 0 => ("WasmReader$Cursor", "bytes", "[B", true)
  | 1 => ("WasmReader$Cursor", "length", "I", false)
  | 2 => ("WasmReader$Cursor", "position", "I", false)
  | 3 => ("WasmReader$Cursor", "limit", "I", false)
  | _ => ("WasmReader$Cursor", "malformed", "Z", false)
def t_Cursor : Nat → FieldType := fun k => match k with
  | 0 => .array .byte
  | 1 => .int
  | 2 => .int
  | 3 => .int
  | _ => .boolean
theorem nok_Cursor : ∀ a, a < 5 → ∀ b, b < 5 → a ≠ b → (T_Cursor a).2.1 ≠ (T_Cursor b).2.1 := by decide +kernel
theorem tok_Cursor : ∀ k, k < 5 → parseFieldDescriptor (T_Cursor k).2.2.1 = some (t_Cursor k) := by decide +kernel
def T_WasmModule : u_T := fun k => match k with
  | 0 => ("WasmReader$WasmModule", "types", "LWasmReader$Types;", true)
  | 1 => ("WasmReader$WasmModule", "functions", "LWasmReader$Functions;", true)
  | 2 => ("WasmReader$WasmModule", "globals", "LWasmReader$Globals;", true)
  | 3 => ("WasmReader$WasmModule", "exports", "LWasmReader$Exports;", true)
  | 4 => ("WasmReader$WasmModule", "elements", "LWasmReader$Segments;", true)
  | 5 => ("WasmReader$WasmModule", "data", "LWasmReader$Segments;", true)
  | 6 => ("WasmReader$WasmModule", "tables", "LWasmReader$Sized;", true)
  | 7 => ("WasmReader$WasmModule", "memories", "LWasmReader$Sized;", true)
  | 8 => ("WasmReader$WasmModule", "imports", "I", false)
  | 9 => ("WasmReader$WasmModule", "start", "I", false)
  | _ => ("WasmReader$WasmModule", "partTooLarge", "Z", false)
def t_WasmModule : Nat → FieldType := fun k => match k with
  | 0 => .object "WasmReader$Types"
  | 1 => .object "WasmReader$Functions"
  | 2 => .object "WasmReader$Globals"
  | 3 => .object "WasmReader$Exports"
  | 4 => .object "WasmReader$Segments"
  | 5 => .object "WasmReader$Segments"
  | 6 => .object "WasmReader$Sized"
  | 7 => .object "WasmReader$Sized"
  | 8 => .int
  | 9 => .int
  | _ => .boolean
theorem nok_WasmModule : ∀ a, a < 11 → ∀ b, b < 11 → a ≠ b → (T_WasmModule a).2.1 ≠ (T_WasmModule b).2.1 := by decide +kernel
theorem tok_WasmModule : ∀ k, k < 11 → parseFieldDescriptor (T_WasmModule k).2.2.1 = some (t_WasmModule k) := by decide +kernel
def T_Types : u_T := fun k => match k with
  | 0 => ("WasmReader$Types", "count", "I", false)
  | 1 => ("WasmReader$Types", "parameters", "[I", true)
  | 2 => ("WasmReader$Types", "longs", "[I", true)
  | _ => ("WasmReader$Types", "result", "[I", true)
def t_Types : Nat → FieldType := fun k => match k with
  | 0 => .int
  | 1 => .array .int
  | 2 => .array .int
  | _ => .array .int
theorem nok_Types : ∀ a, a < 4 → ∀ b, b < 4 → a ≠ b → (T_Types a).2.1 ≠ (T_Types b).2.1 := by decide +kernel
theorem tok_Types : ∀ k, k < 4 → parseFieldDescriptor (T_Types k).2.2.1 = some (t_Types k) := by decide +kernel
def T_Functions : u_T := fun k => match k with
  | 0 => ("WasmReader$Functions", "count", "I", false)
  | 1 => ("WasmReader$Functions", "imported", "I", false)
  | 2 => ("WasmReader$Functions", "bodies", "I", false)
  | 3 => ("WasmReader$Functions", "type", "[I", true)
  | 4 => ("WasmReader$Functions", "parameters", "[I", true)
  | 5 => ("WasmReader$Functions", "result", "[I", true)
  | 6 => ("WasmReader$Functions", "locals", "[I", true)
  | 7 => ("WasmReader$Functions", "longs", "[I", true)
  | 8 => ("WasmReader$Functions", "bodyStart", "[I", true)
  | _ => ("WasmReader$Functions", "bodyBytes", "[I", true)
def t_Functions : Nat → FieldType := fun k => match k with
  | 0 => .int
  | 1 => .int
  | 2 => .int
  | 3 => .array .int
  | 4 => .array .int
  | 5 => .array .int
  | 6 => .array .int
  | 7 => .array .int
  | 8 => .array .int
  | _ => .array .int
theorem nok_Functions : ∀ a, a < 10 → ∀ b, b < 10 → a ≠ b → (T_Functions a).2.1 ≠ (T_Functions b).2.1 := by decide +kernel
theorem tok_Functions : ∀ k, k < 10 → parseFieldDescriptor (T_Functions k).2.2.1 = some (t_Functions k) := by decide +kernel
def T_Globals : u_T := fun k => match k with
  | 0 => ("WasmReader$Globals", "count", "I", false)
  | 1 => ("WasmReader$Globals", "imported", "I", false)
  | 2 => ("WasmReader$Globals", "type", "[I", true)
  | 3 => ("WasmReader$Globals", "mutable", "[Z", true)
  | 4 => ("WasmReader$Globals", "initialOpcode", "[I", true)
  | _ => ("WasmReader$Globals", "initialValue", "[J", true)
def t_Globals : Nat → FieldType := fun k => match k with
  | 0 => .int
  | 1 => .int
  | 2 => .array .int
  | 3 => .array .boolean
  | 4 => .array .int
  | _ => .array .long
theorem nok_Globals : ∀ a, a < 6 → ∀ b, b < 6 → a ≠ b → (T_Globals a).2.1 ≠ (T_Globals b).2.1 := by decide +kernel
theorem tok_Globals : ∀ k, k < 6 → parseFieldDescriptor (T_Globals k).2.2.1 = some (t_Globals k) := by decide +kernel
def T_Exports : u_T := fun k => match k with
  | 0 => ("WasmReader$Exports", "count", "I", false)
  | 1 => ("WasmReader$Exports", "sort", "[I", true)
  | 2 => ("WasmReader$Exports", "number", "[I", true)
  | 3 => ("WasmReader$Exports", "nameLength", "[I", true)
  | _ => ("WasmReader$Exports", "names", "[B", true)
def t_Exports : Nat → FieldType := fun k => match k with
  | 0 => .int
  | 1 => .array .int
  | 2 => .array .int
  | 3 => .array .int
  | _ => .array .byte
theorem nok_Exports : ∀ a, a < 5 → ∀ b, b < 5 → a ≠ b → (T_Exports a).2.1 ≠ (T_Exports b).2.1 := by decide +kernel
theorem tok_Exports : ∀ k, k < 5 → parseFieldDescriptor (T_Exports k).2.2.1 = some (t_Exports k) := by decide +kernel
def T_Segments : u_T := fun k => match k with
  | 0 => ("WasmReader$Segments", "count", "I", false)
  | 1 => ("WasmReader$Segments", "target", "[I", true)
  | 2 => ("WasmReader$Segments", "offsetOpcode", "[I", true)
  | 3 => ("WasmReader$Segments", "offsetValue", "[J", true)
  | _ => ("WasmReader$Segments", "highest", "[I", true)
def t_Segments : Nat → FieldType := fun k => match k with
  | 0 => .int
  | 1 => .array .int
  | 2 => .array .int
  | 3 => .array .long
  | _ => .array .int
theorem nok_Segments : ∀ a, a < 5 → ∀ b, b < 5 → a ≠ b → (T_Segments a).2.1 ≠ (T_Segments b).2.1 := by decide +kernel
theorem tok_Segments : ∀ k, k < 5 → parseFieldDescriptor (T_Segments k).2.2.1 = some (t_Segments k) := by decide +kernel
def T_Sized : u_T := fun k => match k with
  | 0 => ("WasmReader$Sized", "count", "I", false)
  | 1 => ("WasmReader$Sized", "least", "J", false)
  | _ => ("WasmReader$Sized", "most", "J", false)
def t_Sized : Nat → FieldType := fun k => match k with
  | 0 => .int
  | 1 => .long
  | _ => .long
theorem nok_Sized : ∀ a, a < 3 → ∀ b, b < 3 → a ≠ b → (T_Sized a).2.1 ≠ (T_Sized b).2.1 := by decide +kernel
theorem tok_Sized : ∀ k, k < 3 → parseFieldDescriptor (T_Sized k).2.2.1 = some (t_Sized k) := by decide +kernel
def T_TypeStack : u_T := fun k => match k with
  | 0 => ("WasmReader$TypeStack", "operands", "[B", true)
  | 1 => ("WasmReader$TypeStack", "opener", "[I", true)
  | 2 => ("WasmReader$TypeStack", "result", "[I", true)
  | 3 => ("WasmReader$TypeStack", "floor", "[I", true)
  | 4 => ("WasmReader$TypeStack", "unreachable", "[Z", true)
  | 5 => ("WasmReader$TypeStack", "height", "I", false)
  | 6 => ("WasmReader$TypeStack", "top", "I", false)
  | _ => ("WasmReader$TypeStack", "wrong", "Z", false)
def t_TypeStack : Nat → FieldType := fun k => match k with
  | 0 => .array .byte
  | 1 => .array .int
  | 2 => .array .int
  | 3 => .array .int
  | 4 => .array .boolean
  | 5 => .int
  | 6 => .int
  | _ => .boolean
theorem nok_TypeStack : ∀ a, a < 8 → ∀ b, b < 8 → a ≠ b → (T_TypeStack a).2.1 ≠ (T_TypeStack b).2.1 := by decide +kernel
theorem tok_TypeStack : ∀ k, k < 8 → parseFieldDescriptor (T_TypeStack k).2.2.1 = some (t_TypeStack k) := by decide +kernel
def T_Grammar : u_T := fun k => match k with
  | 0 => ("WasmReader$Grammar", "cursor", "LWasmReader$Cursor;", true)
  | 1 => ("WasmReader$Grammar", "module", "LWasmReader$WasmModule;", true)
  | _ => ("WasmReader$Grammar", "elseMayCome", "[Z", true)
def t_Grammar : Nat → FieldType := fun k => match k with
  | 0 => .object "WasmReader$Cursor"
  | 1 => .object "WasmReader$WasmModule"
  | _ => .array .boolean
theorem nok_Grammar : ∀ a, a < 3 → ∀ b, b < 3 → a ≠ b → (T_Grammar a).2.1 ≠ (T_Grammar b).2.1 := by decide +kernel
theorem tok_Grammar : ∀ k, k < 3 → parseFieldDescriptor (T_Grammar k).2.2.1 = some (t_Grammar k) := by decide +kernel
def T_Validity : u_T := fun k => match k with
  | 0 => ("WasmReader$Validity", "cursor", "LWasmReader$Cursor;", true)
  | 1 => ("WasmReader$Validity", "module", "LWasmReader$WasmModule;", true)
  | _ => ("WasmReader$Validity", "stack", "LWasmReader$TypeStack;", true)
def t_Validity : Nat → FieldType := fun k => match k with
  | 0 => .object "WasmReader$Cursor"
  | 1 => .object "WasmReader$WasmModule"
  | _ => .object "WasmReader$TypeStack"
theorem nok_Validity : ∀ a, a < 3 → ∀ b, b < 3 → a ≠ b → (T_Validity a).2.1 ≠ (T_Validity b).2.1 := by decide +kernel
theorem tok_Validity : ∀ k, k < 3 → parseFieldDescriptor (T_Validity k).2.2.1 = some (t_Validity k) := by decide +kernel
def T_Model : u_T := fun k => match k with
  | 0 => ("WasmReaderModel", "row", "[B", true)
  | 1 => ("WasmReaderModel", "rows", "I", false)
  | 2 => ("WasmReaderModel", "thrown", "I", false)
  | 3 => ("WasmReaderModel", "isRead", "Z", false)
  | 4 => ("WasmReaderModel", "u", "LWasmReaderModel$Unit;", true)
  | 5 => ("WasmReaderModel", "at", "I", false)
  | 6 => ("WasmReaderModel", "end", "I", false)
  | 7 => ("WasmReaderModel", "isOver", "Z", false)
  | 8 => ("WasmReaderModel", "isWrong", "Z", false)
  | 9 => ("WasmReaderModel", "nameAt", "I", false)
  | 10 => ("WasmReaderModel", "limitFirst", "J", false)
  | 11 => ("WasmReaderModel", "limitSecond", "J", false)
  | 12 => ("WasmReaderModel", "initialOp", "I", false)
  | 13 => ("WasmReaderModel", "initialValue", "J", false)
  | 14 => ("WasmReaderModel", "blockAt", "[I", true)
  | 15 => ("WasmReaderModel", "blockKind", "[I", true)
  | 16 => ("WasmReaderModel", "vt", "[I", true)
  | 17 => ("WasmReaderModel", "bTakes", "[I", true)
  | 18 => ("WasmReaderModel", "bLeaves", "[I", true)
  | 19 => ("WasmReaderModel", "bHeight", "[I", true)
  | 20 => ("WasmReaderModel", "bOp", "[I", true)
  | 21 => ("WasmReaderModel", "bDead", "[Z", true)
  | 22 => ("WasmReaderModel", "high", "I", false)
  | _ => ("WasmReaderModel", "blocks", "I", false)
def t_Model : Nat → FieldType := fun k => match k with
  | 0 => .array .byte
  | 1 => .int
  | 2 => .int
  | 3 => .boolean
  | 4 => .object "WasmReaderModel$Unit"
  | 5 => .int
  | 6 => .int
  | 7 => .boolean
  | 8 => .boolean
  | 9 => .int
  | 10 => .long
  | 11 => .long
  | 12 => .int
  | 13 => .long
  | 14 => .array .int
  | 15 => .array .int
  | 16 => .array .int
  | 17 => .array .int
  | 18 => .array .int
  | 19 => .array .int
  | 20 => .array .int
  | 21 => .array .boolean
  | 22 => .int
  | _ => .int
theorem nok_Model : ∀ a, a < 24 → ∀ b, b < 24 → a ≠ b → (T_Model a).2.1 ≠ (T_Model b).2.1 := by decide +kernel
theorem tok_Model : ∀ k, k < 24 → parseFieldDescriptor (T_Model k).2.2.1 = some (t_Model k) := by decide +kernel
def T_Unit : u_T := fun k => match k with
  | 0 => ("WasmReaderModel$Unit", "b", "[B", true)
  | 1 => ("WasmReaderModel$Unit", "size", "I", false)
  | 2 => ("WasmReaderModel$Unit", "types", "I", false)
  | 3 => ("WasmReaderModel$Unit", "imports", "I", false)
  | 4 => ("WasmReaderModel$Unit", "functions", "I", false)
  | 5 => ("WasmReaderModel$Unit", "ownFunctions", "I", false)
  | 6 => ("WasmReaderModel$Unit", "tables", "I", false)
  | 7 => ("WasmReaderModel$Unit", "memories", "I", false)
  | 8 => ("WasmReaderModel$Unit", "globals", "I", false)
  | 9 => ("WasmReaderModel$Unit", "exports", "I", false)
  | 10 => ("WasmReaderModel$Unit", "elements", "I", false)
  | 11 => ("WasmReaderModel$Unit", "datas", "I", false)
  | 12 => ("WasmReaderModel$Unit", "bodies", "I", false)
  | 13 => ("WasmReaderModel$Unit", "start", "I", false)
  | 14 => ("WasmReaderModel$Unit", "params", "[I", true)
  | 15 => ("WasmReaderModel$Unit", "param", "[I", true)
  | 16 => ("WasmReaderModel$Unit", "result", "[I", true)
  | 17 => ("WasmReaderModel$Unit", "iModule", "[I", true)
  | 18 => ("WasmReaderModel$Unit", "iModuleLong", "[I", true)
  | 19 => ("WasmReaderModel$Unit", "iName", "[I", true)
  | 20 => ("WasmReaderModel$Unit", "iNameLong", "[I", true)
  | 21 => ("WasmReaderModel$Unit", "iSort", "[I", true)
  | 22 => ("WasmReaderModel$Unit", "iFirst", "[I", true)
  | 23 => ("WasmReaderModel$Unit", "iSecond", "[J", true)
  | 24 => ("WasmReaderModel$Unit", "fType", "[I", true)
  | 25 => ("WasmReaderModel$Unit", "fImport", "[I", true)
  | 26 => ("WasmReaderModel$Unit", "gType", "[I", true)
  | 27 => ("WasmReaderModel$Unit", "gImport", "[I", true)
  | 28 => ("WasmReaderModel$Unit", "gOp", "[I", true)
  | 29 => ("WasmReaderModel$Unit", "gMutable", "[Z", true)
  | 30 => ("WasmReaderModel$Unit", "gValue", "[J", true)
  | 31 => ("WasmReaderModel$Unit", "tImport", "I", false)
  | 32 => ("WasmReaderModel$Unit", "tFirst", "I", false)
  | 33 => ("WasmReaderModel$Unit", "mImport", "I", false)
  | 34 => ("WasmReaderModel$Unit", "mFirst", "I", false)
  | 35 => ("WasmReaderModel$Unit", "tSecond", "J", false)
  | 36 => ("WasmReaderModel$Unit", "mSecond", "J", false)
  | 37 => ("WasmReaderModel$Unit", "eName", "[I", true)
  | 38 => ("WasmReaderModel$Unit", "eNameLong", "[I", true)
  | 39 => ("WasmReaderModel$Unit", "eSort", "[I", true)
  | 40 => ("WasmReaderModel$Unit", "eIndex", "[I", true)
  | 41 => ("WasmReaderModel$Unit", "sOp", "[I", true)
  | 42 => ("WasmReaderModel$Unit", "sMany", "[I", true)
  | 43 => ("WasmReaderModel$Unit", "sAt", "[I", true)
  | 44 => ("WasmReaderModel$Unit", "sIndex", "[I", true)
  | 45 => ("WasmReaderModel$Unit", "dOp", "[I", true)
  | 46 => ("WasmReaderModel$Unit", "dMany", "[I", true)
  | 47 => ("WasmReaderModel$Unit", "dAt", "[I", true)
  | 48 => ("WasmReaderModel$Unit", "dIndex", "[I", true)
  | 49 => ("WasmReaderModel$Unit", "sValue", "[J", true)
  | 50 => ("WasmReaderModel$Unit", "dValue", "[J", true)
  | 51 => ("WasmReaderModel$Unit", "bAt", "[I", true)
  | 52 => ("WasmReaderModel$Unit", "bEnd", "[I", true)
  | 53 => ("WasmReaderModel$Unit", "bLocals", "[I", true)
  | 54 => ("WasmReaderModel$Unit", "local", "[I", true)
  | 55 => ("WasmReaderModel$Unit", "otherwise", "[I", true)
  | _ => ("WasmReaderModel$Unit", "ends", "[I", true)
def t_Unit : Nat → FieldType := fun k => match k with
  | 0 => .array .byte
  | 1 => .int
  | 2 => .int
  | 3 => .int
  | 4 => .int
  | 5 => .int
  | 6 => .int
  | 7 => .int
  | 8 => .int
  | 9 => .int
  | 10 => .int
  | 11 => .int
  | 12 => .int
  | 13 => .int
  | 14 => .array .int
  | 15 => .array .int
  | 16 => .array .int
  | 17 => .array .int
  | 18 => .array .int
  | 19 => .array .int
  | 20 => .array .int
  | 21 => .array .int
  | 22 => .array .int
  | 23 => .array .long
  | 24 => .array .int
  | 25 => .array .int
  | 26 => .array .int
  | 27 => .array .int
  | 28 => .array .int
  | 29 => .array .boolean
  | 30 => .array .long
  | 31 => .int
  | 32 => .int
  | 33 => .int
  | 34 => .int
  | 35 => .long
  | 36 => .long
  | 37 => .array .int
  | 38 => .array .int
  | 39 => .array .int
  | 40 => .array .int
  | 41 => .array .int
  | 42 => .array .int
  | 43 => .array .int
  | 44 => .array .int
  | 45 => .array .int
  | 46 => .array .int
  | 47 => .array .int
  | 48 => .array .int
  | 49 => .array .long
  | 50 => .array .long
  | 51 => .array .int
  | 52 => .array .int
  | 53 => .array .int
  | 54 => .array .int
  | 55 => .array .int
  | _ => .array .int
theorem nok_Unit : ∀ a, a < 57 → ∀ b, b < 57 → a ≠ b → (T_Unit a).2.1 ≠ (T_Unit b).2.1 := by decide +kernel
theorem tok_Unit : ∀ k, k < 57 → parseFieldDescriptor (T_Unit k).2.2.1 = some (t_Unit k) := by decide +kernel
def T_Stop : u_T := fun k => match k with
  | 0 => ("java/lang/Throwable", "cause", "Ljava/lang/Throwable;", false)
  | 1 => ("java/lang/Throwable", "stackTrace", "[Ljava/lang/StackTraceElement;", false)
  | 2 => ("java/lang/Throwable", "suppressedExceptions", "Ljava/util/List;", false)
  | 3 => ("java/lang/Throwable", "detailMessage", "Ljava/lang/String;", false)
  | 4 => ("java/lang/Throwable", "backtrace", "Ljava/lang/Object;", false)
  | 5 => ("WasmReaderModel$Stop", "why", "I", true)
  | _ => ("java/lang/Throwable", "depth", "I", false)
def t_Stop : Nat → FieldType := fun k => match k with
  | 0 => .object "java/lang/Throwable"
  | 1 => .array (.object "java/lang/StackTraceElement")
  | 2 => .object "java/util/List"
  | 3 => .object "java/lang/String"
  | 4 => .object "java/lang/Object"
  | 5 => .int
  | _ => .int
theorem nok_Stop : ∀ a, a < 7 → ∀ b, b < 7 → a ≠ b → (T_Stop a).2.1 ≠ (T_Stop b).2.1 := by decide +kernel
theorem tok_Stop : ∀ k, k < 7 → parseFieldDescriptor (T_Stop k).2.2.1 = some (t_Stop k) := by decide +kernel
abbrev classes : List vw_C := [("WasmReader", T_Reader, 5), ("WasmReader$Cursor", T_Cursor, 5), ("WasmReader$WasmModule", T_WasmModule, 11), ("WasmReader$Types", T_Types, 4), ("WasmReader$Functions", T_Functions, 10), ("WasmReader$Globals", T_Globals, 6), ("WasmReader$Exports", T_Exports, 5), ("WasmReader$Segments", T_Segments, 5), ("WasmReader$Sized", T_Sized, 3), ("WasmReader$TypeStack", T_TypeStack, 8), ("WasmReader$Grammar", T_Grammar, 3), ("WasmReader$Validity", T_Validity, 3), ("WasmReaderModel", T_Model, 24), ("WasmReaderModel$Unit", T_Unit, 57), ("WasmReaderModel$Stop", T_Stop, 7)]
theorem x_mem {big ws : List Cond} (ps : List Nat) (h : ws = ps.filterMap (fun i => big[i]?)) : ∀ w ∈ ws, w ∈ big := by
  intro w hw
  rw [h] at hw
  obtain ⟨i, -, hi⟩ := List.mem_filterMap.mp hw
  first | exact List.mem_of_getElem? hi | exact List.getElem?_mem hi
/-- words that hold on under warmer tables -/
def xgood : Cond → Bool
  | .methodLinkNest .. => true
  | .fieldLinkNest .. => true
  | .declares _ => true
  | .castable .. => true
  | w => goodWord w
def xtb : List Cond := lw_tbl.filter xgood
theorem x_in {w : Cond} (h : w ∈ lw_tbl) (hg : xgood w = true) : w ∈ xtb := List.mem_filter.mpr ⟨h, hg⟩
theorem x_ins {ws : List Cond} (h : ∀ w ∈ ws, w ∈ lw_tbl) (hg : ws.all xgood = true) : ∀ w ∈ ws, w ∈ xtb := fun w hw => x_in (h w hw) (List.all_eq_true.mp hg w hw)
theorem x_warm {w : Cond} (h : xgood w = true) {args a' : Array Value} {s U : State} (hW : s.WarmedH U.vm) (hb : w.before args s = true) : w.before a' U = true := by
  cases w with
  | methodLinkNest a i x hh => exact va_Nw.use rfl (va_Nw.warmM hW (va_Nw.of rfl hb))
  | fieldLinkNest a i b n d hh => exact va_Nw.use rfl (va_Nw.warmF hW (va_Nw.of rfl hb))
  | declares x => exact va_Nw.use rfl (va_Nw.warmD hW (va_Nw.of rfl hb))
  | castable a b => exact va_Nw.use rfl (va_Nw.warmC hW (va_Nw.of rfl hb))
  | _ => exact word_at hW (good_of_word h) hb
theorem in_Reader : ∀ w ∈ u_ws "WasmReader" T_Reader 5, w ∈ xtb := x_ins (x_mem [455, 457, 459, 461, 463] (by decide +kernel)) (by decide +kernel)
theorem in_Cursor : ∀ w ∈ u_ws "WasmReader$Cursor" T_Cursor 5, w ∈ xtb := x_ins (x_mem [136, 138, 140, 142, 144] (by decide +kernel)) (by decide +kernel)
theorem in_WasmModule : ∀ w ∈ u_ws "WasmReader$WasmModule" T_WasmModule 11, w ∈ xtb := x_ins (x_mem [395, 397, 399, 401, 403, 405, 407, 409, 411, 413, 415] (by decide +kernel)) (by decide +kernel)
theorem in_Types : ∀ w ∈ u_ws "WasmReader$Types" T_Types 4, w ∈ xtb := x_ins (x_mem [172, 174, 176, 178] (by decide +kernel)) (by decide +kernel)
theorem in_Functions : ∀ w ∈ u_ws "WasmReader$Functions" T_Functions 10, w ∈ xtb := x_ins (x_mem [215, 217, 219, 221, 223, 225, 227, 229, 231, 233] (by decide +kernel)) (by decide +kernel)
theorem in_Globals : ∀ w ∈ u_ws "WasmReader$Globals" T_Globals 6, w ∈ xtb := x_ins (x_mem [261, 263, 265, 267, 269, 271] (by decide +kernel)) (by decide +kernel)
theorem in_Exports : ∀ w ∈ u_ws "WasmReader$Exports" T_Exports 5, w ∈ xtb := x_ins (x_mem [294, 296, 298, 300, 302] (by decide +kernel)) (by decide +kernel)
theorem in_Segments : ∀ w ∈ u_ws "WasmReader$Segments" T_Segments 5, w ∈ xtb := x_ins (x_mem [323, 325, 327, 329, 331] (by decide +kernel)) (by decide +kernel)
theorem in_Sized : ∀ w ∈ u_ws "WasmReader$Sized" T_Sized 3, w ∈ xtb := x_ins (x_mem [347, 349, 351] (by decide +kernel)) (by decide +kernel)
theorem in_TypeStack : ∀ w ∈ u_ws "WasmReader$TypeStack" T_TypeStack 8, w ∈ xtb := x_ins (x_mem [433, 435, 437, 439, 441, 443, 445, 447] (by decide +kernel)) (by decide +kernel)
theorem in_Grammar : ∀ w ∈ u_ws "WasmReader$Grammar" T_Grammar 3, w ∈ xtb := x_ins (x_mem [487, 489, 491] (by decide +kernel)) (by decide +kernel)
theorem in_Validity : ∀ w ∈ u_ws "WasmReader$Validity" T_Validity 3, w ∈ xtb := x_ins (x_mem [749, 751, 753] (by decide +kernel)) (by decide +kernel)
theorem in_Model : ∀ w ∈ u_ws "WasmReaderModel" T_Model 24, w ∈ xtb := x_ins (x_mem [1345, 1347, 1349, 1351, 1353, 1355, 1357, 1359, 1361, 1363, 1365, 1367, 1369, 1371, 1373, 1375, 1377, 1379, 1381, 1383, 1385, 1387, 1389, 1391] (by decide +kernel)) (by decide +kernel)
theorem in_Unit : ∀ w ∈ u_ws "WasmReaderModel$Unit" T_Unit 57, w ∈ xtb := x_ins (x_mem [1206, 1208, 1210, 1212, 1214, 1216, 1218, 1220, 1222, 1224, 1226, 1228, 1230, 1232, 1234, 1236, 1238, 1240, 1242, 1244, 1246, 1248, 1250, 1252, 1254, 1256, 1258, 1260, 1262, 1264, 1266, 1268, 1270, 1272, 1274, 1276, 1278, 1280, 1282, 1284, 1286, 1288, 1290, 1292, 1294, 1296, 1298, 1300, 1302, 1304, 1306, 1308, 1310, 1312, 1314, 1316, 1318] (by decide +kernel)) (by decide +kernel)
theorem in_Stop : ∀ w ∈ u_ws "WasmReaderModel$Stop" T_Stop 7, w ∈ xtb := x_ins (x_mem [1429, 1430, 1431, 1432, 1433, 1448, 1450] (by decide +kernel)) (by decide +kernel)
theorem x_arr_byte (n : Nat) : ∀ cA : ClassId, vp_cell cA (n, .inl (fun _ => 0)) = arrV cA n (fun _ => defaultValue .byte) := fun _ => rfl
theorem x_arr_int (n : Nat) : ∀ cA : ClassId, vp_cell cA (n, .inl (fun _ => 0)) = arrV cA n (fun _ => defaultValue .int) := fun _ => rfl
theorem x_arr_boolean (n : Nat) : ∀ cA : ClassId, vp_cell cA (n, .inl (fun _ => 0)) = arrV cA n (fun _ => defaultValue .boolean) := fun _ => rfl
theorem x_arr_long (n : Nat) : ∀ cA : ClassId, vp_cell cA (n, .inr (.inl (fun _ => 0))) = arrV cA n (fun _ => defaultValue .long) := fun _ => rfl

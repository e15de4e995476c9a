section
-- ===== PART A: goes FIRST, ahead of the names: the tables' words, and 'selects' of the private methods out of them =====
/-- a private method of a class that the tables say can be made, by its rows of tables_1 -/
def lw_okq (q : MethodName × Nat) : Prop := (q.1.cls ≠ "java/lang/invoke/MethodHandle" ∧ q.1.cls ≠ "java/lang/invoke/VarHandle") ∧ Cond.instantiable q.1.cls q.2 ∈ tables_1 ∧ Cond.privateMethod q.1 ∈ tables_1 ∧ Cond.instanceMethod q.1 ∈ tables_1
theorem lw_p0 : lw_okq (⟨"WasmReader$Grammar", "customSection", "()V"⟩, 3) := ⟨⟨by decide +kernel, by decide +kernel⟩, List.mem_of_getElem? (i := 392) (by decide +kernel), List.mem_of_getElem? (i := 450) (by decide +kernel), List.mem_of_getElem? (i := 451) (by decide +kernel)⟩
theorem lw_p1 : lw_okq (⟨"WasmReader$Grammar", "typeSection", "()V"⟩, 3) := ⟨⟨by decide +kernel, by decide +kernel⟩, List.mem_of_getElem? (i := 392) (by decide +kernel), List.mem_of_getElem? (i := 459) (by decide +kernel), List.mem_of_getElem? (i := 460) (by decide +kernel)⟩
theorem lw_p2 : lw_okq (⟨"WasmReader$Grammar", "atMost", "(I)I"⟩, 3) := ⟨⟨by decide +kernel, by decide +kernel⟩, List.mem_of_getElem? (i := 392) (by decide +kernel), List.mem_of_getElem? (i := 463) (by decide +kernel), List.mem_of_getElem? (i := 464) (by decide +kernel)⟩
theorem lw_p3 : lw_okq (⟨"WasmReader$Grammar", "valueType", "()I"⟩, 3) := ⟨⟨by decide +kernel, by decide +kernel⟩, List.mem_of_getElem? (i := 392) (by decide +kernel), List.mem_of_getElem? (i := 467) (by decide +kernel), List.mem_of_getElem? (i := 468) (by decide +kernel)⟩
theorem lw_p4 : lw_okq (⟨"WasmReader$Grammar", "importSection", "()V"⟩, 3) := ⟨⟨by decide +kernel, by decide +kernel⟩, List.mem_of_getElem? (i := 392) (by decide +kernel), List.mem_of_getElem? (i := 478) (by decide +kernel), List.mem_of_getElem? (i := 479) (by decide +kernel)⟩
theorem lw_p5 : lw_okq (⟨"WasmReader$Grammar", "nameLength", "()I"⟩, 3) := ⟨⟨by decide +kernel, by decide +kernel⟩, List.mem_of_getElem? (i := 392) (by decide +kernel), List.mem_of_getElem? (i := 482) (by decide +kernel), List.mem_of_getElem? (i := 483) (by decide +kernel)⟩
theorem lw_p6 : lw_okq (⟨"WasmReader$Grammar", "table", "()V"⟩, 3) := ⟨⟨by decide +kernel, by decide +kernel⟩, List.mem_of_getElem? (i := 392) (by decide +kernel), List.mem_of_getElem? (i := 502) (by decide +kernel), List.mem_of_getElem? (i := 503) (by decide +kernel)⟩
theorem lw_p7 : lw_okq (⟨"WasmReader$Grammar", "globalType", "()V"⟩, 3) := ⟨⟨by decide +kernel, by decide +kernel⟩, List.mem_of_getElem? (i := 392) (by decide +kernel), List.mem_of_getElem? (i := 513) (by decide +kernel), List.mem_of_getElem? (i := 514) (by decide +kernel)⟩
theorem lw_p8 : lw_okq (⟨"WasmReader$Grammar", "functionSection", "()V"⟩, 3) := ⟨⟨by decide +kernel, by decide +kernel⟩, List.mem_of_getElem? (i := 392) (by decide +kernel), List.mem_of_getElem? (i := 521) (by decide +kernel), List.mem_of_getElem? (i := 522) (by decide +kernel)⟩
theorem lw_p9 : lw_okq (⟨"WasmReader$Grammar", "tableSection", "()V"⟩, 3) := ⟨⟨by decide +kernel, by decide +kernel⟩, List.mem_of_getElem? (i := 392) (by decide +kernel), List.mem_of_getElem? (i := 525) (by decide +kernel), List.mem_of_getElem? (i := 526) (by decide +kernel)⟩
theorem lw_p10 : lw_okq (⟨"WasmReader$Grammar", "memorySection", "()V"⟩, 3) := ⟨⟨by decide +kernel, by decide +kernel⟩, List.mem_of_getElem? (i := 392) (by decide +kernel), List.mem_of_getElem? (i := 530) (by decide +kernel), List.mem_of_getElem? (i := 531) (by decide +kernel)⟩
theorem lw_p11 : lw_okq (⟨"WasmReader$Grammar", "globalSection", "()V"⟩, 3) := ⟨⟨by decide +kernel, by decide +kernel⟩, List.mem_of_getElem? (i := 392) (by decide +kernel), List.mem_of_getElem? (i := 535) (by decide +kernel), List.mem_of_getElem? (i := 536) (by decide +kernel)⟩
theorem lw_p12 : lw_okq (⟨"WasmReader$Grammar", "valueOfInitial", "(I)J"⟩, 3) := ⟨⟨by decide +kernel, by decide +kernel⟩, List.mem_of_getElem? (i := 392) (by decide +kernel), List.mem_of_getElem? (i := 539) (by decide +kernel), List.mem_of_getElem? (i := 540) (by decide +kernel)⟩
theorem lw_p13 : lw_okq (⟨"WasmReader$Cursor", "withSign", "(JIII)J"⟩, 5) := ⟨⟨by decide +kernel, by decide +kernel⟩, List.mem_of_getElem? (i := 33) (by decide +kernel), List.mem_of_getElem? (i := 547) (by decide +kernel), List.mem_of_getElem? (i := 548) (by decide +kernel)⟩
theorem lw_p14 : lw_okq (⟨"WasmReader$Grammar", "exportSection", "()V"⟩, 3) := ⟨⟨by decide +kernel, by decide +kernel⟩, List.mem_of_getElem? (i := 392) (by decide +kernel), List.mem_of_getElem? (i := 559) (by decide +kernel), List.mem_of_getElem? (i := 560) (by decide +kernel)⟩
theorem lw_p15 : lw_okq (⟨"WasmReader$Grammar", "elementSection", "()V"⟩, 3) := ⟨⟨by decide +kernel, by decide +kernel⟩, List.mem_of_getElem? (i := 392) (by decide +kernel), List.mem_of_getElem? (i := 574) (by decide +kernel), List.mem_of_getElem? (i := 575) (by decide +kernel)⟩
def lw_privs_1 : List (MethodName × Nat) := [(⟨"WasmReader$Grammar", "customSection", "()V"⟩, 3), (⟨"WasmReader$Grammar", "typeSection", "()V"⟩, 3), (⟨"WasmReader$Grammar", "atMost", "(I)I"⟩, 3), (⟨"WasmReader$Grammar", "valueType", "()I"⟩, 3), (⟨"WasmReader$Grammar", "importSection", "()V"⟩, 3), (⟨"WasmReader$Grammar", "nameLength", "()I"⟩, 3), (⟨"WasmReader$Grammar", "table", "()V"⟩, 3), (⟨"WasmReader$Grammar", "globalType", "()V"⟩, 3), (⟨"WasmReader$Grammar", "functionSection", "()V"⟩, 3), (⟨"WasmReader$Grammar", "tableSection", "()V"⟩, 3), (⟨"WasmReader$Grammar", "memorySection", "()V"⟩, 3), (⟨"WasmReader$Grammar", "globalSection", "()V"⟩, 3), (⟨"WasmReader$Grammar", "valueOfInitial", "(I)J"⟩, 3), (⟨"WasmReader$Cursor", "withSign", "(JIII)J"⟩, 5), (⟨"WasmReader$Grammar", "exportSection", "()V"⟩, 3), (⟨"WasmReader$Grammar", "elementSection", "()V"⟩, 3)]
theorem lw_r1 : ∀ q ∈ lw_privs_1, lw_okq q := List.forall_mem_cons.mpr ⟨lw_p0, List.forall_mem_cons.mpr ⟨lw_p1, List.forall_mem_cons.mpr ⟨lw_p2, List.forall_mem_cons.mpr ⟨lw_p3, List.forall_mem_cons.mpr ⟨lw_p4, List.forall_mem_cons.mpr ⟨lw_p5, List.forall_mem_cons.mpr ⟨lw_p6, List.forall_mem_cons.mpr ⟨lw_p7, List.forall_mem_cons.mpr ⟨lw_p8, List.forall_mem_cons.mpr ⟨lw_p9, List.forall_mem_cons.mpr ⟨lw_p10, List.forall_mem_cons.mpr ⟨lw_p11, List.forall_mem_cons.mpr ⟨lw_p12, List.forall_mem_cons.mpr ⟨lw_p13, List.forall_mem_cons.mpr ⟨lw_p14, List.forall_mem_cons.mpr ⟨lw_p15, fun _ h => absurd h List.not_mem_nil⟩⟩⟩⟩⟩⟩⟩⟩⟩⟩⟩⟩⟩⟩⟩⟩
theorem lw_p16 : lw_okq (⟨"WasmReader$Grammar", "highestFunction", "()I"⟩, 3) := ⟨⟨by decide +kernel, by decide +kernel⟩, List.mem_of_getElem? (i := 392) (by decide +kernel), List.mem_of_getElem? (i := 578) (by decide +kernel), List.mem_of_getElem? (i := 579) (by decide +kernel)⟩
theorem lw_p17 : lw_okq (⟨"WasmReader$Grammar", "codeSection", "()V"⟩, 3) := ⟨⟨by decide +kernel, by decide +kernel⟩, List.mem_of_getElem? (i := 392) (by decide +kernel), List.mem_of_getElem? (i := 586) (by decide +kernel), List.mem_of_getElem? (i := 587) (by decide +kernel)⟩
theorem lw_p18 : lw_okq (⟨"WasmReader$Grammar", "locals", "(I)V"⟩, 3) := ⟨⟨by decide +kernel, by decide +kernel⟩, List.mem_of_getElem? (i := 392) (by decide +kernel), List.mem_of_getElem? (i := 590) (by decide +kernel), List.mem_of_getElem? (i := 591) (by decide +kernel)⟩
theorem lw_p19 : lw_okq (⟨"WasmReader$Grammar", "instructions", "()V"⟩, 3) := ⟨⟨by decide +kernel, by decide +kernel⟩, List.mem_of_getElem? (i := 392) (by decide +kernel), List.mem_of_getElem? (i := 604) (by decide +kernel), List.mem_of_getElem? (i := 605) (by decide +kernel)⟩
theorem lw_p20 : lw_okq (⟨"WasmReader$Grammar", "elseOf", "(I)V"⟩, 3) := ⟨⟨by decide +kernel, by decide +kernel⟩, List.mem_of_getElem? (i := 392) (by decide +kernel), List.mem_of_getElem? (i := 608) (by decide +kernel), List.mem_of_getElem? (i := 609) (by decide +kernel)⟩
theorem lw_p21 : lw_okq (⟨"WasmReader$Grammar", "blockType", "()V"⟩, 3) := ⟨⟨by decide +kernel, by decide +kernel⟩, List.mem_of_getElem? (i := 392) (by decide +kernel), List.mem_of_getElem? (i := 612) (by decide +kernel), List.mem_of_getElem? (i := 613) (by decide +kernel)⟩
theorem lw_p22 : lw_okq (⟨"WasmReader$Grammar", "openBlock", "(IZ)V"⟩, 3) := ⟨⟨by decide +kernel, by decide +kernel⟩, List.mem_of_getElem? (i := 392) (by decide +kernel), List.mem_of_getElem? (i := 616) (by decide +kernel), List.mem_of_getElem? (i := 617) (by decide +kernel)⟩
theorem lw_p23 : lw_okq (⟨"WasmReader$Grammar", "labels", "()V"⟩, 3) := ⟨⟨by decide +kernel, by decide +kernel⟩, List.mem_of_getElem? (i := 392) (by decide +kernel), List.mem_of_getElem? (i := 620) (by decide +kernel), List.mem_of_getElem? (i := 621) (by decide +kernel)⟩
theorem lw_p24 : lw_okq (⟨"WasmReader$Grammar", "operands", "(I)V"⟩, 3) := ⟨⟨by decide +kernel, by decide +kernel⟩, List.mem_of_getElem? (i := 392) (by decide +kernel), List.mem_of_getElem? (i := 624) (by decide +kernel), List.mem_of_getElem? (i := 625) (by decide +kernel)⟩
theorem lw_p25 : lw_okq (⟨"WasmReader$Grammar", "dataSection", "()V"⟩, 3) := ⟨⟨by decide +kernel, by decide +kernel⟩, List.mem_of_getElem? (i := 392) (by decide +kernel), List.mem_of_getElem? (i := 646) (by decide +kernel), List.mem_of_getElem? (i := 647) (by decide +kernel)⟩
theorem lw_p26 : lw_okq (⟨"WasmReader$Validity", "typesHold", "()Z"⟩, 3) := ⟨⟨by decide +kernel, by decide +kernel⟩, List.mem_of_getElem? (i := 654) (by decide +kernel), List.mem_of_getElem? (i := 680) (by decide +kernel), List.mem_of_getElem? (i := 681) (by decide +kernel)⟩
theorem lw_p27 : lw_okq (⟨"WasmReader$Validity", "globalsHold", "()Z"⟩, 3) := ⟨⟨by decide +kernel, by decide +kernel⟩, List.mem_of_getElem? (i := 654) (by decide +kernel), List.mem_of_getElem? (i := 686) (by decide +kernel), List.mem_of_getElem? (i := 687) (by decide +kernel)⟩
theorem lw_p28 : lw_okq (⟨"WasmReader$Validity", "initialHolds", "(IJII)Z"⟩, 3) := ⟨⟨by decide +kernel, by decide +kernel⟩, List.mem_of_getElem? (i := 654) (by decide +kernel), List.mem_of_getElem? (i := 691) (by decide +kernel), List.mem_of_getElem? (i := 692) (by decide +kernel)⟩
theorem lw_p29 : lw_okq (⟨"WasmReader$Validity", "exportsHold", "()Z"⟩, 3) := ⟨⟨by decide +kernel, by decide +kernel⟩, List.mem_of_getElem? (i := 654) (by decide +kernel), List.mem_of_getElem? (i := 695) (by decide +kernel), List.mem_of_getElem? (i := 696) (by decide +kernel)⟩
theorem lw_p30 : lw_okq (⟨"WasmReader$Validity", "countOfSort", "(I)I"⟩, 3) := ⟨⟨by decide +kernel, by decide +kernel⟩, List.mem_of_getElem? (i := 654) (by decide +kernel), List.mem_of_getElem? (i := 703) (by decide +kernel), List.mem_of_getElem? (i := 704) (by decide +kernel)⟩
theorem lw_p31 : lw_okq (⟨"WasmReader$Validity", "startHolds", "()Z"⟩, 3) := ⟨⟨by decide +kernel, by decide +kernel⟩, List.mem_of_getElem? (i := 654) (by decide +kernel), List.mem_of_getElem? (i := 716) (by decide +kernel), List.mem_of_getElem? (i := 717) (by decide +kernel)⟩
def lw_privs_2 : List (MethodName × Nat) := [(⟨"WasmReader$Grammar", "highestFunction", "()I"⟩, 3), (⟨"WasmReader$Grammar", "codeSection", "()V"⟩, 3), (⟨"WasmReader$Grammar", "locals", "(I)V"⟩, 3), (⟨"WasmReader$Grammar", "instructions", "()V"⟩, 3), (⟨"WasmReader$Grammar", "elseOf", "(I)V"⟩, 3), (⟨"WasmReader$Grammar", "blockType", "()V"⟩, 3), (⟨"WasmReader$Grammar", "openBlock", "(IZ)V"⟩, 3), (⟨"WasmReader$Grammar", "labels", "()V"⟩, 3), (⟨"WasmReader$Grammar", "operands", "(I)V"⟩, 3), (⟨"WasmReader$Grammar", "dataSection", "()V"⟩, 3), (⟨"WasmReader$Validity", "typesHold", "()Z"⟩, 3), (⟨"WasmReader$Validity", "globalsHold", "()Z"⟩, 3), (⟨"WasmReader$Validity", "initialHolds", "(IJII)Z"⟩, 3), (⟨"WasmReader$Validity", "exportsHold", "()Z"⟩, 3), (⟨"WasmReader$Validity", "countOfSort", "(I)I"⟩, 3), (⟨"WasmReader$Validity", "startHolds", "()Z"⟩, 3)]
theorem lw_r2 : ∀ q ∈ lw_privs_2, lw_okq q := List.forall_mem_cons.mpr ⟨lw_p16, List.forall_mem_cons.mpr ⟨lw_p17, List.forall_mem_cons.mpr ⟨lw_p18, List.forall_mem_cons.mpr ⟨lw_p19, List.forall_mem_cons.mpr ⟨lw_p20, List.forall_mem_cons.mpr ⟨lw_p21, List.forall_mem_cons.mpr ⟨lw_p22, List.forall_mem_cons.mpr ⟨lw_p23, List.forall_mem_cons.mpr ⟨lw_p24, List.forall_mem_cons.mpr ⟨lw_p25, List.forall_mem_cons.mpr ⟨lw_p26, List.forall_mem_cons.mpr ⟨lw_p27, List.forall_mem_cons.mpr ⟨lw_p28, List.forall_mem_cons.mpr ⟨lw_p29, List.forall_mem_cons.mpr ⟨lw_p30, List.forall_mem_cons.mpr ⟨lw_p31, fun _ h => absurd h List.not_mem_nil⟩⟩⟩⟩⟩⟩⟩⟩⟩⟩⟩⟩⟩⟩⟩⟩
theorem lw_p32 : lw_okq (⟨"WasmReader$Validity", "segmentsHold", "(LWasmReader$Segments;I)Z"⟩, 3) := ⟨⟨by decide +kernel, by decide +kernel⟩, List.mem_of_getElem? (i := 654) (by decide +kernel), List.mem_of_getElem? (i := 720) (by decide +kernel), List.mem_of_getElem? (i := 721) (by decide +kernel)⟩
theorem lw_p33 : lw_okq (⟨"WasmReader$Validity", "bodiesHold", "()Z"⟩, 3) := ⟨⟨by decide +kernel, by decide +kernel⟩, List.mem_of_getElem? (i := 654) (by decide +kernel), List.mem_of_getElem? (i := 724) (by decide +kernel), List.mem_of_getElem? (i := 725) (by decide +kernel)⟩
theorem lw_p34 : lw_okq (⟨"WasmReader$Validity", "instruction", "(II)V"⟩, 3) := ⟨⟨by decide +kernel, by decide +kernel⟩, List.mem_of_getElem? (i := 654) (by decide +kernel), List.mem_of_getElem? (i := 739) (by decide +kernel), List.mem_of_getElem? (i := 740) (by decide +kernel)⟩
theorem lw_p35 : lw_okq (⟨"WasmReader$Validity", "ifBlock", "()V"⟩, 3) := ⟨⟨by decide +kernel, by decide +kernel⟩, List.mem_of_getElem? (i := 654) (by decide +kernel), List.mem_of_getElem? (i := 749) (by decide +kernel), List.mem_of_getElem? (i := 750) (by decide +kernel)⟩
theorem lw_p36 : lw_okq (⟨"WasmReader$TypeStack", "finishArm", "()V"⟩, 8) := ⟨⟨by decide +kernel, by decide +kernel⟩, List.mem_of_getElem? (i := 332) (by decide +kernel), List.mem_of_getElem? (i := 765) (by decide +kernel), List.mem_of_getElem? (i := 766) (by decide +kernel)⟩
theorem lw_p37 : lw_okq (⟨"WasmReader$Validity", "branch", "(I)V"⟩, 3) := ⟨⟨by decide +kernel, by decide +kernel⟩, List.mem_of_getElem? (i := 654) (by decide +kernel), List.mem_of_getElem? (i := 783) (by decide +kernel), List.mem_of_getElem? (i := 784) (by decide +kernel)⟩
theorem lw_p38 : lw_okq (⟨"WasmReader$Validity", "branchIf", "(I)V"⟩, 3) := ⟨⟨by decide +kernel, by decide +kernel⟩, List.mem_of_getElem? (i := 654) (by decide +kernel), List.mem_of_getElem? (i := 787) (by decide +kernel), List.mem_of_getElem? (i := 788) (by decide +kernel)⟩
theorem lw_p39 : lw_okq (⟨"WasmReader$Validity", "branchTable", "()V"⟩, 3) := ⟨⟨by decide +kernel, by decide +kernel⟩, List.mem_of_getElem? (i := 654) (by decide +kernel), List.mem_of_getElem? (i := 792) (by decide +kernel), List.mem_of_getElem? (i := 793) (by decide +kernel)⟩
theorem lw_p40 : lw_okq (⟨"WasmReader$Validity", "call", "(I)V"⟩, 3) := ⟨⟨by decide +kernel, by decide +kernel⟩, List.mem_of_getElem? (i := 654) (by decide +kernel), List.mem_of_getElem? (i := 798) (by decide +kernel), List.mem_of_getElem? (i := 799) (by decide +kernel)⟩
theorem lw_p41 : lw_okq (⟨"WasmReader$Validity", "callOfType", "(I)V"⟩, 3) := ⟨⟨by decide +kernel, by decide +kernel⟩, List.mem_of_getElem? (i := 654) (by decide +kernel), List.mem_of_getElem? (i := 802) (by decide +kernel), List.mem_of_getElem? (i := 803) (by decide +kernel)⟩
theorem lw_p42 : lw_okq (⟨"WasmReader$Validity", "callIndirect", "()V"⟩, 3) := ⟨⟨by decide +kernel, by decide +kernel⟩, List.mem_of_getElem? (i := 654) (by decide +kernel), List.mem_of_getElem? (i := 806) (by decide +kernel), List.mem_of_getElem? (i := 807) (by decide +kernel)⟩
theorem lw_p43 : lw_okq (⟨"WasmReader$Validity", "select", "()V"⟩, 3) := ⟨⟨by decide +kernel, by decide +kernel⟩, List.mem_of_getElem? (i := 654) (by decide +kernel), List.mem_of_getElem? (i := 811) (by decide +kernel), List.mem_of_getElem? (i := 812) (by decide +kernel)⟩
theorem lw_p44 : lw_okq (⟨"WasmReader$Validity", "local", "(III)V"⟩, 3) := ⟨⟨by decide +kernel, by decide +kernel⟩, List.mem_of_getElem? (i := 654) (by decide +kernel), List.mem_of_getElem? (i := 815) (by decide +kernel), List.mem_of_getElem? (i := 816) (by decide +kernel)⟩
theorem lw_p45 : lw_okq (⟨"WasmReader$Validity", "globalAccess", "(II)V"⟩, 3) := ⟨⟨by decide +kernel, by decide +kernel⟩, List.mem_of_getElem? (i := 654) (by decide +kernel), List.mem_of_getElem? (i := 828) (by decide +kernel), List.mem_of_getElem? (i := 829) (by decide +kernel)⟩
theorem lw_p46 : lw_okq (⟨"WasmReader$Validity", "memorySize", "(I)V"⟩, 3) := ⟨⟨by decide +kernel, by decide +kernel⟩, List.mem_of_getElem? (i := 654) (by decide +kernel), List.mem_of_getElem? (i := 832) (by decide +kernel), List.mem_of_getElem? (i := 833) (by decide +kernel)⟩
theorem lw_p47 : lw_okq (⟨"WasmReader$Validity", "access", "(II)V"⟩, 3) := ⟨⟨by decide +kernel, by decide +kernel⟩, List.mem_of_getElem? (i := 654) (by decide +kernel), List.mem_of_getElem? (i := 838) (by decide +kernel), List.mem_of_getElem? (i := 839) (by decide +kernel)⟩
def lw_privs_3 : List (MethodName × Nat) := [(⟨"WasmReader$Validity", "segmentsHold", "(LWasmReader$Segments;I)Z"⟩, 3), (⟨"WasmReader$Validity", "bodiesHold", "()Z"⟩, 3), (⟨"WasmReader$Validity", "instruction", "(II)V"⟩, 3), (⟨"WasmReader$Validity", "ifBlock", "()V"⟩, 3), (⟨"WasmReader$TypeStack", "finishArm", "()V"⟩, 8), (⟨"WasmReader$Validity", "branch", "(I)V"⟩, 3), (⟨"WasmReader$Validity", "branchIf", "(I)V"⟩, 3), (⟨"WasmReader$Validity", "branchTable", "()V"⟩, 3), (⟨"WasmReader$Validity", "call", "(I)V"⟩, 3), (⟨"WasmReader$Validity", "callOfType", "(I)V"⟩, 3), (⟨"WasmReader$Validity", "callIndirect", "()V"⟩, 3), (⟨"WasmReader$Validity", "select", "()V"⟩, 3), (⟨"WasmReader$Validity", "local", "(III)V"⟩, 3), (⟨"WasmReader$Validity", "globalAccess", "(II)V"⟩, 3), (⟨"WasmReader$Validity", "memorySize", "(I)V"⟩, 3), (⟨"WasmReader$Validity", "access", "(II)V"⟩, 3)]
theorem lw_r3 : ∀ q ∈ lw_privs_3, lw_okq q := List.forall_mem_cons.mpr ⟨lw_p32, List.forall_mem_cons.mpr ⟨lw_p33, List.forall_mem_cons.mpr ⟨lw_p34, List.forall_mem_cons.mpr ⟨lw_p35, List.forall_mem_cons.mpr ⟨lw_p36, List.forall_mem_cons.mpr ⟨lw_p37, List.forall_mem_cons.mpr ⟨lw_p38, List.forall_mem_cons.mpr ⟨lw_p39, List.forall_mem_cons.mpr ⟨lw_p40, List.forall_mem_cons.mpr ⟨lw_p41, List.forall_mem_cons.mpr ⟨lw_p42, List.forall_mem_cons.mpr ⟨lw_p43, List.forall_mem_cons.mpr ⟨lw_p44, List.forall_mem_cons.mpr ⟨lw_p45, List.forall_mem_cons.mpr ⟨lw_p46, List.forall_mem_cons.mpr ⟨lw_p47, fun _ h => absurd h List.not_mem_nil⟩⟩⟩⟩⟩⟩⟩⟩⟩⟩⟩⟩⟩⟩⟩⟩
theorem lw_p48 : lw_okq (⟨"WasmReader$Validity", "numeric", "(I)V"⟩, 3) := ⟨⟨by decide +kernel, by decide +kernel⟩, List.mem_of_getElem? (i := 654) (by decide +kernel), List.mem_of_getElem? (i := 847) (by decide +kernel), List.mem_of_getElem? (i := 848) (by decide +kernel)⟩
theorem lw_p49 : lw_okq (⟨"java/lang/Throwable", "fillInStackTrace", "(I)Ljava/lang/Throwable;"⟩, 6) := ⟨⟨by decide +kernel, by decide +kernel⟩, List.mem_of_getElem? (i := 899) (by decide +kernel), List.mem_of_getElem? (i := 897) (by decide +kernel), List.mem_of_getElem? (i := 898) (by decide +kernel)⟩
theorem lw_p50 : lw_okq (⟨"WasmReaderModel", "four", "(I)V"⟩, 24) := ⟨⟨by decide +kernel, by decide +kernel⟩, List.mem_of_getElem? (i := 1013) (by decide +kernel), List.mem_of_getElem? (i := 1316) (by decide +kernel), List.mem_of_getElem? (i := 1317) (by decide +kernel)⟩
theorem lw_p51 : lw_okq (⟨"WasmReaderModel", "parse", "()V"⟩, 24) := ⟨⟨by decide +kernel, by decide +kernel⟩, List.mem_of_getElem? (i := 1013) (by decide +kernel), List.mem_of_getElem? (i := 1332) (by decide +kernel), List.mem_of_getElem? (i := 1333) (by decide +kernel)⟩
theorem lw_p52 : lw_okq (⟨"WasmReaderModel", "one", "()I"⟩, 24) := ⟨⟨by decide +kernel, by decide +kernel⟩, List.mem_of_getElem? (i := 1013) (by decide +kernel), List.mem_of_getElem? (i := 1336) (by decide +kernel), List.mem_of_getElem? (i := 1337) (by decide +kernel)⟩
theorem lw_p53 : lw_okq (⟨"WasmReaderModel", "whole", "()J"⟩, 24) := ⟨⟨by decide +kernel, by decide +kernel⟩, List.mem_of_getElem? (i := 1013) (by decide +kernel), List.mem_of_getElem? (i := 1366) (by decide +kernel), List.mem_of_getElem? (i := 1367) (by decide +kernel)⟩
theorem lw_p54 : lw_okq (⟨"WasmReaderModel", "name", "(Z)I"⟩, 24) := ⟨⟨by decide +kernel, by decide +kernel⟩, List.mem_of_getElem? (i := 1013) (by decide +kernel), List.mem_of_getElem? (i := 1370) (by decide +kernel), List.mem_of_getElem? (i := 1371) (by decide +kernel)⟩
theorem lw_p55 : lw_okq (⟨"WasmReaderModel", "item", "(I)V"⟩, 24) := ⟨⟨by decide +kernel, by decide +kernel⟩, List.mem_of_getElem? (i := 1013) (by decide +kernel), List.mem_of_getElem? (i := 1380) (by decide +kernel), List.mem_of_getElem? (i := 1381) (by decide +kernel)⟩
theorem lw_p56 : lw_okq (⟨"WasmReaderModel", "typeItem", "()V"⟩, 24) := ⟨⟨by decide +kernel, by decide +kernel⟩, List.mem_of_getElem? (i := 1013) (by decide +kernel), List.mem_of_getElem? (i := 1384) (by decide +kernel), List.mem_of_getElem? (i := 1385) (by decide +kernel)⟩
theorem lw_p57 : lw_okq (⟨"WasmReaderModel", "type", "()I"⟩, 24) := ⟨⟨by decide +kernel, by decide +kernel⟩, List.mem_of_getElem? (i := 1013) (by decide +kernel), List.mem_of_getElem? (i := 1389) (by decide +kernel), List.mem_of_getElem? (i := 1390) (by decide +kernel)⟩
theorem lw_p58 : lw_okq (⟨"WasmReaderModel", "importItem", "()V"⟩, 24) := ⟨⟨by decide +kernel, by decide +kernel⟩, List.mem_of_getElem? (i := 1013) (by decide +kernel), List.mem_of_getElem? (i := 1393) (by decide +kernel), List.mem_of_getElem? (i := 1394) (by decide +kernel)⟩
theorem lw_p59 : lw_okq (⟨"WasmReaderModel", "functionItem", "(II)V"⟩, 24) := ⟨⟨by decide +kernel, by decide +kernel⟩, List.mem_of_getElem? (i := 1013) (by decide +kernel), List.mem_of_getElem? (i := 1397) (by decide +kernel), List.mem_of_getElem? (i := 1398) (by decide +kernel)⟩
theorem lw_p60 : lw_okq (⟨"WasmReaderModel", "flag", "()I"⟩, 24) := ⟨⟨by decide +kernel, by decide +kernel⟩, List.mem_of_getElem? (i := 1013) (by decide +kernel), List.mem_of_getElem? (i := 1401) (by decide +kernel), List.mem_of_getElem? (i := 1402) (by decide +kernel)⟩
theorem lw_p61 : lw_okq (⟨"WasmReaderModel", "global", "(III)V"⟩, 24) := ⟨⟨by decide +kernel, by decide +kernel⟩, List.mem_of_getElem? (i := 1013) (by decide +kernel), List.mem_of_getElem? (i := 1405) (by decide +kernel), List.mem_of_getElem? (i := 1406) (by decide +kernel)⟩
theorem lw_p62 : lw_okq (⟨"WasmReaderModel", "limits", "(J)V"⟩, 24) := ⟨⟨by decide +kernel, by decide +kernel⟩, List.mem_of_getElem? (i := 1013) (by decide +kernel), List.mem_of_getElem? (i := 1410) (by decide +kernel), List.mem_of_getElem? (i := 1411) (by decide +kernel)⟩
theorem lw_p63 : lw_okq (⟨"WasmReaderModel", "limited", "(ZI)V"⟩, 24) := ⟨⟨by decide +kernel, by decide +kernel⟩, List.mem_of_getElem? (i := 1013) (by decide +kernel), List.mem_of_getElem? (i := 1415) (by decide +kernel), List.mem_of_getElem? (i := 1416) (by decide +kernel)⟩
def lw_privs_4 : List (MethodName × Nat) := [(⟨"WasmReader$Validity", "numeric", "(I)V"⟩, 3), (⟨"java/lang/Throwable", "fillInStackTrace", "(I)Ljava/lang/Throwable;"⟩, 6), (⟨"WasmReaderModel", "four", "(I)V"⟩, 24), (⟨"WasmReaderModel", "parse", "()V"⟩, 24), (⟨"WasmReaderModel", "one", "()I"⟩, 24), (⟨"WasmReaderModel", "whole", "()J"⟩, 24), (⟨"WasmReaderModel", "name", "(Z)I"⟩, 24), (⟨"WasmReaderModel", "item", "(I)V"⟩, 24), (⟨"WasmReaderModel", "typeItem", "()V"⟩, 24), (⟨"WasmReaderModel", "type", "()I"⟩, 24), (⟨"WasmReaderModel", "importItem", "()V"⟩, 24), (⟨"WasmReaderModel", "functionItem", "(II)V"⟩, 24), (⟨"WasmReaderModel", "flag", "()I"⟩, 24), (⟨"WasmReaderModel", "global", "(III)V"⟩, 24), (⟨"WasmReaderModel", "limits", "(J)V"⟩, 24), (⟨"WasmReaderModel", "limited", "(ZI)V"⟩, 24)]
theorem lw_r4 : ∀ q ∈ lw_privs_4, lw_okq q := List.forall_mem_cons.mpr ⟨lw_p48, List.forall_mem_cons.mpr ⟨lw_p49, List.forall_mem_cons.mpr ⟨lw_p50, List.forall_mem_cons.mpr ⟨lw_p51, List.forall_mem_cons.mpr ⟨lw_p52, List.forall_mem_cons.mpr ⟨lw_p53, List.forall_mem_cons.mpr ⟨lw_p54, List.forall_mem_cons.mpr ⟨lw_p55, List.forall_mem_cons.mpr ⟨lw_p56, List.forall_mem_cons.mpr ⟨lw_p57, List.forall_mem_cons.mpr ⟨lw_p58, List.forall_mem_cons.mpr ⟨lw_p59, List.forall_mem_cons.mpr ⟨lw_p60, List.forall_mem_cons.mpr ⟨lw_p61, List.forall_mem_cons.mpr ⟨lw_p62, List.forall_mem_cons.mpr ⟨lw_p63, fun _ h => absurd h List.not_mem_nil⟩⟩⟩⟩⟩⟩⟩⟩⟩⟩⟩⟩⟩⟩⟩⟩
theorem lw_p64 : lw_okq (⟨"WasmReaderModel", "initial", "()V"⟩, 24) := ⟨⟨by decide +kernel, by decide +kernel⟩, List.mem_of_getElem? (i := 1013) (by decide +kernel), List.mem_of_getElem? (i := 1422) (by decide +kernel), List.mem_of_getElem? (i := 1423) (by decide +kernel)⟩
theorem lw_p65 : lw_okq (⟨"WasmReaderModel", "signed", "(I)J"⟩, 24) := ⟨⟨by decide +kernel, by decide +kernel⟩, List.mem_of_getElem? (i := 1013) (by decide +kernel), List.mem_of_getElem? (i := 1426) (by decide +kernel), List.mem_of_getElem? (i := 1427) (by decide +kernel)⟩
theorem lw_p66 : lw_okq (⟨"WasmReaderModel", "element", "()V"⟩, 24) := ⟨⟨by decide +kernel, by decide +kernel⟩, List.mem_of_getElem? (i := 1013) (by decide +kernel), List.mem_of_getElem? (i := 1430) (by decide +kernel), List.mem_of_getElem? (i := 1431) (by decide +kernel)⟩
theorem lw_p67 : lw_okq (⟨"WasmReaderModel", "body", "()V"⟩, 24) := ⟨⟨by decide +kernel, by decide +kernel⟩, List.mem_of_getElem? (i := 1013) (by decide +kernel), List.mem_of_getElem? (i := 1434) (by decide +kernel), List.mem_of_getElem? (i := 1435) (by decide +kernel)⟩
theorem lw_p68 : lw_okq (⟨"WasmReaderModel", "code", "()V"⟩, 24) := ⟨⟨by decide +kernel, by decide +kernel⟩, List.mem_of_getElem? (i := 1013) (by decide +kernel), List.mem_of_getElem? (i := 1440) (by decide +kernel), List.mem_of_getElem? (i := 1441) (by decide +kernel)⟩
theorem lw_p69 : lw_okq (⟨"WasmReaderModel", "data", "()V"⟩, 24) := ⟨⟨by decide +kernel, by decide +kernel⟩, List.mem_of_getElem? (i := 1013) (by decide +kernel), List.mem_of_getElem? (i := 1447) (by decide +kernel), List.mem_of_getElem? (i := 1448) (by decide +kernel)⟩
theorem lw_p70 : lw_okq (⟨"WasmReaderModel", "isRoom", "()Z"⟩, 24) := ⟨⟨by decide +kernel, by decide +kernel⟩, List.mem_of_getElem? (i := 1013) (by decide +kernel), List.mem_of_getElem? (i := 1451) (by decide +kernel), List.mem_of_getElem? (i := 1452) (by decide +kernel)⟩
theorem lw_p71 : lw_okq (⟨"WasmReaderModel", "valid", "()V"⟩, 24) := ⟨⟨by decide +kernel, by decide +kernel⟩, List.mem_of_getElem? (i := 1013) (by decide +kernel), List.mem_of_getElem? (i := 1455) (by decide +kernel), List.mem_of_getElem? (i := 1456) (by decide +kernel)⟩
theorem lw_p72 : lw_okq (⟨"WasmReaderModel", "must", "(Z)V"⟩, 24) := ⟨⟨by decide +kernel, by decide +kernel⟩, List.mem_of_getElem? (i := 1013) (by decide +kernel), List.mem_of_getElem? (i := 1459) (by decide +kernel), List.mem_of_getElem? (i := 1460) (by decide +kernel)⟩
theorem lw_p73 : lw_okq (⟨"WasmReaderModel", "isInitial", "(IJI)Z"⟩, 24) := ⟨⟨by decide +kernel, by decide +kernel⟩, List.mem_of_getElem? (i := 1013) (by decide +kernel), List.mem_of_getElem? (i := 1463) (by decide +kernel), List.mem_of_getElem? (i := 1464) (by decide +kernel)⟩
theorem lw_p74 : lw_okq (⟨"WasmReaderModel", "valid", "(I)V"⟩, 24) := ⟨⟨by decide +kernel, by decide +kernel⟩, List.mem_of_getElem? (i := 1013) (by decide +kernel), List.mem_of_getElem? (i := 1470) (by decide +kernel), List.mem_of_getElem? (i := 1471) (by decide +kernel)⟩
theorem lw_p75 : lw_okq (⟨"WasmReaderModel", "open", "(III)V"⟩, 24) := ⟨⟨by decide +kernel, by decide +kernel⟩, List.mem_of_getElem? (i := 1013) (by decide +kernel), List.mem_of_getElem? (i := 1474) (by decide +kernel), List.mem_of_getElem? (i := 1475) (by decide +kernel)⟩
theorem lw_p76 : lw_okq (⟨"WasmReaderModel", "dead", "()V"⟩, 24) := ⟨⟨by decide +kernel, by decide +kernel⟩, List.mem_of_getElem? (i := 1013) (by decide +kernel), List.mem_of_getElem? (i := 1478) (by decide +kernel), List.mem_of_getElem? (i := 1479) (by decide +kernel)⟩
theorem lw_p77 : lw_okq (⟨"WasmReaderModel", "blockType", "()I"⟩, 24) := ⟨⟨by decide +kernel, by decide +kernel⟩, List.mem_of_getElem? (i := 1013) (by decide +kernel), List.mem_of_getElem? (i := 1482) (by decide +kernel), List.mem_of_getElem? (i := 1483) (by decide +kernel)⟩
theorem lw_p78 : lw_okq (⟨"WasmReaderModel", "pop", "(I)I"⟩, 24) := ⟨⟨by decide +kernel, by decide +kernel⟩, List.mem_of_getElem? (i := 1013) (by decide +kernel), List.mem_of_getElem? (i := 1486) (by decide +kernel), List.mem_of_getElem? (i := 1487) (by decide +kernel)⟩
theorem lw_p79 : lw_okq (⟨"WasmReaderModel", "pops", "(I)V"⟩, 24) := ⟨⟨by decide +kernel, by decide +kernel⟩, List.mem_of_getElem? (i := 1013) (by decide +kernel), List.mem_of_getElem? (i := 1490) (by decide +kernel), List.mem_of_getElem? (i := 1491) (by decide +kernel)⟩
def lw_privs_5 : List (MethodName × Nat) := [(⟨"WasmReaderModel", "initial", "()V"⟩, 24), (⟨"WasmReaderModel", "signed", "(I)J"⟩, 24), (⟨"WasmReaderModel", "element", "()V"⟩, 24), (⟨"WasmReaderModel", "body", "()V"⟩, 24), (⟨"WasmReaderModel", "code", "()V"⟩, 24), (⟨"WasmReaderModel", "data", "()V"⟩, 24), (⟨"WasmReaderModel", "isRoom", "()Z"⟩, 24), (⟨"WasmReaderModel", "valid", "()V"⟩, 24), (⟨"WasmReaderModel", "must", "(Z)V"⟩, 24), (⟨"WasmReaderModel", "isInitial", "(IJI)Z"⟩, 24), (⟨"WasmReaderModel", "valid", "(I)V"⟩, 24), (⟨"WasmReaderModel", "open", "(III)V"⟩, 24), (⟨"WasmReaderModel", "dead", "()V"⟩, 24), (⟨"WasmReaderModel", "blockType", "()I"⟩, 24), (⟨"WasmReaderModel", "pop", "(I)I"⟩, 24), (⟨"WasmReaderModel", "pops", "(I)V"⟩, 24)]
theorem lw_r5 : ∀ q ∈ lw_privs_5, lw_okq q := List.forall_mem_cons.mpr ⟨lw_p64, List.forall_mem_cons.mpr ⟨lw_p65, List.forall_mem_cons.mpr ⟨lw_p66, List.forall_mem_cons.mpr ⟨lw_p67, List.forall_mem_cons.mpr ⟨lw_p68, List.forall_mem_cons.mpr ⟨lw_p69, List.forall_mem_cons.mpr ⟨lw_p70, List.forall_mem_cons.mpr ⟨lw_p71, List.forall_mem_cons.mpr ⟨lw_p72, List.forall_mem_cons.mpr ⟨lw_p73, List.forall_mem_cons.mpr ⟨lw_p74, List.forall_mem_cons.mpr ⟨lw_p75, List.forall_mem_cons.mpr ⟨lw_p76, List.forall_mem_cons.mpr ⟨lw_p77, List.forall_mem_cons.mpr ⟨lw_p78, List.forall_mem_cons.mpr ⟨lw_p79, fun _ h => absurd h List.not_mem_nil⟩⟩⟩⟩⟩⟩⟩⟩⟩⟩⟩⟩⟩⟩⟩⟩
theorem lw_p80 : lw_okq (⟨"WasmReaderModel", "push", "(I)V"⟩, 24) := ⟨⟨by decide +kernel, by decide +kernel⟩, List.mem_of_getElem? (i := 1013) (by decide +kernel), List.mem_of_getElem? (i := 1494) (by decide +kernel), List.mem_of_getElem? (i := 1495) (by decide +kernel)⟩
theorem lw_p81 : lw_okq (⟨"WasmReaderModel", "block", "(J)I"⟩, 24) := ⟨⟨by decide +kernel, by decide +kernel⟩, List.mem_of_getElem? (i := 1013) (by decide +kernel), List.mem_of_getElem? (i := 1498) (by decide +kernel), List.mem_of_getElem? (i := 1499) (by decide +kernel)⟩
theorem lw_p82 : lw_okq (⟨"WasmReaderModel", "table", "()V"⟩, 24) := ⟨⟨by decide +kernel, by decide +kernel⟩, List.mem_of_getElem? (i := 1013) (by decide +kernel), List.mem_of_getElem? (i := 1502) (by decide +kernel), List.mem_of_getElem? (i := 1503) (by decide +kernel)⟩
theorem lw_p83 : lw_okq (⟨"WasmReaderModel", "called", "(I)V"⟩, 24) := ⟨⟨by decide +kernel, by decide +kernel⟩, List.mem_of_getElem? (i := 1013) (by decide +kernel), List.mem_of_getElem? (i := 1506) (by decide +kernel), List.mem_of_getElem? (i := 1507) (by decide +kernel)⟩
theorem lw_p84 : lw_okq (⟨"WasmReaderModel", "access", "(I)V"⟩, 24) := ⟨⟨by decide +kernel, by decide +kernel⟩, List.mem_of_getElem? (i := 1013) (by decide +kernel), List.mem_of_getElem? (i := 1510) (by decide +kernel), List.mem_of_getElem? (i := 1511) (by decide +kernel)⟩
theorem lw_p85 : lw_okq (⟨"WasmReaderModel", "numeric", "(I)V"⟩, 24) := ⟨⟨by decide +kernel, by decide +kernel⟩, List.mem_of_getElem? (i := 1013) (by decide +kernel), List.mem_of_getElem? (i := 1518) (by decide +kernel), List.mem_of_getElem? (i := 1519) (by decide +kernel)⟩
theorem lw_p86 : lw_okq (⟨"WasmReaderModel", "fails", "(I)Z"⟩, 24) := ⟨⟨by decide +kernel, by decide +kernel⟩, List.mem_of_getElem? (i := 1013) (by decide +kernel), List.mem_of_getElem? (i := 1526) (by decide +kernel), List.mem_of_getElem? (i := 1527) (by decide +kernel)⟩
def lw_privs_6 : List (MethodName × Nat) := [(⟨"WasmReaderModel", "push", "(I)V"⟩, 24), (⟨"WasmReaderModel", "block", "(J)I"⟩, 24), (⟨"WasmReaderModel", "table", "()V"⟩, 24), (⟨"WasmReaderModel", "called", "(I)V"⟩, 24), (⟨"WasmReaderModel", "access", "(I)V"⟩, 24), (⟨"WasmReaderModel", "numeric", "(I)V"⟩, 24), (⟨"WasmReaderModel", "fails", "(I)Z"⟩, 24)]
theorem lw_r6 : ∀ q ∈ lw_privs_6, lw_okq q := List.forall_mem_cons.mpr ⟨lw_p80, List.forall_mem_cons.mpr ⟨lw_p81, List.forall_mem_cons.mpr ⟨lw_p82, List.forall_mem_cons.mpr ⟨lw_p83, List.forall_mem_cons.mpr ⟨lw_p84, List.forall_mem_cons.mpr ⟨lw_p85, List.forall_mem_cons.mpr ⟨lw_p86, fun _ h => absurd h List.not_mem_nil⟩⟩⟩⟩⟩⟩⟩
def lw_privs : List (MethodName × Nat) := lw_privs_1 ++ (lw_privs_2 ++ (lw_privs_3 ++ (lw_privs_4 ++ (lw_privs_5 ++ (lw_privs_6)))))
def lw_tbl : List Cond := k2_sels lw_privs ++ tables_1
theorem lw_privs_ok : ∀ q ∈ lw_privs, lw_okq q := by
  show ∀ q ∈ lw_privs_1 ++ (lw_privs_2 ++ (lw_privs_3 ++ (lw_privs_4 ++ (lw_privs_5 ++ (lw_privs_6))))), lw_okq q
  exact List.forall_mem_append.mpr ⟨lw_r1, List.forall_mem_append.mpr ⟨lw_r2, List.forall_mem_append.mpr ⟨lw_r3, List.forall_mem_append.mpr ⟨lw_r4, List.forall_mem_append.mpr ⟨lw_r5, lw_r6⟩⟩⟩⟩⟩

-- ===== end of PART A =====
def T_Reader : u_T := fun k => match k with
  | 0 => ("WasmReader", "cursor", "LWasmReader$Cursor;", true)
  | 1 => ("WasmReader", "module", "LWasmReader$WasmModule;", true)
  | 2 => ("WasmReader", "elseMayCome", "[Z", true)
  | 3 => ("WasmReader", "stack", "LWasmReader$TypeStack;", true)
  | _ => ("WasmReader", "present", "Z", false)
def t_Reader : Nat → FieldType := fun k => match k with
  | 0 => .object "WasmReader$Cursor"
  | 1 => .object "WasmReader$WasmModule"
  | 2 => .array .boolean
  | 3 => .object "WasmReader$TypeStack"
  | _ => .boolean
theorem nok_Reader : ∀ a, a < 5 → ∀ b, b < 5 → a ≠ b → (T_Reader a).2.1 ≠ (T_Reader b).2.1 := by decide +kernel
theorem tok_Reader : ∀ k, k < 5 → parseFieldDescriptor (T_Reader k).2.2.1 = some (t_Reader k) := by decide +kernel
def T_Cursor : u_T := fun k => match k with
  | 0 => ("WasmReader$Cursor", "bytes", "[B", true)
  | 1 => ("WasmReader$Cursor", "length", "I", false)
  | 2 => ("WasmReader$Cursor", "position", "I", false)
  | 3 => ("WasmReader$Cursor", "limit", "I", false)
  | _ => ("WasmReader$Cursor", "malformed", "Z", false)
def t_Cursor : Nat → FieldType := fun k => match k with
  | 0 => .array .byte
  | 1 => .int
  | 2 => .int
  | 3 => .int
  | _ => .boolean
theorem nok_Cursor : ∀ a, a < 5 → ∀ b, b < 5 → a ≠ b → (T_Cursor a).2.1 ≠ (T_Cursor b).2.1 := by decide +kernel
theorem tok_Cursor : ∀ k, k < 5 → parseFieldDescriptor (T_Cursor k).2.2.1 = some (t_Cursor k) := by decide +kernel
def T_WasmModule : u_T := fun k => match k with
  | 0 => ("WasmReader$WasmModule", "types", "LWasmReader$Types;", true)
  | 1 => ("WasmReader$WasmModule", "functions", "LWasmReader$Functions;", true)
  | 2 => ("WasmReader$WasmModule", "globals", "LWasmReader$Globals;", true)
  | 3 => ("WasmReader$WasmModule", "exports", "LWasmReader$Exports;", true)
  | 4 => ("WasmReader$WasmModule", "elements", "LWasmReader$Segments;", true)
  | 5 => ("WasmReader$WasmModule", "data", "LWasmReader$Segments;", true)
  | 6 => ("WasmReader$WasmModule", "tables", "LWasmReader$Sized;", true)
  | 7 => ("WasmReader$WasmModule", "memories", "LWasmReader$Sized;", true)
  | 8 => ("WasmReader$WasmModule", "imports", "I", false)
  | 9 => ("WasmReader$WasmModule", "start", "I", false)
  | _ => ("WasmReader$WasmModule", "partTooLarge", "Z", false)
def t_WasmModule : Nat → FieldType := fun k => match k with
  | 0 => .object "WasmReader$Types"
  | 1 => .object "WasmReader$Functions"
  | 2 => .object "WasmReader$Globals"
  | 3 => .object "WasmReader$Exports"
  | 4 => .object "WasmReader$Segments"
  | 5 => .object "WasmReader$Segments"
  | 6 => .object "WasmReader$Sized"
  | 7 => .object "WasmReader$Sized"
  | 8 => .int
  | 9 => .int
  | _ => .boolean
theorem nok_WasmModule : ∀ a, a < 11 → ∀ b, b < 11 → a ≠ b → (T_WasmModule a).2.1 ≠ (T_WasmModule b).2.1 := by decide +kernel
theorem tok_WasmModule : ∀ k, k < 11 → parseFieldDescriptor (T_WasmModule k).2.2.1 = some (t_WasmModule k) := by decide +kernel
def T_Types : u_T := fun k => match k with
  | 0 => ("WasmReader$Types", "count", "I", false)
  | 1 => ("WasmReader$Types", "parameters", "[I", true)
  | 2 => ("WasmReader$Types", "longs", "[I", true)
  | _ => ("WasmReader$Types", "result", "[I", true)
def t_Types : Nat → FieldType := fun k => match k with
  | 0 => .int
  | 1 => .array .int
  | 2 => .array .int
  | _ => .array .int
theorem nok_Types : ∀ a, a < 4 → ∀ b, b < 4 → a ≠ b → (T_Types a).2.1 ≠ (T_Types b).2.1 := by decide +kernel
theorem tok_Types : ∀ k, k < 4 → parseFieldDescriptor (T_Types k).2.2.1 = some (t_Types k) := by decide +kernel
def T_Functions : u_T := fun k => match k with
  | 0 => ("WasmReader$Functions", "count", "I", false)
  | 1 => ("WasmReader$Functions", "imported", "I", false)
  | 2 => ("WasmReader$Functions", "bodies", "I", false)
  | 3 => ("WasmReader$Functions", "type", "[I", true)
  | 4 => ("WasmReader$Functions", "parameters", "[I", true)
  | 5 => ("WasmReader$Functions", "result", "[I", true)
  | 6 => ("WasmReader$Functions", "locals", "[I", true)
  | 7 => ("WasmReader$Functions", "longs", "[I", true)
  | 8 => ("WasmReader$Functions", "bodyStart", "[I", true)
  | _ => ("WasmReader$Functions", "bodyBytes", "[I", true)
def t_Functions : Nat → FieldType := fun k => match k with
  | 0 => .int
  | 1 => .int
  | 2 => .int
  | 3 => .array .int
  | 4 => .array .int
  | 5 => .array .int
  | 6 => .array .int
  | 7 => .array .int
  | 8 => .array .int
  | _ => .array .int
theorem nok_Functions : ∀ a, a < 10 → ∀ b, b < 10 → a ≠ b → (T_Functions a).2.1 ≠ (T_Functions b).2.1 := by decide +kernel
theorem tok_Functions : ∀ k, k < 10 → parseFieldDescriptor (T_Functions k).2.2.1 = some (t_Functions k) := by decide +kernel
def T_Globals : u_T := fun k => match k with
  | 0 => ("WasmReader$Globals", "count", "I", false)
  | 1 => ("WasmReader$Globals", "imported", "I", false)
  | 2 => ("WasmReader$Globals", "type", "[I", true)
  | 3 => ("WasmReader$Globals", "mutable", "[Z", true)
  | 4 => ("WasmReader$Globals", "initialOpcode", "[I", true)
  | _ => ("WasmReader$Globals", "initialValue", "[J", true)
def t_Globals : Nat → FieldType := fun k => match k with
  | 0 => .int
  | 1 => .int
  | 2 => .array .int
  | 3 => .array .boolean
  | 4 => .array .int
  | _ => .array .long
theorem nok_Globals : ∀ a, a < 6 → ∀ b, b < 6 → a ≠ b → (T_Globals a).2.1 ≠ (T_Globals b).2.1 := by decide +kernel
theorem tok_Globals : ∀ k, k < 6 → parseFieldDescriptor (T_Globals k).2.2.1 = some (t_Globals k) := by decide +kernel
def T_Exports : u_T := fun k => match k with
  | 0 => ("WasmReader$Exports", "count", "I", false)
  | 1 => ("WasmReader$Exports", "sort", "[I", true)
  | 2 => ("WasmReader$Exports", "number", "[I", true)
  | 3 => ("WasmReader$Exports", "nameLength", "[I", true)
  | _ => ("WasmReader$Exports", "names", "[B", true)
def t_Exports : Nat → FieldType := fun k => match k with
  | 0 => .int
  | 1 => .array .int
  | 2 => .array .int
  | 3 => .array .int
  | _ => .array .byte
theorem nok_Exports : ∀ a, a < 5 → ∀ b, b < 5 → a ≠ b → (T_Exports a).2.1 ≠ (T_Exports b).2.1 := by decide +kernel
theorem tok_Exports : ∀ k, k < 5 → parseFieldDescriptor (T_Exports k).2.2.1 = some (t_Exports k) := by decide +kernel
def T_Segments : u_T := fun k => match k with
  | 0 => ("WasmReader$Segments", "count", "I", false)
  | 1 => ("WasmReader$Segments", "target", "[I", true)
  | 2 => ("WasmReader$Segments", "offsetOpcode", "[I", true)
  | 3 => ("WasmReader$Segments", "offsetValue", "[J", true)
  | _ => ("WasmReader$Segments", "highest", "[I", true)
def t_Segments : Nat → FieldType := fun k => match k with
  | 0 => .int
  | 1 => .array .int
  | 2 => .array .int
  | 3 => .array .long
  | _ => .array .int
theorem nok_Segments : ∀ a, a < 5 → ∀ b, b < 5 → a ≠ b → (T_Segments a).2.1 ≠ (T_Segments b).2.1 := by decide +kernel
theorem tok_Segments : ∀ k, k < 5 → parseFieldDescriptor (T_Segments k).2.2.1 = some (t_Segments k) := by decide +kernel
def T_Sized : u_T := fun k => match k with
  | 0 => ("WasmReader$Sized", "count", "I", false)
  | 1 => ("WasmReader$Sized", "least", "J", false)
  | _ => ("WasmReader$Sized", "most", "J", false)
def t_Sized : Nat → FieldType := fun k => match k with
  | 0 => .int
  | 1 => .long
  | _ => .long
theorem nok_Sized : ∀ a, a < 3 → ∀ b, b < 3 → a ≠ b → (T_Sized a).2.1 ≠ (T_Sized b).2.1 := by decide +kernel
theorem tok_Sized : ∀ k, k < 3 → parseFieldDescriptor (T_Sized k).2.2.1 = some (t_Sized k) := by decide +kernel
def T_TypeStack : u_T := fun k => match k with
  | 0 => ("WasmReader$TypeStack", "operands", "[B", true)
  | 1 => ("WasmReader$TypeStack", "opener", "[I", true)
  | 2 => ("WasmReader$TypeStack", "result", "[I", true)
  | 3 => ("WasmReader$TypeStack", "floor", "[I", true)
  | 4 => ("WasmReader$TypeStack", "unreachable", "[Z", true)
  | 5 => ("WasmReader$TypeStack", "height", "I", false)
  | 6 => ("WasmReader$TypeStack", "top", "I", false)
  | _ => ("WasmReader$TypeStack", "wrong", "Z", false)
def t_TypeStack : Nat → FieldType := fun k => match k with
  | 0 => .array .byte
  | 1 => .array .int
  | 2 => .array .int
  | 3 => .array .int
  | 4 => .array .boolean
  | 5 => .int
  | 6 => .int
  | _ => .boolean
theorem nok_TypeStack : ∀ a, a < 8 → ∀ b, b < 8 → a ≠ b → (T_TypeStack a).2.1 ≠ (T_TypeStack b).2.1 := by decide +kernel
theorem tok_TypeStack : ∀ k, k < 8 → parseFieldDescriptor (T_TypeStack k).2.2.1 = some (t_TypeStack k) := by decide +kernel
def T_Grammar : u_T := fun k => match k with
  | 0 => ("WasmReader$Grammar", "cursor", "LWasmReader$Cursor;", true)
  | 1 => ("WasmReader$Grammar", "module", "LWasmReader$WasmModule;", true)
  | _ => ("WasmReader$Grammar", "elseMayCome", "[Z", true)
def t_Grammar : Nat → FieldType := fun k => match k with
  | 0 => .object "WasmReader$Cursor"
  | 1 => .object "WasmReader$WasmModule"
  | _ => .array .boolean
theorem nok_Grammar : ∀ a, a < 3 → ∀ b, b < 3 → a ≠ b → (T_Grammar a).2.1 ≠ (T_Grammar b).2.1 := by decide +kernel
theorem tok_Grammar : ∀ k, k < 3 → parseFieldDescriptor (T_Grammar k).2.2.1 = some (t_Grammar k) := by decide +kernel
def T_Validity : u_T := fun k => match k with
  | 0 => ("WasmReader$Validity", "cursor", "LWasmReader$Cursor;", true)
  | 1 => ("WasmReader$Validity", "module", "LWasmReader$WasmModule;", true)
  | _ => ("WasmReader$Validity", "stack", "LWasmReader$TypeStack;", true)
def t_Validity : Nat → FieldType := fun k => match k with
  | 0 => .object "WasmReader$Cursor"
  | 1 => .object "WasmReader$WasmModule"
  | _ => .object "WasmReader$TypeStack"
theorem nok_Validity : ∀ a, a < 3 → ∀ b, b < 3 → a ≠ b → (T_Validity a).2.1 ≠ (T_Validity b).2.1 := by decide +kernel
theorem tok_Validity : ∀ k, k < 3 → parseFieldDescriptor (T_Validity k).2.2.1 = some (t_Validity k) := by decide +kernel
def T_Model : u_T := fun k => match k with
  | 0 => ("WasmReaderModel", "row", "[B", true)
  | 1 => ("WasmReaderModel", "rows", "I", false)
  | 2 => ("WasmReaderModel", "thrown", "I", false)
  | 3 => ("WasmReaderModel", "isRead", "Z", false)
  | 4 => ("WasmReaderModel", "u", "LWasmReaderModel$Unit;", true)
  | 5 => ("WasmReaderModel", "at", "I", false)
  | 6 => ("WasmReaderModel", "end", "I", false)
  | 7 => ("WasmReaderModel", "isOver", "Z", false)
  | 8 => ("WasmReaderModel", "isWrong", "Z", false)
  | 9 => ("WasmReaderModel", "nameAt", "I", false)
  | 10 => ("WasmReaderModel", "limitFirst", "J", false)
  | 11 => ("WasmReaderModel", "limitSecond", "J", false)
  | 12 => ("WasmReaderModel", "initialOp", "I", false)
  | 13 => ("WasmReaderModel", "initialValue", "J", false)
  | 14 => ("WasmReaderModel", "blockAt", "[I", true)
  | 15 => ("WasmReaderModel", "blockKind", "[I", true)
  | 16 => ("WasmReaderModel", "vt", "[I", true)
  | 17 => ("WasmReaderModel", "bTakes", "[I", true)
  | 18 => ("WasmReaderModel", "bLeaves", "[I", true)
  | 19 => ("WasmReaderModel", "bHeight", "[I", true)
  | 20 => ("WasmReaderModel", "bOp", "[I", true)
  | 21 => ("WasmReaderModel", "bDead", "[Z", true)
  | 22 => ("WasmReaderModel", "high", "I", false)
  | _ => ("WasmReaderModel", "blocks", "I", false)
def t_Model : Nat → FieldType := fun k => match k with
  | 0 => .array .byte
  | 1 => .int
  | 2 => .int
  | 3 => .boolean
  | 4 => .object "WasmReaderModel$Unit"
  | 5 => .int
  | 6 => .int
  | 7 => .boolean
  | 8 => .boolean
  | 9 => .int
  | 10 => .long
  | 11 => .long
  | 12 => .int
  | 13 => .long
  | 14 => .array .int
  | 15 => .array .int
  | 16 => .array .int
  | 17 => .array .int
  | 18 => .array .int
  | 19 => .array .int
  | 20 => .array .int
  | 21 => .array .boolean
  | 22 => .int
  | _ => .int
theorem nok_Model : ∀ a, a < 24 → ∀ b, b < 24 → a ≠ b → (T_Model a).2.1 ≠ (T_Model b).2.1 := by decide +kernel
theorem tok_Model : ∀ k, k < 24 → parseFieldDescriptor (T_Model k).2.2.1 = some (t_Model k) := by decide +kernel
def T_Unit : u_T := fun k => match k with
  | 0 => ("WasmReaderModel$Unit", "b", "[B", true)
  | 1 => ("WasmReaderModel$Unit", "size", "I", false)
  | 2 => ("WasmReaderModel$Unit", "types", "I", false)
  | 3 => ("WasmReaderModel$Unit", "imports", "I", false)
  | 4 => ("WasmReaderModel$Unit", "functions", "I", false)
  | 5 => ("WasmReaderModel$Unit", "ownFunctions", "I", false)
  | 6 => ("WasmReaderModel$Unit", "tables", "I", false)
  | 7 => ("WasmReaderModel$Unit", "memories", "I", false)
  | 8 => ("WasmReaderModel$Unit", "globals", "I", false)
  | 9 => ("WasmReaderModel$Unit", "exports", "I", false)
  | 10 => ("WasmReaderModel$Unit", "elements", "I", false)
  | 11 => ("WasmReaderModel$Unit", "datas", "I", false)
  | 12 => ("WasmReaderModel$Unit", "bodies", "I", false)
  | 13 => ("WasmReaderModel$Unit", "start", "I", false)
  | 14 => ("WasmReaderModel$Unit", "params", "[I", true)
  | 15 => ("WasmReaderModel$Unit", "param", "[I", true)
  | 16 => ("WasmReaderModel$Unit", "result", "[I", true)
  | 17 => ("WasmReaderModel$Unit", "iModule", "[I", true)
  | 18 => ("WasmReaderModel$Unit", "iModuleLong", "[I", true)
  | 19 => ("WasmReaderModel$Unit", "iName", "[I", true)
  | 20 => ("WasmReaderModel$Unit", "iNameLong", "[I", true)
  | 21 => ("WasmReaderModel$Unit", "iSort", "[I", true)
  | 22 => ("WasmReaderModel$Unit", "iFirst", "[I", true)
  | 23 => ("WasmReaderModel$Unit", "iSecond", "[J", true)
  | 24 => ("WasmReaderModel$Unit", "fType", "[I", true)
  | 25 => ("WasmReaderModel$Unit", "fImport", "[I", true)
  | 26 => ("WasmReaderModel$Unit", "gType", "[I", true)
  | 27 => ("WasmReaderModel$Unit", "gImport", "[I", true)
  | 28 => ("WasmReaderModel$Unit", "gOp", "[I", true)
  | 29 => ("WasmReaderModel$Unit", "gMutable", "[Z", true)
  | 30 => ("WasmReaderModel$Unit", "gValue", "[J", true)
  | 31 => ("WasmReaderModel$Unit", "tImport", "I", false)
  | 32 => ("WasmReaderModel$Unit", "tFirst", "I", false)
  | 33 => ("WasmReaderModel$Unit", "mImport", "I", false)
  | 34 => ("WasmReaderModel$Unit", "mFirst", "I", false)
  | 35 => ("WasmReaderModel$Unit", "tSecond", "J", false)
  | 36 => ("WasmReaderModel$Unit", "mSecond", "J", false)
  | 37 => ("WasmReaderModel$Unit", "eName", "[I", true)
  | 38 => ("WasmReaderModel$Unit", "eNameLong", "[I", true)
  | 39 => ("WasmReaderModel$Unit", "eSort", "[I", true)
  | 40 => ("WasmReaderModel$Unit", "eIndex", "[I", true)
  | 41 => ("WasmReaderModel$Unit", "sOp", "[I", true)
  | 42 => ("WasmReaderModel$Unit", "sMany", "[I", true)
  | 43 => ("WasmReaderModel$Unit", "sAt", "[I", true)
  | 44 => ("WasmReaderModel$Unit", "sIndex", "[I", true)
  | 45 => ("WasmReaderModel$Unit", "dOp", "[I", true)
  | 46 => ("WasmReaderModel$Unit", "dMany", "[I", true)
  | 47 => ("WasmReaderModel$Unit", "dAt", "[I", true)
  | 48 => ("WasmReaderModel$Unit", "dIndex", "[I", true)
  | 49 => ("WasmReaderModel$Unit", "sValue", "[J", true)
  | 50 => ("WasmReaderModel$Unit", "dValue", "[J", true)
  | 51 => ("WasmReaderModel$Unit", "bAt", "[I", true)
  | 52 => ("WasmReaderModel$Unit", "bEnd", "[I", true)
  | 53 => ("WasmReaderModel$Unit", "bLocals", "[I", true)
  | 54 => ("WasmReaderModel$Unit", "local", "[I", true)
  | 55 => ("WasmReaderModel$Unit", "otherwise", "[I", true)
  | _ => ("WasmReaderModel$Unit", "ends", "[I", true)
def t_Unit : Nat → FieldType := fun k => match k with
  | 0 => .array .byte
  | 1 => .int
  | 2 => .int
  | 3 => .int
  | 4 => .int
  | 5 => .int
  | 6 => .int
  | 7 => .int
  | 8 => .int
  | 9 => .int
  | 10 => .int
  | 11 => .int
  | 12 => .int
  | 13 => .int
  | 14 => .array .int
  | 15 => .array .int
  | 16 => .array .int
  | 17 => .array .int
  | 18 => .array .int
  | 19 => .array .int
  | 20 => .array .int
  | 21 => .array .int
  | 22 => .array .int
  | 23 => .array .long
  | 24 => .array .int
  | 25 => .array .int
  | 26 => .array .int
  | 27 => .array .int
  | 28 => .array .int
  | 29 => .array .boolean
  | 30 => .array .long
  | 31 => .int
  | 32 => .int
  | 33 => .int
  | 34 => .int
  | 35 => .long
  | 36 => .long
  | 37 => .array .int
  | 38 => .array .int
  | 39 => .array .int
  | 40 => .array .int
  | 41 => .array .int
  | 42 => .array .int
  | 43 => .array .int
  | 44 => .array .int
  | 45 => .array .int
  | 46 => .array .int
  | 47 => .array .int
  | 48 => .array .int
  | 49 => .array .long
  | 50 => .array .long
  | 51 => .array .int
  | 52 => .array .int
  | 53 => .array .int
  | 54 => .array .int
  | 55 => .array .int
  | _ => .array .int
theorem nok_Unit : ∀ a, a < 57 → ∀ b, b < 57 → a ≠ b → (T_Unit a).2.1 ≠ (T_Unit b).2.1 := by decide +kernel
theorem tok_Unit : ∀ k, k < 57 → parseFieldDescriptor (T_Unit k).2.2.1 = some (t_Unit k) := by decide +kernel
def T_Stop : u_T := fun k => match k with
  | 0 => ("java/lang/Throwable", "cause", "Ljava/lang/Throwable;", false)
  | 1 => ("java/lang/Throwable", "stackTrace", "[Ljava/lang/StackTraceElement;", false)
  | 2 => ("java/lang/Throwable", "suppressedExceptions", "Ljava/util/List;", false)
  | 3 => ("java/lang/Throwable", "detailMessage", "Ljava/lang/String;", false)
  | 4 => ("java/lang/Throwable", "backtrace", "Ljava/lang/Object;", false)
  | 5 => ("WasmReaderModel$Stop", "why", "I", true)
  | _ => ("java/lang/Throwable", "depth", "I", false)
def t_Stop : Nat → FieldType := fun k => match k with
  | 0 => .object "java/lang/Throwable"
  | 1 => .array (.object "java/lang/StackTraceElement")
  | 2 => .object "java/util/List"
  | 3 => .object "java/lang/String"
  | 4 => .object "java/lang/Object"
  | 5 => .int
  | _ => .int
theorem nok_Stop : ∀ a, a < 7 → ∀ b, b < 7 → a ≠ b → (T_Stop a).2.1 ≠ (T_Stop b).2.1 := by decide +kernel
theorem tok_Stop : ∀ k, k < 7 → parseFieldDescriptor (T_Stop k).2.2.1 = some (t_Stop k) := by decide +kernel
abbrev classes : List vw_C := [("WasmReader", T_Reader, 5), ("WasmReader$Cursor", T_Cursor, 5), ("WasmReader$WasmModule", T_WasmModule, 11), ("WasmReader$Types", T_Types, 4), ("WasmReader$Functions", T_Functions, 10), ("WasmReader$Globals", T_Globals, 6), ("WasmReader$Exports", T_Exports, 5), ("WasmReader$Segments", T_Segments, 5), ("WasmReader$Sized", T_Sized, 3), ("WasmReader$TypeStack", T_TypeStack, 8), ("WasmReader$Grammar", T_Grammar, 3), ("WasmReader$Validity", T_Validity, 3), ("WasmReaderModel", T_Model, 24), ("WasmReaderModel$Unit", T_Unit, 57), ("WasmReaderModel$Stop", T_Stop, 7)]
theorem x_mem {big ws : List Cond} (ps : List Nat) (h : ws = ps.filterMap (fun i => big[i]?)) : ∀ w ∈ ws, w ∈ big := by
  intro w hw
  rw [h] at hw
  obtain ⟨i, -, hi⟩ := List.mem_filterMap.mp hw
  first | exact List.mem_of_getElem? hi | exact List.getElem?_mem hi
/-- words that hold on under warmer tables -/
def xgood : Cond → Bool
  | .methodLinkNest .. => true
  | .fieldLinkNest .. => true
  | .declares _ => true
  | .castable .. => true
  | w => goodWord w
def xtb : List Cond := lw_tbl.filter xgood
theorem x_in {w : Cond} (h : w ∈ lw_tbl) (hg : xgood w = true) : w ∈ xtb := List.mem_filter.mpr ⟨h, hg⟩
theorem x_ins {ws : List Cond} (h : ∀ w ∈ ws, w ∈ lw_tbl) (hg : ws.all xgood = true) : ∀ w ∈ ws, w ∈ xtb := fun w hw => x_in (h w hw) (List.all_eq_true.mp hg w hw)
theorem x_warm {w : Cond} (h : xgood w = true) {args a' : Array Value} {s U : State} (hW : s.WarmedH U.vm) (hb : w.before args s = true) : w.before a' U = true := by
  cases w with
  | methodLinkNest a i x hh => exact va_Nw.use rfl (va_Nw.warmM hW (va_Nw.of rfl hb))
  | fieldLinkNest a i b n d hh => exact va_Nw.use rfl (va_Nw.warmF hW (va_Nw.of rfl hb))
  | declares x => exact va_Nw.use rfl (va_Nw.warmD hW (va_Nw.of rfl hb))
  | castable a b => exact va_Nw.use rfl (va_Nw.warmC hW (va_Nw.of rfl hb))
  | _ => exact word_at hW (good_of_word h) hb
theorem in_Reader : ∀ w ∈ u_ws "WasmReader" T_Reader 5, w ∈ xtb := x_ins (x_mem [455, 457, 459, 461, 463] (by decide +kernel)) (by decide +kernel)
theorem in_Cursor : ∀ w ∈ u_ws "WasmReader$Cursor" T_Cursor 5, w ∈ xtb := x_ins (x_mem [136, 138, 140, 142, 144] (by decide +kernel)) (by decide +kernel)
theorem in_WasmModule : ∀ w ∈ u_ws "WasmReader$WasmModule" T_WasmModule 11, w ∈ xtb := x_ins (x_mem [395, 397, 399, 401, 403, 405, 407, 409, 411, 413, 415] (by decide +kernel)) (by decide +kernel)
theorem in_Types : ∀ w ∈ u_ws "WasmReader$Types" T_Types 4, w ∈ xtb := x_ins (x_mem [172, 174, 176, 178] (by decide +kernel)) (by decide +kernel)
theorem in_Functions : ∀ w ∈ u_ws "WasmReader$Functions" T_Functions 10, w ∈ xtb := x_ins (x_mem [215, 217, 219, 221, 223, 225, 227, 229, 231, 233] (by decide +kernel)) (by decide +kernel)
theorem in_Globals : ∀ w ∈ u_ws "WasmReader$Globals" T_Globals 6, w ∈ xtb := x_ins (x_mem [261, 263, 265, 267, 269, 271] (by decide +kernel)) (by decide +kernel)
theorem in_Exports : ∀ w ∈ u_ws "WasmReader$Exports" T_Exports 5, w ∈ xtb := x_ins (x_mem [294, 296, 298, 300, 302] (by decide +kernel)) (by decide +kernel)
theorem in_Segments : ∀ w ∈ u_ws "WasmReader$Segments" T_Segments 5, w ∈ xtb := x_ins (x_mem [323, 325, 327, 329, 331] (by decide +kernel)) (by decide +kernel)
theorem in_Sized : ∀ w ∈ u_ws "WasmReader$Sized" T_Sized 3, w ∈ xtb := x_ins (x_mem [347, 349, 351] (by decide +kernel)) (by decide +kernel)
theorem in_TypeStack : ∀ w ∈ u_ws "WasmReader$TypeStack" T_TypeStack 8, w ∈ xtb := x_ins (x_mem [433, 435, 437, 439, 441, 443, 445, 447] (by decide +kernel)) (by decide +kernel)
theorem in_Grammar : ∀ w ∈ u_ws "WasmReader$Grammar" T_Grammar 3, w ∈ xtb := x_ins (x_mem [487, 489, 491] (by decide +kernel)) (by decide +kernel)
theorem in_Validity : ∀ w ∈ u_ws "WasmReader$Validity" T_Validity 3, w ∈ xtb := x_ins (x_mem [749, 751, 753] (by decide +kernel)) (by decide +kernel)
theorem in_Model : ∀ w ∈ u_ws "WasmReaderModel" T_Model 24, w ∈ xtb := x_ins (x_mem [1345, 1347, 1349, 1351, 1353, 1355, 1357, 1359, 1361, 1363, 1365, 1367, 1369, 1371, 1373, 1375, 1377, 1379, 1381, 1383, 1385, 1387, 1389, 1391] (by decide +kernel)) (by decide +kernel)
theorem in_Unit : ∀ w ∈ u_ws "WasmReaderModel$Unit" T_Unit 57, w ∈ xtb := x_ins (x_mem [1206, 1208, 1210, 1212, 1214, 1216, 1218, 1220, 1222, 1224, 1226, 1228, 1230, 1232, 1234, 1236, 1238, 1240, 1242, 1244, 1246, 1248, 1250, 1252, 1254, 1256, 1258, 1260, 1262, 1264, 1266, 1268, 1270, 1272, 1274, 1276, 1278, 1280, 1282, 1284, 1286, 1288, 1290, 1292, 1294, 1296, 1298, 1300, 1302, 1304, 1306, 1308, 1310, 1312, 1314, 1316, 1318] (by decide +kernel)) (by decide +kernel)
theorem in_Stop : ∀ w ∈ u_ws "WasmReaderModel$Stop" T_Stop 7, w ∈ xtb := x_ins (x_mem [1429, 1430, 1431, 1432, 1433, 1448, 1450] (by decide +kernel)) (by decide +kernel)
def y_Cursor_init : MethodName := ⟨"WasmReader$Cursor", "<init>", "()V"⟩
def y_Types_init : MethodName := ⟨"WasmReader$Types", "<init>", "()V"⟩
def y_Functions_init : MethodName := ⟨"WasmReader$Functions", "<init>", "()V"⟩
def y_Globals_init : MethodName := ⟨"WasmReader$Globals", "<init>", "()V"⟩
def y_Exports_init : MethodName := ⟨"WasmReader$Exports", "<init>", "()V"⟩
def y_Segments_init : MethodName := ⟨"WasmReader$Segments", "<init>", "()V"⟩
def y_Sized_init : MethodName := ⟨"WasmReader$Sized", "<init>", "()V"⟩
def y_TypeStack_init : MethodName := ⟨"WasmReader$TypeStack", "<init>", "()V"⟩
def y_WasmModule_init : MethodName := ⟨"WasmReader$WasmModule", "<init>", "()V"⟩
def y_Reader_init : MethodName := ⟨"WasmReader", "<init>", "()V"⟩
def y_Unit_init : MethodName := ⟨"WasmReaderModel$Unit", "<init>", "()V"⟩
def y_Model_init : MethodName := ⟨"WasmReaderModel", "<init>", "()V"⟩
theorem m_0 : Cond.fieldLink "WasmReader$Cursor" 9 "WasmReader$Cursor" "bytes" "[B" ∈ xtb := x_in (List.mem_of_getElem? (i := 125) (by decide +kernel)) (by decide +kernel)
theorem m_1 : Cond.methodLink "WasmReader$Cursor" 3 objectInit ∈ xtb := x_in (List.mem_of_getElem? (i := 124) (by decide +kernel)) (by decide +kernel)
theorem m_2 : Cond.instanceMethod objectInit ∈ xtb := x_in (List.mem_of_getElem? (i := 117) (by decide +kernel)) (by decide +kernel)
theorem m_3 : Cond.code objectInit ⟨#[0xb1]⟩ 1 none ∈ xtb := x_in (List.mem_of_getElem? (i := 118) (by decide +kernel)) (by decide +kernel)
theorem m_4 : Cond.arrayClass .byte ∈ xtb := x_in (List.mem_of_getElem? (i := 147) (by decide +kernel)) (by decide +kernel)
theorem m_5 : Cond.fieldLink "WasmReader$Types" 9 "WasmReader$Types" "parameters" "[I" ∈ xtb := x_in (List.mem_of_getElem? (i := 163) (by decide +kernel)) (by decide +kernel)
theorem m_6 : Cond.fieldLink "WasmReader$Types" 15 "WasmReader$Types" "longs" "[I" ∈ xtb := x_in (List.mem_of_getElem? (i := 166) (by decide +kernel)) (by decide +kernel)
theorem m_7 : Cond.fieldLink "WasmReader$Types" 18 "WasmReader$Types" "result" "[I" ∈ xtb := x_in (List.mem_of_getElem? (i := 169) (by decide +kernel)) (by decide +kernel)
theorem m_8 : Cond.methodLink "WasmReader$Types" 3 objectInit ∈ xtb := x_in (List.mem_of_getElem? (i := 159) (by decide +kernel)) (by decide +kernel)
theorem m_9 : Cond.arrayClass .int ∈ xtb := x_in (List.mem_of_getElem? (i := 181) (by decide +kernel)) (by decide +kernel)
theorem m_10 : Cond.fieldLink "WasmReader$Functions" 9 "WasmReader$Functions" "type" "[I" ∈ xtb := x_in (List.mem_of_getElem? (i := 199) (by decide +kernel)) (by decide +kernel)
theorem m_11 : Cond.fieldLink "WasmReader$Functions" 15 "WasmReader$Functions" "parameters" "[I" ∈ xtb := x_in (List.mem_of_getElem? (i := 201) (by decide +kernel)) (by decide +kernel)
theorem m_12 : Cond.fieldLink "WasmReader$Functions" 18 "WasmReader$Functions" "result" "[I" ∈ xtb := x_in (List.mem_of_getElem? (i := 204) (by decide +kernel)) (by decide +kernel)
theorem m_13 : Cond.fieldLink "WasmReader$Functions" 21 "WasmReader$Functions" "locals" "[I" ∈ xtb := x_in (List.mem_of_getElem? (i := 207) (by decide +kernel)) (by decide +kernel)
theorem m_14 : Cond.fieldLink "WasmReader$Functions" 24 "WasmReader$Functions" "longs" "[I" ∈ xtb := x_in (List.mem_of_getElem? (i := 209) (by decide +kernel)) (by decide +kernel)
theorem m_15 : Cond.fieldLink "WasmReader$Functions" 27 "WasmReader$Functions" "bodyStart" "[I" ∈ xtb := x_in (List.mem_of_getElem? (i := 210) (by decide +kernel)) (by decide +kernel)
theorem m_16 : Cond.fieldLink "WasmReader$Functions" 30 "WasmReader$Functions" "bodyBytes" "[I" ∈ xtb := x_in (List.mem_of_getElem? (i := 212) (by decide +kernel)) (by decide +kernel)
theorem m_17 : Cond.methodLink "WasmReader$Functions" 3 objectInit ∈ xtb := x_in (List.mem_of_getElem? (i := 187) (by decide +kernel)) (by decide +kernel)
theorem m_18 : Cond.fieldLink "WasmReader$Globals" 9 "WasmReader$Globals" "type" "[I" ∈ xtb := x_in (List.mem_of_getElem? (i := 250) (by decide +kernel)) (by decide +kernel)
theorem m_19 : Cond.fieldLink "WasmReader$Globals" 15 "WasmReader$Globals" "mutable" "[Z" ∈ xtb := x_in (List.mem_of_getElem? (i := 253) (by decide +kernel)) (by decide +kernel)
theorem m_20 : Cond.fieldLink "WasmReader$Globals" 19 "WasmReader$Globals" "initialOpcode" "[I" ∈ xtb := x_in (List.mem_of_getElem? (i := 256) (by decide +kernel)) (by decide +kernel)
theorem m_21 : Cond.fieldLink "WasmReader$Globals" 22 "WasmReader$Globals" "initialValue" "[J" ∈ xtb := x_in (List.mem_of_getElem? (i := 258) (by decide +kernel)) (by decide +kernel)
theorem m_22 : Cond.methodLink "WasmReader$Globals" 3 objectInit ∈ xtb := x_in (List.mem_of_getElem? (i := 241) (by decide +kernel)) (by decide +kernel)
theorem m_23 : Cond.arrayClass .boolean ∈ xtb := x_in (List.mem_of_getElem? (i := 274) (by decide +kernel)) (by decide +kernel)
theorem m_24 : Cond.arrayClass .long ∈ xtb := x_in (List.mem_of_getElem? (i := 275) (by decide +kernel)) (by decide +kernel)
theorem m_25 : Cond.fieldLink "WasmReader$Exports" 9 "WasmReader$Exports" "sort" "[I" ∈ xtb := x_in (List.mem_of_getElem? (i := 285) (by decide +kernel)) (by decide +kernel)
theorem m_26 : Cond.fieldLink "WasmReader$Exports" 15 "WasmReader$Exports" "number" "[I" ∈ xtb := x_in (List.mem_of_getElem? (i := 288) (by decide +kernel)) (by decide +kernel)
theorem m_27 : Cond.fieldLink "WasmReader$Exports" 18 "WasmReader$Exports" "nameLength" "[I" ∈ xtb := x_in (List.mem_of_getElem? (i := 291) (by decide +kernel)) (by decide +kernel)
theorem m_28 : Cond.fieldLink "WasmReader$Exports" 21 "WasmReader$Exports" "names" "[B" ∈ xtb := x_in (List.mem_of_getElem? (i := 293) (by decide +kernel)) (by decide +kernel)
theorem m_29 : Cond.methodLink "WasmReader$Exports" 3 objectInit ∈ xtb := x_in (List.mem_of_getElem? (i := 281) (by decide +kernel)) (by decide +kernel)
theorem m_30 : Cond.fieldLink "WasmReader$Segments" 9 "WasmReader$Segments" "target" "[I" ∈ xtb := x_in (List.mem_of_getElem? (i := 315) (by decide +kernel)) (by decide +kernel)
theorem m_31 : Cond.fieldLink "WasmReader$Segments" 15 "WasmReader$Segments" "offsetOpcode" "[I" ∈ xtb := x_in (List.mem_of_getElem? (i := 317) (by decide +kernel)) (by decide +kernel)
theorem m_32 : Cond.fieldLink "WasmReader$Segments" 18 "WasmReader$Segments" "offsetValue" "[J" ∈ xtb := x_in (List.mem_of_getElem? (i := 319) (by decide +kernel)) (by decide +kernel)
theorem m_33 : Cond.fieldLink "WasmReader$Segments" 22 "WasmReader$Segments" "highest" "[I" ∈ xtb := x_in (List.mem_of_getElem? (i := 321) (by decide +kernel)) (by decide +kernel)
theorem m_34 : Cond.methodLink "WasmReader$Segments" 3 objectInit ∈ xtb := x_in (List.mem_of_getElem? (i := 310) (by decide +kernel)) (by decide +kernel)
theorem m_35 : Cond.methodLink "WasmReader$Sized" 1 objectInit ∈ xtb := x_in (List.mem_of_getElem? (i := 339) (by decide +kernel)) (by decide +kernel)
theorem m_36 : Cond.fieldLink "WasmReader$TypeStack" 9 "WasmReader$TypeStack" "operands" "[B" ∈ xtb := x_in (List.mem_of_getElem? (i := 424) (by decide +kernel)) (by decide +kernel)
theorem m_37 : Cond.fieldLink "WasmReader$TypeStack" 15 "WasmReader$TypeStack" "opener" "[I" ∈ xtb := x_in (List.mem_of_getElem? (i := 425) (by decide +kernel)) (by decide +kernel)
theorem m_38 : Cond.fieldLink "WasmReader$TypeStack" 19 "WasmReader$TypeStack" "result" "[I" ∈ xtb := x_in (List.mem_of_getElem? (i := 426) (by decide +kernel)) (by decide +kernel)
theorem m_39 : Cond.fieldLink "WasmReader$TypeStack" 22 "WasmReader$TypeStack" "floor" "[I" ∈ xtb := x_in (List.mem_of_getElem? (i := 427) (by decide +kernel)) (by decide +kernel)
theorem m_40 : Cond.fieldLink "WasmReader$TypeStack" 25 "WasmReader$TypeStack" "unreachable" "[Z" ∈ xtb := x_in (List.mem_of_getElem? (i := 428) (by decide +kernel)) (by decide +kernel)
theorem m_41 : Cond.methodLink "WasmReader$TypeStack" 3 objectInit ∈ xtb := x_in (List.mem_of_getElem? (i := 423) (by decide +kernel)) (by decide +kernel)
theorem m_42 : Cond.fieldLink "WasmReader$WasmModule" 12 "WasmReader$WasmModule" "types" "LWasmReader$Types;" ∈ xtb := x_in (List.mem_of_getElem? (i := 354) (by decide +kernel)) (by decide +kernel)
theorem m_43 : Cond.fieldLink "WasmReader$WasmModule" 21 "WasmReader$WasmModule" "functions" "LWasmReader$Functions;" ∈ xtb := x_in (List.mem_of_getElem? (i := 358) (by decide +kernel)) (by decide +kernel)
theorem m_44 : Cond.fieldLink "WasmReader$WasmModule" 28 "WasmReader$WasmModule" "globals" "LWasmReader$Globals;" ∈ xtb := x_in (List.mem_of_getElem? (i := 362) (by decide +kernel)) (by decide +kernel)
theorem m_45 : Cond.fieldLink "WasmReader$WasmModule" 35 "WasmReader$WasmModule" "exports" "LWasmReader$Exports;" ∈ xtb := x_in (List.mem_of_getElem? (i := 366) (by decide +kernel)) (by decide +kernel)
theorem m_46 : Cond.fieldLink "WasmReader$WasmModule" 42 "WasmReader$WasmModule" "elements" "LWasmReader$Segments;" ∈ xtb := x_in (List.mem_of_getElem? (i := 370) (by decide +kernel)) (by decide +kernel)
theorem m_47 : Cond.fieldLink "WasmReader$WasmModule" 46 "WasmReader$WasmModule" "data" "LWasmReader$Segments;" ∈ xtb := x_in (List.mem_of_getElem? (i := 374) (by decide +kernel)) (by decide +kernel)
theorem m_48 : Cond.fieldLink "WasmReader$WasmModule" 52 "WasmReader$WasmModule" "tables" "LWasmReader$Sized;" ∈ xtb := x_in (List.mem_of_getElem? (i := 378) (by decide +kernel)) (by decide +kernel)
theorem m_49 : Cond.fieldLink "WasmReader$WasmModule" 56 "WasmReader$WasmModule" "memories" "LWasmReader$Sized;" ∈ xtb := x_in (List.mem_of_getElem? (i := 382) (by decide +kernel)) (by decide +kernel)
theorem m_50 : Cond.methodLink "WasmReader$WasmModule" 3 objectInit ∈ xtb := x_in (List.mem_of_getElem? (i := 153) (by decide +kernel)) (by decide +kernel)
theorem m_51 : Cond.classLink "WasmReader$WasmModule" 9 "WasmReader$Types" ∈ xtb := x_in (List.mem_of_getElem? (i := 154) (by decide +kernel)) (by decide +kernel)
theorem m_52 : Cond.instantiable "WasmReader$Types" 4 ∈ xtb := x_in (List.mem_of_getElem? (i := 155) (by decide +kernel)) (by decide +kernel)
theorem m_53 : Cond.initialized "WasmReader$Types" ∈ xtb := x_in (List.mem_of_getElem? (i := 91) (by decide +kernel)) (by decide +kernel)
theorem m_54 : Cond.methodLinkNest "WasmReader$WasmModule" 11 y_Types_init "WasmReader" ∈ xtb := x_in (List.mem_of_getElem? (i := 156) (by decide +kernel)) (by decide +kernel)
theorem m_55 : Cond.code y_Types_init prog_10_method_1_code 1 none ∈ xtb := x_in (List.mem_of_getElem? (i := 158) (by decide +kernel)) (by decide +kernel)
theorem m_56 : Cond.instanceMethod y_Types_init ∈ xtb := x_in (List.mem_of_getElem? (i := 157) (by decide +kernel)) (by decide +kernel)
theorem m_57 : Cond.classLink "WasmReader$WasmModule" 18 "WasmReader$Functions" ∈ xtb := x_in (List.mem_of_getElem? (i := 182) (by decide +kernel)) (by decide +kernel)
theorem m_58 : Cond.instantiable "WasmReader$Functions" 10 ∈ xtb := x_in (List.mem_of_getElem? (i := 183) (by decide +kernel)) (by decide +kernel)
theorem m_59 : Cond.initialized "WasmReader$Functions" ∈ xtb := x_in (List.mem_of_getElem? (i := 92) (by decide +kernel)) (by decide +kernel)
theorem m_60 : Cond.methodLinkNest "WasmReader$WasmModule" 20 y_Functions_init "WasmReader" ∈ xtb := x_in (List.mem_of_getElem? (i := 184) (by decide +kernel)) (by decide +kernel)
theorem m_61 : Cond.code y_Functions_init prog_4_method_1_code 1 none ∈ xtb := x_in (List.mem_of_getElem? (i := 186) (by decide +kernel)) (by decide +kernel)
theorem m_62 : Cond.instanceMethod y_Functions_init ∈ xtb := x_in (List.mem_of_getElem? (i := 185) (by decide +kernel)) (by decide +kernel)
theorem m_63 : Cond.classLink "WasmReader$WasmModule" 25 "WasmReader$Globals" ∈ xtb := x_in (List.mem_of_getElem? (i := 236) (by decide +kernel)) (by decide +kernel)
theorem m_64 : Cond.instantiable "WasmReader$Globals" 6 ∈ xtb := x_in (List.mem_of_getElem? (i := 237) (by decide +kernel)) (by decide +kernel)
theorem m_65 : Cond.initialized "WasmReader$Globals" ∈ xtb := x_in (List.mem_of_getElem? (i := 93) (by decide +kernel)) (by decide +kernel)
theorem m_66 : Cond.methodLinkNest "WasmReader$WasmModule" 27 y_Globals_init "WasmReader" ∈ xtb := x_in (List.mem_of_getElem? (i := 238) (by decide +kernel)) (by decide +kernel)
theorem m_67 : Cond.code y_Globals_init prog_5_method_1_code 1 none ∈ xtb := x_in (List.mem_of_getElem? (i := 240) (by decide +kernel)) (by decide +kernel)
theorem m_68 : Cond.instanceMethod y_Globals_init ∈ xtb := x_in (List.mem_of_getElem? (i := 239) (by decide +kernel)) (by decide +kernel)
theorem m_69 : Cond.classLink "WasmReader$WasmModule" 32 "WasmReader$Exports" ∈ xtb := x_in (List.mem_of_getElem? (i := 276) (by decide +kernel)) (by decide +kernel)
theorem m_70 : Cond.instantiable "WasmReader$Exports" 5 ∈ xtb := x_in (List.mem_of_getElem? (i := 277) (by decide +kernel)) (by decide +kernel)
theorem m_71 : Cond.initialized "WasmReader$Exports" ∈ xtb := x_in (List.mem_of_getElem? (i := 94) (by decide +kernel)) (by decide +kernel)
theorem m_72 : Cond.methodLinkNest "WasmReader$WasmModule" 34 y_Exports_init "WasmReader" ∈ xtb := x_in (List.mem_of_getElem? (i := 278) (by decide +kernel)) (by decide +kernel)
theorem m_73 : Cond.code y_Exports_init prog_3_method_1_code 1 none ∈ xtb := x_in (List.mem_of_getElem? (i := 280) (by decide +kernel)) (by decide +kernel)
theorem m_74 : Cond.instanceMethod y_Exports_init ∈ xtb := x_in (List.mem_of_getElem? (i := 279) (by decide +kernel)) (by decide +kernel)
theorem m_75 : Cond.classLink "WasmReader$WasmModule" 39 "WasmReader$Segments" ∈ xtb := x_in (List.mem_of_getElem? (i := 305) (by decide +kernel)) (by decide +kernel)
theorem m_76 : Cond.instantiable "WasmReader$Segments" 5 ∈ xtb := x_in (List.mem_of_getElem? (i := 306) (by decide +kernel)) (by decide +kernel)
theorem m_77 : Cond.initialized "WasmReader$Segments" ∈ xtb := x_in (List.mem_of_getElem? (i := 95) (by decide +kernel)) (by decide +kernel)
theorem m_78 : Cond.methodLinkNest "WasmReader$WasmModule" 41 y_Segments_init "WasmReader" ∈ xtb := x_in (List.mem_of_getElem? (i := 307) (by decide +kernel)) (by decide +kernel)
theorem m_79 : Cond.code y_Segments_init prog_7_method_1_code 1 none ∈ xtb := x_in (List.mem_of_getElem? (i := 309) (by decide +kernel)) (by decide +kernel)
theorem m_80 : Cond.instanceMethod y_Segments_init ∈ xtb := x_in (List.mem_of_getElem? (i := 308) (by decide +kernel)) (by decide +kernel)
theorem m_81 : Cond.classLink "WasmReader$WasmModule" 49 "WasmReader$Sized" ∈ xtb := x_in (List.mem_of_getElem? (i := 334) (by decide +kernel)) (by decide +kernel)
theorem m_82 : Cond.instantiable "WasmReader$Sized" 3 ∈ xtb := x_in (List.mem_of_getElem? (i := 335) (by decide +kernel)) (by decide +kernel)
theorem m_83 : Cond.initialized "WasmReader$Sized" ∈ xtb := x_in (List.mem_of_getElem? (i := 96) (by decide +kernel)) (by decide +kernel)
theorem m_84 : Cond.methodLinkNest "WasmReader$WasmModule" 51 y_Sized_init "WasmReader" ∈ xtb := x_in (List.mem_of_getElem? (i := 336) (by decide +kernel)) (by decide +kernel)
theorem m_85 : Cond.code y_Sized_init prog_8_method_1_code 1 none ∈ xtb := x_in (List.mem_of_getElem? (i := 338) (by decide +kernel)) (by decide +kernel)
theorem m_86 : Cond.instanceMethod y_Sized_init ∈ xtb := x_in (List.mem_of_getElem? (i := 337) (by decide +kernel)) (by decide +kernel)
theorem m_87 : Cond.fieldLink "WasmReader" 10 "WasmReader" "cursor" "LWasmReader$Cursor;" ∈ xtb := x_in (List.mem_of_getElem? (i := 450) (by decide +kernel)) (by decide +kernel)
theorem m_88 : Cond.fieldLink "WasmReader" 19 "WasmReader" "module" "LWasmReader$WasmModule;" ∈ xtb := x_in (List.mem_of_getElem? (i := 451) (by decide +kernel)) (by decide +kernel)
theorem m_89 : Cond.fieldLink "WasmReader" 23 "WasmReader" "elseMayCome" "[Z" ∈ xtb := x_in (List.mem_of_getElem? (i := 452) (by decide +kernel)) (by decide +kernel)
theorem m_90 : Cond.fieldLink "WasmReader" 30 "WasmReader" "stack" "LWasmReader$TypeStack;" ∈ xtb := x_in (List.mem_of_getElem? (i := 453) (by decide +kernel)) (by decide +kernel)
theorem m_91 : Cond.methodLink "WasmReader" 1 objectInit ∈ xtb := x_in (List.mem_of_getElem? (i := 116) (by decide +kernel)) (by decide +kernel)
theorem m_92 : Cond.classLink "WasmReader" 7 "WasmReader$Cursor" ∈ xtb := x_in (List.mem_of_getElem? (i := 119) (by decide +kernel)) (by decide +kernel)
theorem m_93 : Cond.instantiable "WasmReader$Cursor" 5 ∈ xtb := x_in (List.mem_of_getElem? (i := 120) (by decide +kernel)) (by decide +kernel)
theorem m_94 : Cond.initialized "WasmReader$Cursor" ∈ xtb := x_in (List.mem_of_getElem? (i := 89) (by decide +kernel)) (by decide +kernel)
theorem m_95 : Cond.methodLinkNest "WasmReader" 9 y_Cursor_init "WasmReader" ∈ xtb := x_in (List.mem_of_getElem? (i := 121) (by decide +kernel)) (by decide +kernel)
theorem m_96 : Cond.code y_Cursor_init prog_2_method_1_code 1 none ∈ xtb := x_in (List.mem_of_getElem? (i := 123) (by decide +kernel)) (by decide +kernel)
theorem m_97 : Cond.instanceMethod y_Cursor_init ∈ xtb := x_in (List.mem_of_getElem? (i := 122) (by decide +kernel)) (by decide +kernel)
theorem m_98 : Cond.classLink "WasmReader" 16 "WasmReader$WasmModule" ∈ xtb := x_in (List.mem_of_getElem? (i := 148) (by decide +kernel)) (by decide +kernel)
theorem m_99 : Cond.instantiable "WasmReader$WasmModule" 11 ∈ xtb := x_in (List.mem_of_getElem? (i := 149) (by decide +kernel)) (by decide +kernel)
theorem m_100 : Cond.initialized "WasmReader$WasmModule" ∈ xtb := x_in (List.mem_of_getElem? (i := 90) (by decide +kernel)) (by decide +kernel)
theorem m_101 : Cond.methodLinkNest "WasmReader" 18 y_WasmModule_init "WasmReader" ∈ xtb := x_in (List.mem_of_getElem? (i := 150) (by decide +kernel)) (by decide +kernel)
theorem m_102 : Cond.code y_WasmModule_init prog_12_method_1_code 1 none ∈ xtb := x_in (List.mem_of_getElem? (i := 152) (by decide +kernel)) (by decide +kernel)
theorem m_103 : Cond.instanceMethod y_WasmModule_init ∈ xtb := x_in (List.mem_of_getElem? (i := 151) (by decide +kernel)) (by decide +kernel)
theorem m_104 : Cond.classLink "WasmReader" 27 "WasmReader$TypeStack" ∈ xtb := x_in (List.mem_of_getElem? (i := 418) (by decide +kernel)) (by decide +kernel)
theorem m_105 : Cond.instantiable "WasmReader$TypeStack" 8 ∈ xtb := x_in (List.mem_of_getElem? (i := 419) (by decide +kernel)) (by decide +kernel)
theorem m_106 : Cond.initialized "WasmReader$TypeStack" ∈ xtb := x_in (List.mem_of_getElem? (i := 97) (by decide +kernel)) (by decide +kernel)
theorem m_107 : Cond.methodLinkNest "WasmReader" 29 y_TypeStack_init "WasmReader" ∈ xtb := x_in (List.mem_of_getElem? (i := 420) (by decide +kernel)) (by decide +kernel)
theorem m_108 : Cond.code y_TypeStack_init prog_9_method_1_code 1 none ∈ xtb := x_in (List.mem_of_getElem? (i := 422) (by decide +kernel)) (by decide +kernel)
theorem m_109 : Cond.instanceMethod y_TypeStack_init ∈ xtb := x_in (List.mem_of_getElem? (i := 421) (by decide +kernel)) (by decide +kernel)
theorem m_110 : Cond.fieldLink "WasmReaderModel$Unit" 9 "WasmReaderModel$Unit" "b" "[B" ∈ xtb := x_in (List.mem_of_getElem? (i := 1111) (by decide +kernel)) (by decide +kernel)
theorem m_111 : Cond.fieldLink "WasmReaderModel$Unit" 15 "WasmReaderModel$Unit" "params" "[I" ∈ xtb := x_in (List.mem_of_getElem? (i := 1126) (by decide +kernel)) (by decide +kernel)
theorem m_112 : Cond.fieldLink "WasmReaderModel$Unit" 19 "WasmReaderModel$Unit" "param" "[I" ∈ xtb := x_in (List.mem_of_getElem? (i := 1128) (by decide +kernel)) (by decide +kernel)
theorem m_113 : Cond.fieldLink "WasmReaderModel$Unit" 22 "WasmReaderModel$Unit" "result" "[I" ∈ xtb := x_in (List.mem_of_getElem? (i := 1130) (by decide +kernel)) (by decide +kernel)
theorem m_114 : Cond.fieldLink "WasmReaderModel$Unit" 25 "WasmReaderModel$Unit" "iModule" "[I" ∈ xtb := x_in (List.mem_of_getElem? (i := 1132) (by decide +kernel)) (by decide +kernel)
theorem m_115 : Cond.fieldLink "WasmReaderModel$Unit" 28 "WasmReaderModel$Unit" "iModuleLong" "[I" ∈ xtb := x_in (List.mem_of_getElem? (i := 1134) (by decide +kernel)) (by decide +kernel)
theorem m_116 : Cond.fieldLink "WasmReaderModel$Unit" 31 "WasmReaderModel$Unit" "iName" "[I" ∈ xtb := x_in (List.mem_of_getElem? (i := 1136) (by decide +kernel)) (by decide +kernel)
theorem m_117 : Cond.fieldLink "WasmReaderModel$Unit" 34 "WasmReaderModel$Unit" "iNameLong" "[I" ∈ xtb := x_in (List.mem_of_getElem? (i := 1138) (by decide +kernel)) (by decide +kernel)
theorem m_118 : Cond.fieldLink "WasmReaderModel$Unit" 37 "WasmReaderModel$Unit" "iSort" "[I" ∈ xtb := x_in (List.mem_of_getElem? (i := 1140) (by decide +kernel)) (by decide +kernel)
theorem m_119 : Cond.fieldLink "WasmReaderModel$Unit" 40 "WasmReaderModel$Unit" "iFirst" "[I" ∈ xtb := x_in (List.mem_of_getElem? (i := 1142) (by decide +kernel)) (by decide +kernel)
theorem m_120 : Cond.fieldLink "WasmReaderModel$Unit" 43 "WasmReaderModel$Unit" "iSecond" "[J" ∈ xtb := x_in (List.mem_of_getElem? (i := 1144) (by decide +kernel)) (by decide +kernel)
theorem m_121 : Cond.fieldLink "WasmReaderModel$Unit" 47 "WasmReaderModel$Unit" "fType" "[I" ∈ xtb := x_in (List.mem_of_getElem? (i := 1146) (by decide +kernel)) (by decide +kernel)
theorem m_122 : Cond.fieldLink "WasmReaderModel$Unit" 50 "WasmReaderModel$Unit" "fImport" "[I" ∈ xtb := x_in (List.mem_of_getElem? (i := 1148) (by decide +kernel)) (by decide +kernel)
theorem m_123 : Cond.fieldLink "WasmReaderModel$Unit" 53 "WasmReaderModel$Unit" "gType" "[I" ∈ xtb := x_in (List.mem_of_getElem? (i := 1150) (by decide +kernel)) (by decide +kernel)
theorem m_124 : Cond.fieldLink "WasmReaderModel$Unit" 56 "WasmReaderModel$Unit" "gImport" "[I" ∈ xtb := x_in (List.mem_of_getElem? (i := 1152) (by decide +kernel)) (by decide +kernel)
theorem m_125 : Cond.fieldLink "WasmReaderModel$Unit" 59 "WasmReaderModel$Unit" "gOp" "[I" ∈ xtb := x_in (List.mem_of_getElem? (i := 1154) (by decide +kernel)) (by decide +kernel)
theorem m_126 : Cond.fieldLink "WasmReaderModel$Unit" 62 "WasmReaderModel$Unit" "gMutable" "[Z" ∈ xtb := x_in (List.mem_of_getElem? (i := 1156) (by decide +kernel)) (by decide +kernel)
theorem m_127 : Cond.fieldLink "WasmReaderModel$Unit" 66 "WasmReaderModel$Unit" "gValue" "[J" ∈ xtb := x_in (List.mem_of_getElem? (i := 1158) (by decide +kernel)) (by decide +kernel)
theorem m_128 : Cond.fieldLink "WasmReaderModel$Unit" 69 "WasmReaderModel$Unit" "eName" "[I" ∈ xtb := x_in (List.mem_of_getElem? (i := 1166) (by decide +kernel)) (by decide +kernel)
theorem m_129 : Cond.fieldLink "WasmReaderModel$Unit" 72 "WasmReaderModel$Unit" "eNameLong" "[I" ∈ xtb := x_in (List.mem_of_getElem? (i := 1168) (by decide +kernel)) (by decide +kernel)
theorem m_130 : Cond.fieldLink "WasmReaderModel$Unit" 75 "WasmReaderModel$Unit" "eSort" "[I" ∈ xtb := x_in (List.mem_of_getElem? (i := 1170) (by decide +kernel)) (by decide +kernel)
theorem m_131 : Cond.fieldLink "WasmReaderModel$Unit" 78 "WasmReaderModel$Unit" "eIndex" "[I" ∈ xtb := x_in (List.mem_of_getElem? (i := 1172) (by decide +kernel)) (by decide +kernel)
theorem m_132 : Cond.fieldLink "WasmReaderModel$Unit" 81 "WasmReaderModel$Unit" "sOp" "[I" ∈ xtb := x_in (List.mem_of_getElem? (i := 1174) (by decide +kernel)) (by decide +kernel)
theorem m_133 : Cond.fieldLink "WasmReaderModel$Unit" 84 "WasmReaderModel$Unit" "sMany" "[I" ∈ xtb := x_in (List.mem_of_getElem? (i := 1176) (by decide +kernel)) (by decide +kernel)
theorem m_134 : Cond.fieldLink "WasmReaderModel$Unit" 87 "WasmReaderModel$Unit" "sAt" "[I" ∈ xtb := x_in (List.mem_of_getElem? (i := 1178) (by decide +kernel)) (by decide +kernel)
theorem m_135 : Cond.fieldLink "WasmReaderModel$Unit" 90 "WasmReaderModel$Unit" "sIndex" "[I" ∈ xtb := x_in (List.mem_of_getElem? (i := 1180) (by decide +kernel)) (by decide +kernel)
theorem m_136 : Cond.fieldLink "WasmReaderModel$Unit" 93 "WasmReaderModel$Unit" "dOp" "[I" ∈ xtb := x_in (List.mem_of_getElem? (i := 1182) (by decide +kernel)) (by decide +kernel)
theorem m_137 : Cond.fieldLink "WasmReaderModel$Unit" 96 "WasmReaderModel$Unit" "dMany" "[I" ∈ xtb := x_in (List.mem_of_getElem? (i := 1184) (by decide +kernel)) (by decide +kernel)
theorem m_138 : Cond.fieldLink "WasmReaderModel$Unit" 99 "WasmReaderModel$Unit" "dAt" "[I" ∈ xtb := x_in (List.mem_of_getElem? (i := 1186) (by decide +kernel)) (by decide +kernel)
theorem m_139 : Cond.fieldLink "WasmReaderModel$Unit" 102 "WasmReaderModel$Unit" "dIndex" "[I" ∈ xtb := x_in (List.mem_of_getElem? (i := 1188) (by decide +kernel)) (by decide +kernel)
theorem m_140 : Cond.fieldLink "WasmReaderModel$Unit" 105 "WasmReaderModel$Unit" "sValue" "[J" ∈ xtb := x_in (List.mem_of_getElem? (i := 1190) (by decide +kernel)) (by decide +kernel)
theorem m_141 : Cond.fieldLink "WasmReaderModel$Unit" 108 "WasmReaderModel$Unit" "dValue" "[J" ∈ xtb := x_in (List.mem_of_getElem? (i := 1192) (by decide +kernel)) (by decide +kernel)
theorem m_142 : Cond.fieldLink "WasmReaderModel$Unit" 111 "WasmReaderModel$Unit" "bAt" "[I" ∈ xtb := x_in (List.mem_of_getElem? (i := 1194) (by decide +kernel)) (by decide +kernel)
theorem m_143 : Cond.fieldLink "WasmReaderModel$Unit" 114 "WasmReaderModel$Unit" "bEnd" "[I" ∈ xtb := x_in (List.mem_of_getElem? (i := 1196) (by decide +kernel)) (by decide +kernel)
theorem m_144 : Cond.fieldLink "WasmReaderModel$Unit" 117 "WasmReaderModel$Unit" "bLocals" "[I" ∈ xtb := x_in (List.mem_of_getElem? (i := 1198) (by decide +kernel)) (by decide +kernel)
theorem m_145 : Cond.fieldLink "WasmReaderModel$Unit" 120 "WasmReaderModel$Unit" "local" "[I" ∈ xtb := x_in (List.mem_of_getElem? (i := 1200) (by decide +kernel)) (by decide +kernel)
theorem m_146 : Cond.fieldLink "WasmReaderModel$Unit" 123 "WasmReaderModel$Unit" "otherwise" "[I" ∈ xtb := x_in (List.mem_of_getElem? (i := 1202) (by decide +kernel)) (by decide +kernel)
theorem m_147 : Cond.fieldLink "WasmReaderModel$Unit" 126 "WasmReaderModel$Unit" "ends" "[I" ∈ xtb := x_in (List.mem_of_getElem? (i := 1204) (by decide +kernel)) (by decide +kernel)
theorem m_148 : Cond.methodLink "WasmReaderModel$Unit" 3 objectInit ∈ xtb := x_in (List.mem_of_getElem? (i := 1110) (by decide +kernel)) (by decide +kernel)
theorem m_149 : Cond.fieldLink "WasmReaderModel" 9 "WasmReaderModel" "row" "[B" ∈ xtb := x_in (List.mem_of_getElem? (i := 1321) (by decide +kernel)) (by decide +kernel)
theorem m_150 : Cond.fieldLink "WasmReaderModel" 16 "WasmReaderModel" "u" "LWasmReaderModel$Unit;" ∈ xtb := x_in (List.mem_of_getElem? (i := 1325) (by decide +kernel)) (by decide +kernel)
theorem m_151 : Cond.fieldLink "WasmReaderModel" 20 "WasmReaderModel" "blockAt" "[I" ∈ xtb := x_in (List.mem_of_getElem? (i := 1335) (by decide +kernel)) (by decide +kernel)
theorem m_152 : Cond.fieldLink "WasmReaderModel" 24 "WasmReaderModel" "blockKind" "[I" ∈ xtb := x_in (List.mem_of_getElem? (i := 1336) (by decide +kernel)) (by decide +kernel)
theorem m_153 : Cond.fieldLink "WasmReaderModel" 27 "WasmReaderModel" "vt" "[I" ∈ xtb := x_in (List.mem_of_getElem? (i := 1337) (by decide +kernel)) (by decide +kernel)
theorem m_154 : Cond.fieldLink "WasmReaderModel" 30 "WasmReaderModel" "bTakes" "[I" ∈ xtb := x_in (List.mem_of_getElem? (i := 1338) (by decide +kernel)) (by decide +kernel)
theorem m_155 : Cond.fieldLink "WasmReaderModel" 33 "WasmReaderModel" "bLeaves" "[I" ∈ xtb := x_in (List.mem_of_getElem? (i := 1339) (by decide +kernel)) (by decide +kernel)
theorem m_156 : Cond.fieldLink "WasmReaderModel" 36 "WasmReaderModel" "bHeight" "[I" ∈ xtb := x_in (List.mem_of_getElem? (i := 1340) (by decide +kernel)) (by decide +kernel)
theorem m_157 : Cond.fieldLink "WasmReaderModel" 39 "WasmReaderModel" "bOp" "[I" ∈ xtb := x_in (List.mem_of_getElem? (i := 1341) (by decide +kernel)) (by decide +kernel)
theorem m_158 : Cond.fieldLink "WasmReaderModel" 42 "WasmReaderModel" "bDead" "[Z" ∈ xtb := x_in (List.mem_of_getElem? (i := 1342) (by decide +kernel)) (by decide +kernel)
theorem m_159 : Cond.methodLink "WasmReaderModel" 1 objectInit ∈ xtb := x_in (List.mem_of_getElem? (i := 1104) (by decide +kernel)) (by decide +kernel)
theorem m_160 : Cond.classLink "WasmReaderModel" 13 "WasmReaderModel$Unit" ∈ xtb := x_in (List.mem_of_getElem? (i := 1105) (by decide +kernel)) (by decide +kernel)
theorem m_161 : Cond.instantiable "WasmReaderModel$Unit" 57 ∈ xtb := x_in (List.mem_of_getElem? (i := 1106) (by decide +kernel)) (by decide +kernel)
theorem m_162 : Cond.initialized "WasmReaderModel$Unit" ∈ xtb := x_in (List.mem_of_getElem? (i := 99) (by decide +kernel)) (by decide +kernel)
theorem m_163 : Cond.methodLinkNest "WasmReaderModel" 15 y_Unit_init "WasmReaderModel" ∈ xtb := x_in (List.mem_of_getElem? (i := 1107) (by decide +kernel)) (by decide +kernel)
theorem m_164 : Cond.code y_Unit_init prog_16_method_1_code 1 none ∈ xtb := x_in (List.mem_of_getElem? (i := 1109) (by decide +kernel)) (by decide +kernel)
theorem m_165 : Cond.instanceMethod y_Unit_init ∈ xtb := x_in (List.mem_of_getElem? (i := 1108) (by decide +kernel)) (by decide +kernel)
theorem x_arr_byte (n : Nat) : ∀ cA : ClassId, vp_cell cA (n, .inl (fun _ => 0)) = arrV cA n (fun _ => defaultValue .byte) := fun _ => rfl
theorem x_arr_int (n : Nat) : ∀ cA : ClassId, vp_cell cA (n, .inl (fun _ => 0)) = arrV cA n (fun _ => defaultValue .int) := fun _ => rfl
theorem x_arr_boolean (n : Nat) : ∀ cA : ClassId, vp_cell cA (n, .inl (fun _ => 0)) = arrV cA n (fun _ => defaultValue .boolean) := fun _ => rfl
theorem x_arr_long (n : Nat) : ∀ cA : ClassId, vp_cell cA (n, .inr (.inl (fun _ => 0))) = arrV cA n (fun _ => defaultValue .long) := fun _ => rfl
end
section
/-! EXCEPTIONS OVER THE KIT'S JUDGEMENTS: contracts of methods that return or throw; an exception in flight; how it is thrown, caught, passed on -/
section XE
variable {p : Program} {l : Launch} {e : Env} {R : Room} {s : State} {m : MethodId} {args : Array Value} {below : List Frame} {meth : Method} {c : Code} {H : Heap} {locs : List Loc} {cells slots : Nat} {Q : State → Prop}
/-- the frame of an end of whatever kind -/
def xe_Fr (first t : State) (L : List Loc) (k n : Nat) : Prop := first.WarmedH t.vm ∧ first.sameButNew ({ t with vm := first.vm } : State) L k n
/-- a contract whose end may be a throw -/
def MetX (l : Launch) (y : MethodName) (ws : List Cond) (rm : Room) (Pc : Array Value → State → Prop) (Qc : Array Value → State → Outcome → State → Prop) (mc ms : Nat) (free : Addr → Prop) : Prop :=
  MetFree l y (headSpec ws rm) Pc (fun _ _ _ _ _ => True) (fun a st o t => Qc a st o t ∧ ∃ L, xe_Fr st t L mc ms ∧ ∀ q ∈ L, free q.base)
def MQX (below : List Frame) (Qc : Array Value → State → Outcome → State → Prop) (a : Array Value) (s : State) (mc ms : Nat) (free : Addr → Prop) : State → Prop := fun t =>
  ∃ o, t.status = .running ∧ Ended t below o ∧ Qc a s o t ∧ ∃ L, xe_Fr s t L mc ms ∧ ∀ q ∈ L, free q.base
theorem MQ.x {Qc : Array Value → State → Outcome → State → Prop} {a : Array Value} {mc ms : Nat} {free : Addr → Prop} {t : State} (h : MQ below Qc a s mc ms free t) : MQX below Qc a s mc ms free t := by
  obtain ⟨o, h1, h2, h3, L, h4, h5⟩ := h
  exact ⟨o, h1, h2, h3, L, h4.2, h5⟩
theorem W.mono {Q Q' : State → Prop} {g : JFrame} (h : ∀ t, Q t → Q' t) (k : W p l e R s m args below meth c H locs cells slots Q g) : W p l e R s m args below meth c H locs cells slots Q' g := by
  intro T hT X
  obtain ⟨t, a, b⟩ := k T hT X
  exact ⟨t, a, h t b⟩
theorem W.x {Qc : Array Value → State → Outcome → State → Prop} {a : Array Value} {mc ms : Nat} {free : Addr → Prop} {g : JFrame} (k : W p l e R s m args below meth c H locs cells slots (MQ below Qc a s mc ms free) g) :
    W p l e R s m args below meth c H locs cells slots (MQX below Qc a s mc ms free) g := W.mono (fun _ h => MQ.x h) k
theorem Met.x {y : MethodName} {ws : List Cond} {rm : Room} {Pc : Array Value → State → Prop} {Qc : Array Value → State → Outcome → State → Prop} {mc ms : Nat} {free : Addr → Prop} (h : Met l y ws rm Pc Qc mc ms free) : MetX l y ws rm Pc Qc mc ms free := by
  intro p e ha hc hk s m args below hf happ hP hK
  obtain ⟨n, o, h1, h2, h3, h4, L, h5, h6⟩ := h p e ha hc hk s m args below hf happ hP hK
  exact ⟨n, o, h1, h2, h3, h4, L, h5.2, h6⟩
theorem MetX.ofW {y : MethodName} {ws ws' : List Cond} {rm : Room} {Pc : Array Value → State → Prop} {Qc : Array Value → State → Outcome → State → Prop} {mc ms : Nat} {free : Addr → Prop} {cc : ByteArray} {maxL : Nat} {ret : Option FieldType}
    (hy : plainName y.cls = true) (hw : ws = Cond.code y cc maxL ret :: ws')
    (body : ∀ p e s m args below meth c s₁, BodyLoose p l y (headSpec ws rm) cc maxL ret e s m args below meth c s₁ → c.maxLocals = maxL → c.exceptionTable.toList = [] → Pc args s →
      W p l e (headSpec ws rm).room s m args below meth c s.heap [] 0 0 (MQX below Qc args s mc ms free) (entryFrame m args maxL)) : MetX l y ws rm Pc Qc mc ms free := by
  refine MetFree.of_bodyS (code := cc) (maxLocals := maxL) (ret := ret) hy ?_ ?_
  · intro args s m h hn
    obtain ⟨meth, c, h1, h2, h3, h4, h5, h6, -, -⟩ := Cond.code_spec hn (atoms_spec (ws := ws) h _ (by rw [hw]; exact List.mem_cons_self))
    exact ⟨meth, c, h1, h2, h3, h4, h5, h6⟩
  · intro p e s m args below meth c s₁ B hml hP _
    have hh0 : s₁.heap = s.heap := by rw [B.state]; rfl
    have htab : c.exceptionTable.toList = [] := by
      obtain ⟨meth', c', h1, h2, -, -, -, -, h7, -⟩ := Cond.code_spec B.named (atoms_spec (ws := ws) B.pre _ (by rw [hw]; exact List.mem_cons_self))
      cases h1.symm.trans B.method
      cases h2.symm.trans (Stand.of_body B).code
      simpa using h7
    obtain ⟨t, a1, o, b1, b2, b3⟩ := body p e s m args below meth c s₁ B hml htab hP s₁ hh0 (Stand.of_body B)
    exact ⟨t, o, a1, b1, b2, ⟨b3.1, b3.2⟩⟩
/-- the same of a method with handlers -/
theorem MetX.ofWH {y : MethodName} {ws ws' : List Cond} {rm : Room} {Pc : Array Value → State → Prop} {Qc : Array Value → State → Outcome → State → Prop} {mc ms : Nat} {free : Addr → Prop} {cc : ByteArray} {maxL : Nat} {ret : Option FieldType} {hs : List (Nat × Nat × Nat × Nat)}
    (hy : plainName y.cls = true) (hw : ws = Cond.codeWith y cc maxL ret hs :: ws')
    (body : ∀ p e s m args below meth c s₁, BodyLoose p l y (headSpec ws rm) cc maxL ret e s m args below meth c s₁ → c.maxLocals = maxL → c.exceptionTable.toList = tableOf hs → Pc args s →
      W p l e (headSpec ws rm).room s m args below meth c s.heap [] 0 0 (MQX below Qc args s mc ms free) (entryFrame m args maxL)) : MetX l y ws rm Pc Qc mc ms free := by
  refine MetFree.of_bodyS (code := cc) (maxLocals := maxL) (ret := ret) hy ?_ ?_
  · intro args s m h hn
    obtain ⟨m', meth, c, hn', h1, h2, h3, h4, -, h5, h6, -⟩ := Cond.codeWith_spec (atoms_spec (ws := ws) h _ (by rw [hw]; exact List.mem_cons_self))
    cases hn.symm.trans hn'
    exact ⟨meth, c, h1, h2, h3, h4, h5, h6⟩
  · intro p e s m args below meth c s₁ B hml hP _
    have hh0 : s₁.heap = s.heap := by rw [B.state]; rfl
    have htab : c.exceptionTable.toList = tableOf hs := by
      obtain ⟨m', meth', c', hn', h1, h2, -, -, h7, -, -, -⟩ := Cond.codeWith_spec (atoms_spec (ws := ws) B.pre _ (by rw [hw]; exact List.mem_cons_self))
      cases B.named.symm.trans hn'
      cases h1.symm.trans B.method
      cases h2.symm.trans (Stand.of_body B).code
      rw [← h7, table_eq]
    obtain ⟨t, a1, o, b1, b2, b3⟩ := body p e s m args below meth c s₁ B hml htab hP s₁ hh0 (Stand.of_body B)
    exact ⟨t, o, a1, b1, b2, ⟨b3.1, b3.2⟩⟩
/-- the exception x is in flight over the frame g -/
def WT (p : Program) (l : Launch) (e : Env) (R : Room) (s : State) (m : MethodId) (args : Array Value) (below : List Frame) (meth : Method) (c : Code) (H : Heap) (locs : List Loc) (cells slots : Nat) (Q : State → Prop) (x : Addr) (g : JFrame) : Prop :=
  ∀ T : State, T.heap = H → Stand p l e R s m args below meth c T locs cells slots → ∃ t, Steps p.tables e below ((T.setTop g).pushFrame (.throwing x)) t ∧ Q t
theorem xe_athrow {cc : ByteArray} (hexec : p.tables.exec = Jvm.exec) (hb : c.code = cc) {pc : Nat} {ls : Array Slot} {x : Addr} {rest : List Value} (hdg : decode cc pc = .ok (.athrow, 1))
    (k : WT p l e R s m args below meth c H locs cells slots Q x (F0 m pc ls rest)) : W p l e R s m args below meth c H locs cells slots Q (F0 m pc ls (.ref x :: rest)) := by
  intro T hT X
  obtain ⟨t, a, b⟩ := k T hT X
  refine ⟨t, ?_, b⟩
  have hdg' : decode c.code (F0 m pc ls (.ref x :: rest)).pc = .ok (.athrow, 1) := by rw [hb]; exact hdg
  have hst : (F0 m pc ls (.ref x :: rest)).stack = .ref x :: rest := rfl
  jvm_step X.here [hexec, hdg', athrow.wp_sem, hst]
  exact a
/-- no handler: the method ends so -/
theorem xe_out {Qc : Array Value → State → Outcome → State → Prop} {free : Addr → Prop} {x : Addr} {pc : Nat} {ls : Array Slot} {st : List Value} (hout : ∀ h ∈ c.exceptionTable.toList, covers h pc = false) (hlocks : meth.locks = false)
    (hq : ∀ t : State, t.heap = H → s.WarmedH t.vm → Qc args s (.threw x) t) (hf : ∀ q ∈ locs, free q.base) :
    WT p l e R s m args below meth c H locs cells slots (MQX below Qc args s cells slots free) x (F0 m pc ls st) := by
  intro T hT X
  obtain ⟨h1, h2, h3, h4, h5⟩ := X.leaveThrown x (g := F0 m pc ls st) rfl rfl rfl hout hlocks
  exact ⟨_, h1, .threw x, h2, h3, hq _ hT h4, locs, ⟨h4, h5⟩, hf⟩
end XE
section XC
variable {p : Program} {l : Launch} {e : Env} {R : Room} {s : State} {m : MethodId} {args : Array Value} {below : List Frame} {meth : Method} {c : Code} {H : Heap} {locs : List Loc} {cells slots : Nat} {Q : State → Prop}
/-- a call of a method that returns or throws, from where its callee is named -/
theorem xe_call {y : MethodName} {ws : List Cond} {rm : Room} {Pc : Array Value → State → Prop} {Qc : Array Value → State → Outcome → State → Prop} {mc ms : Nat} {free : Addr → Prop} (hM : MetX l y ws rm Pc Qc mc ms free)
    {U : State} (X : Stand p l e R s m args below meth c U locs cells slots) {g : JFrame} (hg : g.method = m) (hsize : g.locals.size = c.maxLocals) {ig : Instr} {len : Nat} (hdg : decode c.code g.pc = .ok (ig, len))
    (hW : 2 * g.monitorRoom + (g.stack.map fun v => v.category).sum ≤ 8) {mk : MethodId} (hn : U.methodNamed? y = some mk) {a : Array Value} {methY : Method} {cY : Code} {maxL : Nat}
    (hmY : U.vm.method? mk = some methY) (hcY : methY.code = some cY) (hlY : cY.maxLocals = maxL) (hrc : rm.cells = mc) (hrs : rm.slots = ms) (hfr : rm.frames + 1 ≤ R.frames) (hlo : 8 + (maxL + 11) + rm.locals ≤ R.locals)
    (hws : ∀ w ∈ ws, w.before a U = true) (hini : (Cond.initialized y.cls).before a U = true) (hc : cells + mc ≤ R.cells) (hs : slots + ms ≤ R.slots) (hP : Pc a (U.calling g mk a)) :
    ∃ (o : Outcome) (t U' : State) (L : List Loc), Qc a (U.calling g mk a) o t ∧ (∀ q ∈ L, free q.base) ∧ U'.heap = t.heap ∧ U'.vm = t.vm ∧ Stand p l e R s m args below meth c U' (locs ++ L) (cells + mc) (slots + ms) ∧
      Steps p.tables e below (doInvoke e (U.setTop g) [] mk a).1 (match o with
        | .returned v => U'.setTop { g with pc := g.pc + len, stack := v.toList ++ g.stack }
        | .threw x => (U'.setTop g).pushFrame (.throwing x)) := by
  obtain ⟨kY, hkY, -⟩ := className_of_methodNamed hn
  have hinitY : kY.init = .initialized := Cond.initialized_spec (findClass_of_methodNamed hn) hkY hini
  have h : At U g.method c below := by rw [hg]; exact X.here
  have happ : (headSpec ws rm).appliesLoose y e.platform (U.calling g mk a) = true :=
    Spec.appliesLoose_calling (g := g) h hdg hn hkY hinitY
      (X.room_calling (g := g) (R' := (headSpec ws rm).room) hsize hmY hcY hfr (by rw [hlY]; show _ + rm.locals ≤ _; omega) (by show cells + rm.cells ≤ _; omega) (by show slots + rm.slots ≤ _; omega)) (atoms_intro hws)
  obtain ⟨mid, hmid⟩ := h.above
  have hfr : (U.setTop g).frames = (.java g :: mid) ++ below := by rw [State.frames_setTop' g h.top, hmid]; rfl
  obtain ⟨o, s₂, hsteps, -, hend, hq, L, ⟨hW₂, hsb⟩, hL⟩ := Steps.callFree hM p X.admits X.cas X.clock (acts := []) hfr happ hP trivial
  have hq' : Qc a (U.calling g mk a) o s₂ := hq
  rw [State.frames_setTop' g h.top] at hend
  have hW' : U.WarmedH s₂.vm := hW₂
  obtain ⟨e2, q2, q3, q4, q5, q6⟩ := id hsb
  have e3 : s₂ = ({ (U.calling g mk a).setFrames s₂.frames with heap := s₂.heap, slotsUsed := s₂.slotsUsed } : State).setVm s₂.vm := by
    have : s₂ = ({ s₂ with vm := (U.calling g mk a).vm } : State).setVm s₂.vm := rfl
    have e2' : ({ s₂ with vm := (U.calling g mk a).vm } : State) = _ := e2
    rw [e2'] at this
    exact this
  obtain ⟨g₀, hg0⟩ := Option.isSome_iff_exists.mp h.top
  obtain ⟨r, hr⟩ := State.topJava?_eq_some.mp hg0
  have hr' : (({ U with heap := s₂.heap, slotsUsed := s₂.slotsUsed } : State).setVm s₂.vm).frames = .java g₀ :: r := hr
  have hsame : U.sameButNew ({ U with heap := s₂.heap, slotsUsed := s₂.slotsUsed } : State) L mc ms := by
    refine ⟨?_, q2, q3, q4, q5, q6⟩
    obtain ⟨t, ht, -⟩ := State.frames_cons hr
    show ({ U with heap := s₂.heap, slotsUsed := s₂.slotsUsed } : State) = { U.setFrames U.frames with heap := s₂.heap, slotsUsed := s₂.slotsUsed }
    rw [State.setFrames_self ht]
  subst hg
  have X' : Stand p l e R s g.method args below meth c (({ U with heap := s₂.heap, slotsUsed := s₂.slotsUsed } : State).setVm s₂.vm) (locs ++ L) (cells + mc) (slots + ms) :=
    ⟨X.admits, X.cas, X.clock, X.frames, X.room, X.hears, X.method, X.code, (X.here.setHeapUsed s₂.heap s₂.slotsUsed).setVm hW'.alike, X.tail, State.WarmedH.trans X.warmed hW', X.limits, X.bytes, X.same.trans (hsame.setVm s.vm)⟩
  refine ⟨o, s₂, (({ U with heap := s₂.heap, slotsUsed := s₂.slotsUsed } : State).setVm s₂.vm), L, hq', hL, rfl, rfl, X', ?_⟩
  cases o with
  | returned v =>
    obtain ⟨c₂, i₂, len₂, hc₂, hd₂, hf₂⟩ := hend
    have hcc : c₂ = c := by
      have h1 : s₂.code? g.method = U.code? g.method := by
        rw [State.code?_eq, State.code?_eq, hW'.alike.method?]
      exact Option.some.inj (hc₂.symm.trans (h1.trans h.code))
    subst hcc
    have hlen : len₂ = len := by rw [hdg] at hd₂; cases hd₂; rfl
    subst hlen
    have hs₂ : s₂ = (({ U with heap := s₂.heap, slotsUsed := s₂.slotsUsed } : State).setVm s₂.vm).setTop { g with pc := g.pc + len₂, stack := v.toList ++ g.stack } := by
      refine e3.trans ?_
      rw [hf₂, State.calling_eq h.top, State.setFrames_setFrames, State.setTop_of_frames _ hr', hr]
      rfl
    show Steps p.tables e below _ ((({ U with heap := s₂.heap, slotsUsed := s₂.slotsUsed } : State).setVm s₂.vm).setTop { g with pc := g.pc + len₂, stack := v.toList ++ g.stack })
    rw [← hs₂]
    exact hsteps
  | threw x =>
    have hf₂ : s₂.frames = .throwing x :: .java g :: U.frames.tail := hend
    have hs₂ : s₂ = ((({ U with heap := s₂.heap, slotsUsed := s₂.slotsUsed } : State).setVm s₂.vm).setTop g).pushFrame (.throwing x) := by
      refine e3.trans ?_
      rw [hf₂, State.calling_eq h.top, State.setFrames_setFrames, State.pushFrame, State.frames_setTop _ hr', State.setTop_of_frames _ hr', State.setFrames_setFrames, hr]
      rfl
    show Steps p.tables e below _ (((({ U with heap := s₂.heap, slotsUsed := s₂.slotsUsed } : State).setVm s₂.vm).setTop g).pushFrame (.throwing x))
    rw [← hs₂]
    exact hsteps
/-- what a call comes to, returned or thrown -/
def xe_Run (p : Program) (l : Launch) (e : Env) (R : Room) (s : State) (m : MethodId) (args : Array Value) (below : List Frame) (meth : Method) (c : Code) (H : Heap) (locs : List Loc) (cells slots mc ms : Nat) (g : JFrame) (rest : List Value) (Qa : State → Outcome → State → Prop) (free : Addr → Prop) : Prop :=
  ∀ T : State, T.heap = H → Stand p l e R s m args below meth c T locs cells slots → ∃ (o : Outcome) (st₀ t T' : State) (L : List Loc), st₀.heap = H ∧ Stand p l e R s m args below meth c T' (locs ++ L) (cells + mc) (slots + ms) ∧ (∀ q ∈ L, free q.base) ∧ T'.heap = t.heap ∧ T'.vm = t.vm ∧ Qa st₀ o t ∧
    ∀ tg, Steps p.tables e below (match o with
      | .returned v => T'.setTop { g with pc := g.pc + 3, stack := v.toList ++ rest }
      | .threw x => (T'.setTop { g with stack := rest }).pushFrame (.throwing x)) tg → Steps p.tables e below (T.setTop g) tg
/-- on from a call: both roads -/
theorem xe_go {pc : Nat} {ls : Array Slot} {st0 rest : List Value} {mc ms : Nat} {Qa : State → Outcome → State → Prop} {free : Addr → Prop} {A0 A1 : Nat → Prop} {H0 : Heap}
    (hr : xe_Run p l e R s m args below meth c H locs cells slots mc ms (F0 m pc ls st0) rest Qa free) (hS : va_S A0 H0 H locs) (hF : ∀ st o t, Qa st o t → va_F A1 st t) (hA : ∀ q, q < H.size → A1 q → A0 q) (hf : ∀ q, free q → A0 q)
    (kk : ∀ (o : Outcome) (st t : State) (H1 : Heap) (locs1 : List Loc), st.heap = H → t.heap = H1 → s.vm.Alike t.vm → Qa st o t → H.size ≤ H1.size → (∀ q : Nat, q < H.size → ¬ A1 q → H1[q]? = H[q]?) → va_S A0 H0 H1 locs1 →
      match o with
      | .returned v => W p l e R s m args below meth c H1 locs1 (cells + mc) (slots + ms) Q (F0 m (pc + 3) ls (v.toList ++ rest))
      | .threw x => WT p l e R s m args below meth c H1 locs1 (cells + mc) (slots + ms) Q x (F0 m pc ls rest)) : W p l e R s m args below meth c H locs cells slots Q (F0 m pc ls st0) := by
  intro T hT X
  obtain ⟨o, st₀, t, T', L, h0, X', hL, e1, e2, hq, st⟩ := hr T hT X
  obtain ⟨hz, hk⟩ := hF _ _ _ hq
  rw [h0] at hz hk
  have K := kk o st₀ t T'.heap (locs ++ L) h0 e1.symm (by rw [← e2]; exact X'.warmed.alike) hq (by rw [e1]; exact hz) (fun q h1 h2 => by rw [e1]; exact hk q h1 h2)
    ⟨Nat.le_trans hS.1 (by rw [e1]; exact hz), fun q h1 h2 => by rw [e1, hk q (Nat.lt_of_lt_of_le h1 hS.1) (fun z => h2 (hA q (Nat.lt_of_lt_of_le h1 hS.1) z))]; exact hS.2.1 q h1 h2, fun q hq => by
      rcases List.mem_append.mp hq with h | h
      · exact hS.2.2 q h
      · exact hf _ (hL q h)⟩
  cases o with
  | returned v =>
    obtain ⟨t2, a1, b1⟩ := K T' rfl X'
    exact ⟨t2, st t2 a1, b1⟩
  | threw x =>
    obtain ⟨t2, a1, b1⟩ := K T' rfl X'
    exact ⟨t2, st t2 a1, b1⟩
/-- what a callee's words say of its code: with or without handlers -/
def xe_Code (s : State) (args : Array Value) (y : MethodName) (maxL n : Nat) : Prop := ∃ (bytes : ByteArray) (ret : Option FieldType), ((Cond.code y bytes maxL ret).before args s = true ∨ ∃ hs, (Cond.codeWith y bytes maxL ret hs).before args s = true) ∧
  (y.cls ≠ "java/lang/invoke/MethodHandle" ∧ y.cls ≠ "java/lang/invoke/VarHandle") ∧ (parseMethodDescriptor y.desc).map (fun d => d.parameters.length) = some n
theorem xe_Code.out {y : MethodName} {maxL n : Nat} (h : xe_Code s args y maxL n) : (y.cls ≠ "java/lang/invoke/MethodHandle" ∧ y.cls ≠ "java/lang/invoke/VarHandle") ∧ ∃ (mk : MethodId) (methY : Method) (cY : Code), s.methodNamed? y = some mk ∧ s.vm.method? mk = some methY ∧ methY.code = some cY ∧ cY.maxLocals = maxL ∧ methY.sig.parameters.length = n := by
  obtain ⟨bytes, ret, h, hd, hn⟩ := h
  refine ⟨hd, ?_⟩
  rcases h with h | ⟨hs, h⟩
  · obtain ⟨mk, hnamed⟩ := Cond.code_named h
    obtain ⟨methY, cY, h1, h2, -, h4, -, -, -, hsig⟩ := Cond.code_spec hnamed h
    rw [hsig] at hn
    exact ⟨mk, methY, cY, hnamed, h1, h2, h4, Option.some.inj hn⟩
  · obtain ⟨mk, methY, cY, hnamed, h1, h2, -, h4, -, -, -, hsig⟩ := Cond.codeWith_spec h
    rw [hsig] at hn
    exact ⟨mk, methY, cY, hnamed, h1, h2, h4, Option.some.inj hn⟩
variable {y : MethodName} {cc : ByteArray} {maxL nL mc ms n index : Nat} {ws : List Cond} {rm : Room} {Pc : Array Value → State → Prop} {Qc : Array Value → State → Outcome → State → Prop} {free : Addr → Prop} {Ts : List Cond} {own C : String} {b : Addr} {As rest : List Value} {g : JFrame}
/-- the room and the words of a call -/
def xe_CW (R : Room) (s : State) (args : Array Value) (y : MethodName) (maxL : Nat) (ws : List Cond) (rm : Room) (mc ms n : Nat) : Prop :=
  rm.cells = mc ∧ rm.slots = ms ∧ rm.frames + 1 ≤ R.frames ∧ 8 + (maxL + 11) + rm.locals ≤ R.locals ∧ (∀ w ∈ ws, ∀ (a' : Array Value) (U : State), s.WarmedH U.vm → w.before a' U = true) ∧ (Cond.initialized y.cls).before args s = true ∧ xe_Code s args y maxL n
theorem xe_runV (S : CallFix p m c cc nL s args Ts own) (hM : MetX l y ws rm Pc Qc mc ms free) (cw : xe_CW R s args y maxL ws rm mc ms n) (hlink : (Cond.methodLink own index y).before args s = true) (hinst : (Cond.instanceMethod y).before args s = true) (hsel : (Cond.selects C y y).before args s = true) (hp : PreV s H C b Pc As)
    (hg : g.method = m) (hn : As.length = n) (hsize : g.locals.size = nL) (hstack : g.stack = As.reverse ++ .ref b :: rest) (hW : 2 * g.monitorRoom + (rest.map fun v => v.category).sum ≤ 8) (hdg : decode cc g.pc = .ok (.invokevirtual index, 3)) (hf : cells + mc ≤ R.cells ∧ slots + ms ≤ R.slots) :
    xe_Run p l e R s m args below meth c H locs cells slots mc ms g rest (Qc (Value.ref b :: As).toArray) free := by
  obtain ⟨hrc, hrs, hfr, hlo, hws, hini, hco⟩ := cw
  obtain ⟨hy, mk, methM, cM, hnamed, hmethM, hcM, hlM, hlen⟩ := hco.out
  obtain ⟨hx, hb, hml, ho, -⟩ := S
  obtain ⟨hbl, ⟨cellB, hcB, hoB, hclB⟩, hPc⟩ := hp
  intro T hT X
  obtain ⟨mk', methM', hnamed', hmethM', hstM, habM⟩ := Cond.instanceMethod_spec hinst
  cases hnamed.symm.trans hnamed'
  cases hmethM.symm.trans hmethM'
  obtain ⟨c2, r2, m2, q1, q2, q3, q4, kP, hkP, hkPi⟩ := Cond.selects_spec hsel
  cases hclB.symm.trans q1
  cases (State.methodFound?_of_named hnamed hy).symm.trans q2
  cases hnamed.symm.trans q3
  have hselP : selectMethod e.platform s.vm cellB.cls mk = .method mk := by rw [Launch.admits_selectMethod X.admits]; exact q4
  obtain ⟨vm₁, X₁, hstep₁⟩ := X.invokevirtual hx ho hlink hnamed hmethM hstM hkP hkPi hy (a := b) (cell := cellB) (by rw [hT]; exact hcB)
    (fun z h => by rw [h] at hoB; cases hoB) hselP hmethM habM hkP hkPi (g := g) hg (argsL := As) (rest := rest) (hn.trans hlen.symm) hstack (by rw [hb]; exact hdg)
  have hal := X₁.warmed.alike
  obtain ⟨o, t, U', L, hq, hL, e1, e2, X', st⟩ := xe_call hM X₁ (g := { g with stack := rest }) hg (hsize.trans hml.symm) (by rw [hb]; exact hdg) hW (mk := mk) (X₁.named hnamed) (a := (Value.ref b :: As).toArray) (methY := methM) (cY := cM) (maxL := maxL)
    (by rw [hal.method?]; exact hmethM) hcM hlM hrc hrs hfr hlo (fun w hw => hws w hw _ _ X₁.warmed) (word_at X₁.warmed (Or.inl (by first | rfl | simp [Cond.onTables, Cond.keeps, Cond.steady])) hini) hf.1 hf.2 (hbl _ _ _ _ (hPc (T.setVm vm₁) hT X₁.warmed))
  refine ⟨o, (T.setVm vm₁).calling { g with stack := rest } mk (Value.ref b :: As).toArray, t, U', L, hT, X', hL, e1, e2, hq, fun tg h => hstep₁ _ fun acts => ?_⟩
  rw [doInvoke_state]
  cases o <;> exact st.trans h
theorem xe_runS (S : CallFix p m c cc nL s args Ts own) (hM : MetX l y ws rm Pc Qc mc ms free) (cw : xe_CW R s args y maxL ws rm mc ms n) (hlink : (Cond.methodLink own index y).before args s = true) (hstat : (Cond.static y).before args s = true) (hp : PreS s H Pc As)
    (hg : g.method = m) (hn : As.length = n) (hsize : g.locals.size = nL) (hstack : g.stack = As.reverse ++ rest) (hW : 2 * g.monitorRoom + (rest.map fun v => v.category).sum ≤ 8) (hdg : decode cc g.pc = .ok (.invokestatic index, 3)) (hf : cells + mc ≤ R.cells ∧ slots + ms ≤ R.slots) :
    xe_Run p l e R s m args below meth c H locs cells slots mc ms g rest (Qc As.toArray) free := by
  obtain ⟨hrc, hrs, hfr, hlo, hws, hini, hco⟩ := cw
  obtain ⟨hy, mk, methM, cM, hnamed, hmethM, hcM, hlM, hlen⟩ := hco.out
  obtain ⟨hx, hb, hml, ho, -⟩ := S
  obtain ⟨hbl, hPc⟩ := hp
  intro T hT X
  have hstatic : methM.isStatic = true := Cond.static_spec hnamed hmethM hstat
  obtain ⟨kP, hkP, -⟩ := className_of_methodNamed hnamed
  have hinitP : kP.init = .initialized := Cond.initialized_spec (findClass_of_methodNamed hnamed) hkP hini
  obtain ⟨vm₁, X₁, hstep₁⟩ := X.invokestatic hx ho hlink hnamed hmethM hstatic hkP hinitP hy (g := g) hg (argsL := As) (rest := rest) (hn.trans hlen.symm) hstack (by rw [hb]; exact hdg)
  have hal := X₁.warmed.alike
  obtain ⟨o, t, U', L, hq, hL, e1, e2, X', st⟩ := xe_call hM X₁ (g := { g with stack := rest }) hg (hsize.trans hml.symm) (by rw [hb]; exact hdg) hW (mk := mk) (X₁.named hnamed) (a := As.toArray) (methY := methM) (cY := cM) (maxL := maxL)
    (by rw [hal.method?]; exact hmethM) hcM hlM hrc hrs hfr hlo (fun w hw => hws w hw _ _ X₁.warmed) (word_at X₁.warmed (Or.inl (by first | rfl | simp [Cond.onTables, Cond.keeps, Cond.steady])) hini) hf.1 hf.2 (hbl _ _ _ _ (hPc (T.setVm vm₁) hT X₁.warmed))
  refine ⟨o, (T.setVm vm₁).calling { g with stack := rest } mk As.toArray, t, U', L, hT, X', hL, e1, e2, hq, fun tg h => hstep₁ _ fun acts => ?_⟩
  rw [doInvoke_state]
  cases o <;> exact st.trans h
end XC
section XH
/-- the search at an entry that covers the place: its class is resolved now, or was before -/
theorem xe_entry {Qh : Handler → Pre} {E : CtlPost} {e : Env} {d : Bool} {acts : List Action} {u : State} {f : JFrame} {a : Addr} {x : ExceptionTableEntry} {t : List ExceptionTableEntry} {cT : ClassId} {cell : Cell} (hx : covers x f.pc = true) (h0 : x.catchType ≠ 0)
    (hl : u.vm.ClassLinks e.platform f.method.cls x.catchType cT) (hcell : u.heap[a]? = some cell) (hobj : ∀ k, cell.vm ≠ .statics k) (hk : ∃ k, u.vm.classes[cell.cls]? = some k) (hc : ∃ k, u.vm.classes[cT]? = some k) :
    wp (findHandler.go f a (x :: t)) Qh E e d acts u ↔ if u.vm.assignable cell.cls cT = true then Qh (.found x.handlerPc) d acts (u.setVm (u.vm.noted f.method.cls x.catchType (.cls cT))) else wp (findHandler.go f a t) Qh E e d acts (u.setVm (u.vm.noted f.method.cls x.catchType (.cls cT))) := by
  simp only [covers] at hx
  obtain ⟨ha, ht⟩ := (resolveClass_links e.toSetting hl).op (op := VmOp.resolveClass f.method.cls x.catchType) rfl
  have hal : u.vm.Alike (u.vm.noted f.method.cls x.catchType (.cls cT)) := (Vm.Alike.refl u.vm).noted _ _ _
  obtain ⟨k1, hk1⟩ := hk
  obtain ⟨k2, hk2⟩ := hc
  obtain ⟨k1', hk1', -⟩ := hal.2.2 _ _ hk1
  obtain ⟨k2', hk2', -⟩ := hal.2.2 _ _ hk2
  have hfit : (u.vm.noted f.method.cls x.catchType (.cls cT)).assignable cell.cls cT = u.vm.assignable cell.cls cT := hal.assignable _ _
  cases hv : u.vm.assignable cell.cls cT <;> rw [hv] at hfit <;> simp [findHandler.go, hx, h0, ha, ht, hcell, hobj, hk1', hk2', hfit, VmOp.dirties, VmOp.acts]
/-- an entry that lets an exception of the class pass at the place -/
def xe_Pass (s : State) (args : Array Value) (own thrown : String) (pc : Nat) (h : Nat × Nat × Nat × Nat) : Prop :=
  covers ⟨h.1, h.2.1, h.2.2.1, h.2.2.2⟩ pc = false ∨ (h.2.2.2 ≠ 0 ∧ ∃ name, (Cond.classLink own h.2.2.2 name).before args s = true ∧ (Cond.not (.castable thrown name)).before args s = true)
theorem xe_search {e : Env} {s : State} {f : JFrame} {a : Addr} {cell : Cell} {args : Array Value} {own thrown name : String} {pc : Nat} (hpl : e.platform.magicAccessors = ({} : Platform).magicAccessors) (hpc : f.pc = pc) (hown : s.vm.findClass own = some f.method.cls) (hth : s.vm.findClass thrown = some cell.cls) (hobj : ∀ k, cell.vm ≠ .statics k)
    {h : Nat × Nat × Nat × Nat} (rest : List (Nat × Nat × Nat × Nat)) (hx : covers ⟨h.1, h.2.1, h.2.2.1, h.2.2.2⟩ pc = true) (h0 : h.2.2.2 ≠ 0) (hlink : (Cond.classLink own h.2.2.2 name).before args s = true) (hcast : (Cond.castable thrown name).before args s = true) :
    ∀ (pre : List (Nat × Nat × Nat × Nat)) (S : State), s.WarmedH S.vm → S.heap[a]? = some cell → (∀ y ∈ pre, xe_Pass s args own thrown pc y) →
      ∃ vm', s.WarmedH vm' ∧ ∀ (Qh : Handler → Pre) (E : CtlPost) (d : Bool) (acts : List Action), wp (findHandler.go f a (tableOf (pre ++ h :: rest))) Qh E e d acts S ↔ Qh (.found h.2.2.1) d acts (S.setVm vm') := by
  subst hpc
  have hk0 : ∃ k, s.vm.classes[cell.cls]? = some k := Vm.classAt_of_findClass hth
  obtain ⟨k0, hk0⟩ := hk0
  intro pre
  induction pre with
  | nil =>
    intro S hW hcell _
    obtain ⟨k0', hk0', -⟩ := hW.alike.2.2 _ _ hk0
    obtain ⟨cT, hcT, hcl⟩ := Cond.classLink_spec hown hlink e.platform hpl
    obtain ⟨c3, c4, hc3, hc4, hasg⟩ := Cond.castable_spec hcast
    cases hth.symm.trans hc3
    cases hcT.symm.trans hc4
    obtain ⟨dk, _, _, kt, hd, _, _, _, _, hkt, _, hopen⟩ := hcl.here
    obtain ⟨kt', hkt', -⟩ := hW.alike.2.2 _ _ hkt
    refine ⟨_, hW.noted hd hopen (State.rightAt_cls hcl), fun Qh E d acts => ?_⟩
    show wp (findHandler.go f a (⟨h.1, h.2.1, h.2.2.1, h.2.2.2⟩ :: tableOf rest)) Qh E e d acts S ↔ _
    rw [xe_entry hx h0 (hW.classLinks hcl) hcell hobj ⟨k0', hk0'⟩ ⟨kt', hkt'⟩, if_pos (by rw [hW.alike.assignable]; exact hasg)]
  | cons y ys ih =>
    intro S hW hcell hpass
    obtain ⟨k0', hk0', -⟩ := hW.alike.2.2 _ _ hk0
    have hrest : ∀ z ∈ ys, xe_Pass s args own thrown f.pc z := fun z hz => hpass z (List.mem_cons_of_mem _ hz)
    by_cases hcov : covers ⟨y.1, y.2.1, y.2.2.1, y.2.2.2⟩ f.pc = true
    · rcases hpass y List.mem_cons_self with h1 | ⟨h1, nm, hl1, hno⟩
      · rw [h1] at hcov; cases hcov
      · obtain ⟨cT, hcT, hcl⟩ := Cond.classLink_spec hown hl1 e.platform hpl
        have hv := Cond.holds_not_iff.mp hno
        simp only [Cond.value, hth, hcT] at hv
        have hno' : s.vm.assignable cell.cls cT = false := Option.some.inj hv
        obtain ⟨dk, _, _, kt, hd, _, _, _, _, hkt, _, hopen⟩ := hcl.here
        obtain ⟨kt', hkt', -⟩ := hW.alike.2.2 _ _ hkt
        obtain ⟨vm', hW', hq⟩ := ih (S.setVm (S.vm.noted f.method.cls y.2.2.2 (.cls cT))) (hW.noted hd hopen (State.rightAt_cls hcl)) hcell hrest
        refine ⟨vm', hW', fun Qh E d acts => ?_⟩
        show wp (findHandler.go f a (⟨y.1, y.2.1, y.2.2.1, y.2.2.2⟩ :: tableOf (ys ++ h :: rest))) Qh E e d acts S ↔ _
        rw [xe_entry hcov h1 (hW.classLinks hcl) hcell hobj ⟨k0', hk0'⟩ ⟨kt', hkt'⟩, if_neg (by rw [hW.alike.assignable, hno']; decide)]
        exact hq Qh E d acts
    · obtain ⟨vm', hW', hq⟩ := ih S hW hcell hrest
      refine ⟨vm', hW', fun Qh E d acts => ?_⟩
      show wp (findHandler.go f a (⟨y.1, y.2.1, y.2.2.1, y.2.2.2⟩ :: tableOf (ys ++ h :: rest))) Qh E e d acts S ↔ _
      rw [W.findHandler_go_skip (by simpa using hcov)]
      exact hq Qh E d acts
variable {p : Program} {l : Launch} {e : Env} {R : Room} {s : State} {m : MethodId} {args : Array Value} {below : List Frame} {meth : Method} {c : Code} {H : Heap} {locs : List Loc} {cells slots : Nat} {Q : State → Prop}
/-- caught: by the entry h, behind those that let it pass -/
theorem xe_catch {own thrown name : String} {x : Addr} {pc : Nat} {ls : Array Slot} {st : List Value} (hown : s.vm.findClass own = some m.cls) {hs : List (Nat × Nat × Nat × Nat)} (htab : c.exceptionTable.toList = tableOf hs) (pre : List (Nat × Nat × Nat × Nat)) (h : Nat × Nat × Nat × Nat) (rest : List (Nat × Nat × Nat × Nat))
    (hsplit : hs = pre ++ h :: rest) (hpass : ∀ y ∈ pre, xe_Pass s args own thrown pc y) (hx : covers ⟨h.1, h.2.1, h.2.2.1, h.2.2.2⟩ pc = true) (h0 : h.2.2.2 ≠ 0) (hlink : (Cond.classLink own h.2.2.2 name).before args s = true) (hcast : (Cond.castable thrown name).before args s = true)
    {cell : Cell} (hcell : H[x]? = some cell) (hobj : cell.vm.isStatics = false) (hth : s.vm.findClass thrown = some cell.cls) (k : W p l e R s m args below meth c H locs cells slots Q (F0 m h.2.2.1 ls [.ref x])) : WT p l e R s m args below meth c H locs cells slots Q x (F0 m pc ls st) := by
  intro T hT X
  have hpl : e.platform.magicAccessors = ({} : Platform).magicAccessors := by rw [X.admits.platform]
  obtain ⟨vm', hW', hq⟩ := xe_search (e := e) (s := s) (f := F0 m pc ls st) (a := x) (cell := cell) hpl rfl hown hth (VmData.ne_statics_of hobj) rest hx h0 hlink hcast pre ((T.setTop (F0 m pc ls st)).pushFrame (.throwing x)) X.warmed (by show T.heap[x]? = _; rw [hT]; exact hcell) hpass
  obtain ⟨t, a1, b1⟩ := k (T.setVm vm') hT (X.noted hW')
  refine ⟨t, ?_, b1⟩
  have hA : At T (F0 m pc ls st).method c below := X.here
  obtain ⟨hgo, hw⟩ := hA.throwing x
  refine Steps.head hgo hw ?_
  have hm' : ((T.setTop (F0 m pc ls st)).pushFrame (.throwing x)).vm.method? (F0 m pc ls st).method = some meth := X.method'
  have hfind : ∀ (Qh : Handler → Pre) (E : CtlPost) (d : Bool) (acts : List Action), wp (findHandler (F0 m pc ls st) x) Qh E e d acts ((T.setTop (F0 m pc ls st)).pushFrame (.throwing x)) ↔ Qh (.found h.2.2.1) d acts (((T.setTop (F0 m pc ls st)).pushFrame (.throwing x)).setVm vm') := by
    intro Qh E d acts
    rw [W.findHandler_eq hm' X.code, htab, hsplit]
    exact hq Qh E d acts
  have hstep : ∀ r : List Frame, (stepThrowing e ((T.setTop (F0 m pc ls st)).pushFrame (.throwing x)) x (.java (F0 m pc ls st) :: r)).Is ((((T.setTop (F0 m pc ls st)).pushFrame (.throwing x)).setVm vm').setFrames (.java { F0 m pc ls st with pc := h.2.2.1, stack := [.ref x] } :: r)) [] := by
    intro r
    simp only [stepThrowing, searchFrame, vmDo]
    generalize hr : Sem.go _ e false [] ((T.setTop (F0 m pc ls st)).pushFrame (.throwing x)) = res
    obtain ⟨as, rfl, ha⟩ := Sem.eq_ok_of hr (a := Handler.found h.2.2.1) (s' := ((T.setTop (F0 m pc ls st)).pushFrame (.throwing x)).setVm vm') (acts' := []) (by simp [hfind _ _ _ _])
    exact ⟨rfl, ha⟩
  rw [stepThread_throwing (frames_entered hA.top _), (hstep _).1]
  obtain ⟨g₀, hg⟩ := Option.isSome_iff_exists.mp hA.top
  obtain ⟨r, hr⟩ := State.topJava?_eq_some.mp hg
  have hr' : (T.setVm vm').frames = .java g₀ :: r := hr
  rw [State.setTop_of_frames _ hr'] at a1
  have key : ∀ (u : State) (F G : List Frame), ((u.setFrames F).setVm vm').setFrames G = (u.setVm vm').setFrames G := fun u F G => by
    have h1 : (u.setFrames F).setVm vm' = (u.setVm vm').setFrames F := rfl
    rw [h1, State.setFrames_setFrames]
  rw [hr, List.tail_cons, State.pushFrame, key, State.setTop_of_frames _ hr, key]
  exact a1
end XH
end
section
/-! COMPACT ROWS: one bundle of what stays the same over a method's walk; worlds that a call gives back are values -/
abbrev xW : Type := va_W
def xE (p : Program) (s : State) (m : MethodId) (args : Array Value) (c : Code) (cc : ByteArray) (nL : Nat) (own : String) (D : va_G) (ty : List (ClassId × FieldType)) : Prop :=
  p.tables.exec = Jvm.exec ∧ c.code = cc ∧ c.maxLocals = nL ∧ (∀ w ∈ xtb, w.before args s = true) ∧ s.vm.findClass own = some m.cls ∧ va_K D classes ty s
/-- what the statics of Throwable are, that its constructors read: each a reference or null, in a cell that is none of A -/
def xS (n d : String) (A : Nat → Prop) (U : State) (H : Heap) : Prop := ∃ (c : ClassId) (k : Class) (i : Nat) (f : Field) (a : Nat) (cell : Cell) (v : Value), U.vm.findClass "java/lang/Throwable" = some c ∧ U.fieldFound? "java/lang/Throwable" n d = some (c, k, i, f) ∧ f.isStatic = true ∧ k.init = .initialized ∧ k.statics = some a ∧ k.staticTypes[f.slot]? = some f.type ∧ H[a]? = some cell ∧ cell.vm.isStatics = true ∧ cell.cls = c ∧ f.slot < cell.slots.size ∧ cell.slots[f.slot]? = some v ∧ (v = .null ∨ ∃ t, v = .ref t) ∧ ¬ A a
theorem xS.moved {n d : String} {A : Nat → Prop} {u U : State} {H : Heap} (hvm : u.vm.Alike U.vm) (h : xS n d A u H) : xS n d A U H := by
  obtain ⟨c, k, i, f, a, cell, v, h0, h1, h2, h3, h4, h5, h6⟩ := h
  obtain ⟨k', hi', he⟩ := State.fieldFound?_setVm hvm h1
  exact ⟨c, k', i, f, a, cell, v, by rw [hvm.findClass]; exact h0, hi', h2, by rw [he]; exact h3, by rw [he]; exact h4, by rw [he]; exact h5, h6⟩
theorem xS.kept {n d : String} {A B : Nat → Prop} {U : State} {H H1 : Heap} (h : xS n d A U H) (hq : ∀ a : Nat, a < H.size → ¬ A a → H1[a]? = H[a]?) (hAB : ∀ q, B q → A q) : xS n d B U H1 := by
  obtain ⟨c, k, i, f, a, cell, v, h0, h1, h2, h3, h4, h5, h6, h7, h8, h9, h10, h11, h12⟩ := h
  exact ⟨c, k, i, f, a, cell, v, h0, h1, h2, h3, h4, h5, by rw [hq a (Array.getElem?_eq_some_iff.mp h6).1 h12]; exact h6, h7, h8, h9, h10, h11, fun z => h12 (hAB a z)⟩
theorem xS.get {n d : String} {A : Nat → Prop} {U : State} {H : Heap} (h : xS n d A U H) : ∃ v : Value, (v = .null ∨ ∃ t, v = .ref t) ∧ va_Z "java/lang/Throwable" n d v A U H := by
  obtain ⟨c, k, i, f, a, cell, v, h0, h1, h2, h3, h4, h5, h6, h7, h8, h9, h10, h11, h12⟩ := h
  exact ⟨v, h11, c, k, i, f, a, cell, h1, h2, h3, h4, h6, h7, h10, h12⟩
theorem xS.lays {n d : String} {A : Nat → Prop} {U : State} {args : Array Value} (h : xS n d A U U.heap) : (Cond.laysStatic "java/lang/Throwable" n d).before args U = true := by
  obtain ⟨c, k, i, f, a, cell, v, h0, h1, h2, h3, h4, h5, h6, h7, h8, h9, h10, h11, h12⟩ := h
  simp [Cond.before, Cond.holds, Cond.value, h0, h1, h2, h4, h5, h6, h7, h8, h9]
theorem xS.isref {n d : String} {A : Nat → Prop} {U : State} {args : Array Value} (h : xS n d A U U.heap) : (Cond.isRef (.static "java/lang/Throwable" n d)).before args U = true := by
  obtain ⟨c, k, i, f, a, cell, v, h0, h1, h2, h3, h4, h5, h6, h7, h8, h9, h10, h11, h12⟩ := h
  have hk : cell.vm ≠ .unknown := fun e => by rw [e] at h7; cases h7
  rcases h11 with rfl | ⟨t, rfl⟩ <;> simp [Cond.before, Cond.holds, Cond.value, Term.eval, State.fieldNamed?, h1, h2, h4, h6, h7, h10]
theorem xS.of {n d : String} {A : Nat → Prop} {s : State} {args : Array Value} (hl : (Cond.laysStatic "java/lang/Throwable" n d).before args s = true) (hini : (Cond.initialized "java/lang/Throwable").before args s = true) (h : (Cond.isRef (.static "java/lang/Throwable" n d)).before args s = true) (hA : ∀ a : Nat, a < s.heap.size → ¬ A a) : xS n d A s s.heap := by
  obtain ⟨c, k, i, f, a, cell, hc, hi, hst, ha, hcell, hs, hcls, hlt, hty⟩ := Cond.laysStatic_spec hl
  cases hv : (Term.static "java/lang/Throwable" n d).eval args s none [] s with
  | none => simp [Cond.before, Cond.holds, Cond.value, hv] at h
  | some w =>
    obtain ⟨hst', a', cell', ha', hcell', -, hslot⟩ := Term.static_spec hi hv
    cases ha.symm.trans ha'
    cases hcell.symm.trans hcell'
    refine ⟨c, k, i, f, a, cell, w, hc, hi, hst, Cond.initialized_spec hc (State.fieldFound?_spec hi).1 hini, ha, hty, hcell, hs, hcls, hlt, hslot, ?_, hA a (Array.getElem?_eq_some_iff.mp hcell).1⟩
    simp only [Cond.before, Cond.holds, Cond.value, hv] at h
    cases w with
    | null => exact Or.inl rfl
    | ref t => exact Or.inr ⟨t, rfl⟩
    | _ => simp at h
def xZ (A : Nat → Prop) (U : State) (H : Heap) : Prop := xS "UNASSIGNED_STACK" "[Ljava/lang/StackTraceElement;" A U H ∧ xS "SUPPRESSED_SENTINEL" "Ljava/util/List;" A U H
theorem xZ.moved {A : Nat → Prop} {u U : State} {H : Heap} (hvm : u.vm.Alike U.vm) (h : xZ A u H) : xZ A U H := ⟨h.1.moved hvm, h.2.moved hvm⟩
theorem xZ.kept {A B : Nat → Prop} {U : State} {H H1 : Heap} (h : xZ A U H) (hq : ∀ a : Nat, a < H.size → ¬ A a → H1[a]? = H[a]?) (hAB : ∀ q, B q → A q) : xZ B U H1 := ⟨h.1.kept hq hAB, h.2.kept hq hAB⟩
/-- a contract's start: the arguments, the size of the heap, the world -/
def xP (D : va_G) (ty : List (ClassId × FieldType)) (av : List Value) (ws : xW) (sz : Nat) : Array Value → State → Prop := va_Pc av (fun U => U.heap.size = sz ∧ va_P D classes ws U.heap ∧ va_K D classes ty U ∧ va_D (fun _ => True) ws ∧ xZ (va_A ws sz) U U.heap)
/-- the world behind it -/
def xB (D : va_G) (ty : List (ClassId × FieldType)) (ws : xW) (sz : Nat) (u : xW) (t : State) : Prop := va_P D classes u t.heap ∧ va_K D classes ty t ∧ va_D (va_A ws sz) u
abbrev xQv (D : va_G) (ty : List (ClassId × FieldType)) (ws : xW) (sz : Nat) (post : xW → Prop) : Array Value → State → Outcome → State → Prop := va_Qv (S := xW) post (xB D ty ws sz) (va_A ws sz)
abbrev xQi (D : va_G) (ty : List (ClassId × FieldType)) (ws : xW) (sz : Nat) (post : Int32 → xW → Prop) : Array Value → State → Outcome → State → Prop := va_Qi (S := xW) post (xB D ty ws sz) (va_A ws sz)
abbrev xQl (D : va_G) (ty : List (ClassId × FieldType)) (ws : xW) (sz : Nat) (post : Int64 → xW → Prop) : Array Value → State → Outcome → State → Prop := va_Ql (S := xW) post (xB D ty ws sz) (va_A ws sz)
theorem xP_blind {D : va_G} {ty : List (ClassId × FieldType)} {av : List Value} {ws : xW} {sz : Nat} : FrameBlind (xP D ty av ws sz) := fun a U g mk q => by
  obtain ⟨q0, q1, qP, qK, qD, qZ⟩ := q
  exact ⟨q0, q1, qP, va_K.moved (u := U) (U := U.calling g mk a) (Vm.Alike.refl U.vm) qK, qD, xZ.moved (u := U) (U := U.calling g mk a) (Vm.Alike.refl U.vm) qZ⟩
theorem xP_at {D : va_G} {ty : List (ClassId × FieldType)} {av : List Value} {ws : xW} {A : Nat → Prop} {s : State} {H : Heap} {locs : List Loc} (hP : va_P D classes ws H) (hK : va_K D classes ty s) (hD : va_D A ws) (hZ : xZ A s s.heap) (hS : va_S A s.heap H locs) (hF : ∀ q, va_A ws H.size q → A q) : ∀ U : State, U.heap = H → s.WarmedH U.vm → xP D ty av ws H.size av.toArray U := fun U hU hW =>
  ⟨rfl, by rw [hU], by rw [hU]; exact hP, va_K.moved hW.alike hK, hD.weaken (fun _ _ _ _ => trivial), by rw [hU]; exact (hZ.moved hW.alike).kept hS.2.1 hF⟩
section XR
variable {p : Program} {l : Launch} {e : Env} {R : Room} {s : State} {m : MethodId} {args : Array Value} {below : List Frame} {meth : Method} {c : Code} {H : Heap} {locs : List Loc} {cells slots : Nat} {Q : State → Prop}
variable {cc : ByteArray} {nL pc : Nat} {ls : Array Slot} {rest : List Value} {own : String} {D : va_G} {ty : List (ClassId × FieldType)} {ws : xW} {A : Nat → Prop} {H0 : Heap} {a : Nat}
theorem x_get (E : xE p s m args c cc nL own D ty) (hP : va_P D classes ws H) {C : String} {T : u_T} {N ci index : Nat} (q0 : Nat) {fs : List Value} {v : Value} (k : Nat) (hin : ∀ w ∈ u_ws C T N, w ∈ xtb) (he : ws[q0]? = some (a, .inr (ci, fs))) (hc : classes[ci]? = some (C, T, N)) (hk : k < N)
    (hl : Cond.fieldLink own index (T k).1 (T k).2.1 (T k).2.2.1 ∈ xtb) (hv : fs[k]? = some v) (hdg : decode cc pc = .ok (.getfield index, 3))
    (kk : W p l e R s m args below meth c H locs cells slots Q (F0 m (pc + 3) ls (v :: rest))) : W p l e R s m args below meth c H locs cells slots Q (F0 m pc ls (.ref a :: rest)) :=
  va_get E.1 E.2.1 E.2.2.2.1 hin E.2.2.2.2.1 E.2.2.2.2.2 hP q0 he hc k hk (E.2.2.2.1 _ hl) (fun _ h => h) hv hdg kk
theorem x_put (E : xE p s m args c cc nL own D ty) (hP : va_P D classes ws H) (hD : va_D A ws) (hS : va_S A H0 H locs) {C : String} {T : u_T} {N ci index : Nat} (q0 : Nat) {fs : List Value} {v : Value} (k : Nat) {t0 : Nat → FieldType} {tk : FieldType} (hin : ∀ w ∈ u_ws C T N, w ∈ xtb) (ht0 : ∀ k, k < N → parseFieldDescriptor (T k).2.2.1 = some (t0 k)) (hnm : ∀ a, a < N → ∀ b, b < N → a ≠ b → (T a).2.1 ≠ (T b).2.1)
    (he : ws[q0]? = some (a, .inr (ci, fs))) (hc : classes[ci]? = some (C, T, N)) (hk : k < N) (hl : Cond.fieldLink own index (T k).1 (T k).2.1 (T k).2.2.1 ∈ xtb) (hfin : (T k).2.2.2 = false) (htk : t0 k = tk) (hn : narrow tk v = v) (hfit : fits tk v = true) (hlen : k < fs.length) (hdg : decode cc pc = .ok (.putfield index, 3))
    (kk : ∀ (H1 : Heap) (locs1 : List Loc), va_P D classes (ws.set q0 (a, .inr (ci, fs.set k v))) H1 → va_D A (ws.set q0 (a, .inr (ci, fs.set k v))) → va_S A H0 H1 locs1 → W p l e R s m args below meth c H1 locs1 cells slots Q (F0 m (pc + 3) ls rest)) : W p l e R s m args below meth c H locs cells slots Q (F0 m pc ls (v :: .ref a :: rest)) :=
  va_put E.1 E.2.1 E.2.2.2.1 hin t0 ht0 hnm E.2.2.2.2.1 E.2.2.2.2.2 hP hD hS q0 he hc k hk (E.2.2.2.1 _ hl) (fun _ h => h) hfin (ht0 k hk) (by rw [htk]; exact hn) (by rw [htk]; exact hfit) hlen hdg (fun H1 locs1 h1 h2 h3 => kk H1 locs1 h1 h2 h3)
theorem x_putF (E : xE p s m args c cc nL own D ty) (hi : meth.name = "<init>") (hP : va_P D classes ws H) (hD : va_D A ws) (hS : va_S A H0 H locs) {C : String} {T : u_T} {N ci index : Nat} (q0 : Nat) {fs : List Value} {v : Value} (k : Nat) {t0 : Nat → FieldType} {tk : FieldType} (hin : ∀ w ∈ u_ws C T N, w ∈ xtb) (ht0 : ∀ k, k < N → parseFieldDescriptor (T k).2.2.1 = some (t0 k)) (hnm : ∀ a, a < N → ∀ b, b < N → a ≠ b → (T a).2.1 ≠ (T b).2.1)
    (he : ws[q0]? = some (a, .inr (ci, fs))) (hc : classes[ci]? = some (C, T, N)) (hk : k < N) (hl : Cond.fieldLink own index (T k).1 (T k).2.1 (T k).2.2.1 ∈ xtb) (hfin : (T k).2.2.2 = true) (hdec : (T k).1 = own) (htk : t0 k = tk) (hn : narrow tk v = v) (hfit : fits tk v = true) (hlen : k < fs.length) (hdg : decode cc pc = .ok (.putfield index, 3))
    (kk : ∀ (H1 : Heap) (locs1 : List Loc), va_P D classes (ws.set q0 (a, .inr (ci, fs.set k v))) H1 → va_D A (ws.set q0 (a, .inr (ci, fs.set k v))) → va_S A H0 H1 locs1 → W p l e R s m args below meth c H1 locs1 cells slots Q (F0 m (pc + 3) ls rest)) : W p l e R s m args below meth c H locs cells slots Q (F0 m pc ls (v :: .ref a :: rest)) :=
  va_putF E.1 E.2.1 E.2.2.2.1 hin t0 ht0 hnm E.2.2.2.2.1 E.2.2.2.2.2 hP hD hS q0 he hc k hk (E.2.2.2.1 _ hl) (fun _ h => h) hfin hi hdec (ht0 k hk) (by rw [htk]; exact hn) (by rw [htk]; exact hfit) hlen hdg (fun H1 locs1 h1 h2 h3 => kk H1 locs1 h1 h2 h3)
/-- a new array of a class that the tables know already -/
theorem x_newa (E : xE p s m args c cc nL own D ty) (hP : va_P D classes ws H) (hD : va_D A ws) (hS : va_S A H0 H locs) (hA : ∀ q, H0.size ≤ q → A q) {atype : ArrayType} {tk : FieldType} {cA : ClassId} (t0 : Nat) (ht : ty[t0]? = some (cA, tk)) (hob : ∀ C, tk ≠ .object C) (hl : Cond.arrayClass (newarray.typeOf atype) ∈ xtb) (hty : newarray.typeOf atype = tk)
    {n : Int32} {N' : Nat} {a0 : vp_A} (ha : ∀ cA : ClassId, vp_cell cA a0 = arrV cA N' (fun _ => defaultValue tk)) (hn : ¬ n < 0) (hN : n.toNatClampNeg = N') (hbytes : N' * componentBytes tk ≤ 536870912) (hcells : cells + 1 ≤ R.cells) (hslots : slots + N' ≤ R.slots) (hdg : decode cc pc = .ok (.newarray atype, 2))
    (kk : ∀ (q : Nat) (H1 : Heap), va_P D classes (ws ++ [(q, .inl (cA, a0))]) H1 → va_D A (ws ++ [(q, .inl (cA, a0))]) → va_S A H0 H1 locs →
      W p l e R s m args below meth c H1 locs (cells + 1) (slots + N') Q (F0 m (pc + 2) ls (.ref q :: rest))) : W p l e R s m args below meth c H locs cells slots Q (F0 m pc ls (.int n :: rest)) := by
  refine va_newa E.1 E.2.1 (E.2.2.2.1 _ hl) hty E.2.2.2.2.2 hP hD hS hA ha hn hN hbytes hcells hslots hdg (fun q cA' H1 hK' hP' hD' hS' => ?_)
  have h1 := (E.2.2.2.2.2.2 t0 _ ht).2
  have h2 := (hK'.2 ty.length (cA', tk) (by simp)).2
  have hq : cA' = cA := by
    cases tk with
    | object C => exact absurd rfl (hob C)
    | _ => exact Option.some.inj (h2.symm.trans h1)
  subst hq
  exact kk q H1 hP' hD' hS'
theorem x_new (E : xE p s m args c cc nL own D ty) (hP : va_P D classes ws H) (hD : va_D A ws) (hS : va_S A H0 H locs) (hA : ∀ q, H0.size ≤ q → A q) {C : String} {T : u_T} {N ci index : Nat} {t0 : Nat → FieldType} (hin : ∀ w ∈ u_ws C T N, w ∈ xtb) (ht0 : ∀ k, k < N → parseFieldDescriptor (T k).2.2.1 = some (t0 k))
    (hcl : Cond.classLink own index C ∈ xtb) (hinst : Cond.instantiable C N ∈ xtb) (hini : Cond.initialized C ∈ xtb) (hc : classes[ci]? = some (C, T, N)) {fs : List Value} (hfs : ∀ j, j < N → defaultValue (t0 j) = vp_V fs j) (hcells : cells + 1 ≤ R.cells) (hslots : slots + N ≤ R.slots) (hdg : decode cc pc = .ok (.new index, 3))
    (kk : ∀ (q : Nat) (H1 : Heap), va_P D classes (ws ++ [(q, .inr (ci, fs))]) H1 → va_D A (ws ++ [(q, .inr (ci, fs))]) → va_S A H0 H1 locs →
      W p l e R s m args below meth c H1 locs (cells + 1) (slots + N) Q (F0 m (pc + 3) ls (.ref q :: rest))) : W p l e R s m args below meth c H locs cells slots Q (F0 m pc ls rest) :=
  va_new E.1 E.2.1 E.2.2.2.1 hin t0 ht0 E.2.2.2.2.1 (E.2.2.2.1 _ hcl) (E.2.2.2.1 _ hinst) (E.2.2.2.1 _ hini) E.2.2.2.2.2 hP hD hS hA hc hfs hcells hslots hdg kk
theorem x_objInit (E : xE p s m args c cc nL own D ty) (hsz : ls.size = nL) {idx : Nat} (hl : Cond.methodLink own idx objectInit ∈ xtb) (hi : Cond.instanceMethod objectInit ∈ xtb) (hcd : Cond.code objectInit ⟨#[0xb1]⟩ 1 none ∈ xtb) (hdg : decode cc pc = .ok (.invokespecial idx, 3)) (hfr : 1 ≤ R.frames) (hlo : (rest.map fun v => v.category).sum + 12 ≤ R.locals)
    (kk : W p l e R s m args below meth c H locs cells slots Q (F0 m (pc + 3) ls rest)) : W p l e R s m args below meth c H locs cells slots Q (F0 m pc ls (.ref a :: rest)) :=
  W.objInit E.1 E.2.1 E.2.2.2.2.1 (E.2.2.2.1 _ hl) (E.2.2.2.1 _ hi) (E.2.2.2.1 _ hcd) rfl (by rw [E.2.2.1]; exact hsz) rfl hdg hfr (by simpa [F0, JFrame.monitorRoom] using hlo) kk
end XR
section XK
variable {p : Program} {l : Launch} {e : Env} {R : Room} {s : State} {m : MethodId} {args : Array Value} {below : List Frame} {meth : Method} {c : Code} {H : Heap} {locs : List Loc} {cells slots : Nat} {Q : State → Prop}
variable {cc bytes : ByteArray} {nL pc index maxL mc ms : Nat} {ls : Array Slot} {rest As : List Value} {own C : String} {D : va_G} {ty : List (ClassId × FieldType)} {ws wc wr : xW} {A : Nat → Prop} {H0 : Heap} {b : Nat} {y : MethodName} {rm : Room} {ret : Option FieldType} {Qc : Array Value → State → Outcome → State → Prop} {free : Addr → Prop}
theorem x_pay {w0 : Cond} (h0 : w0 ∈ xtb) (hts : ∀ w ∈ xtb, w.before args s = true) : ∀ w ∈ (w0 :: xtb), ∀ (a' : Array Value) (U : State), s.WarmedH U.vm → w.before a' U = true := fun w hw a' U hW => by
  have hw' : w ∈ xtb := by
    rcases List.mem_cons.mp hw with h | h
    · rw [h]; exact h0
    · exact h
  exact x_warm (List.mem_filter.mp hw').2 hW (hts w hw')
/-- decided of a callee: its name, how many parameters -/
def x_nm (y : MethodName) (n : Nat) : Bool := decide (y.cls ≠ "java/lang/invoke/MethodHandle") && decide (y.cls ≠ "java/lang/invoke/VarHandle") && decide ((parseMethodDescriptor y.desc).map (fun d => d.parameters.length) = some n)
theorem x_nm_out {n : Nat} (h : x_nm y n = true) : (y.cls ≠ "java/lang/invoke/MethodHandle" ∧ y.cls ≠ "java/lang/invoke/VarHandle") ∧ ∀ sig, parseMethodDescriptor y.desc = some sig → n = sig.parameters.length := by
  simp only [x_nm, Bool.and_eq_true, decide_eq_true_eq] at h
  refine ⟨h.1, fun sig hs => ?_⟩
  have h2 := h.2
  rw [hs] at h2
  exact (Option.some.inj h2).symm
theorem x_cb (E : xE p s m args c cc nL own D ty) (hcode : Cond.code y bytes maxL ret ∈ xtb) (hini : Cond.initialized y.cls ∈ xtb) (hl : Cond.methodLink own index y ∈ xtb) (hnm : x_nm y As.length = true) (hrc : rm.cells = mc) (hrs : rm.slots = ms) (hfr : rm.frames + 1 ≤ R.frames) (hlo : 8 + (maxL + 11) + rm.locals ≤ R.locals) :
    CallB R s args own index y bytes maxL ret (Cond.code y bytes maxL ret :: xtb) rm mc ms As.length :=
  ⟨hrc, hrs, hfr, hlo, x_pay hcode E.2.2.2.1, List.mem_cons_self, E.2.2.2.1 _ hcode, E.2.2.2.1 _ hini, (x_nm_out hnm).1, (x_nm_out hnm).2, E.2.2.2.1 _ hl⟩
theorem x_cn {host : String} (E : xE p s m args c cc nL own D ty) (hcode : Cond.code y bytes maxL ret ∈ xtb) (hini : Cond.initialized y.cls ∈ xtb) (hl : Cond.methodLinkNest own index y host ∈ xtb) (hnm : x_nm y As.length = true) (hrc : rm.cells = mc) (hrs : rm.slots = ms) (hfr : rm.frames + 1 ≤ R.frames) (hlo : 8 + (maxL + 11) + rm.locals ≤ R.locals) :
    va_CN R s args own index y host bytes maxL ret (Cond.code y bytes maxL ret :: xtb) rm mc ms As.length :=
  ⟨⟨hrc, hrs, hfr, hlo, x_pay hcode E.2.2.2.1, List.mem_cons_self⟩, E.2.2.2.1 _ hcode, E.2.2.2.1 _ hini, (x_nm_out hnm).1, (x_nm_out hnm).2, E.2.2.2.1 _ hl⟩
theorem x_fix (E : xE p s m args c cc nL own D ty) : CallFix p m c cc nL s args xtb own := ⟨E.1, E.2.1, E.2.2.1, E.2.2.2.2.1, E.2.2.2.1⟩
variable {st0 : List Value}
/-- invokevirtual -/
theorem x_V (E : xE p s m args c cc nL own D ty) (hM : Met l y (Cond.code y bytes maxL ret :: xtb) rm (xP D ty (.ref b :: As) wc H.size) Qc mc ms free) (hcode : Cond.code y bytes maxL ret ∈ xtb) (hini : Cond.initialized y.cls ∈ xtb) (hl : Cond.methodLink own index y ∈ xtb) (hinst : Cond.instanceMethod y ∈ xtb) (hsel : Cond.selects C y y ∈ xtb) (hnm : x_nm y As.length = true)
    (hP : va_P D classes wc H) (hD : va_D A wc) (hZ : xZ A s s.heap) (hS : va_S A s.heap H locs) (hF : ∀ q, va_A wc H.size q → A q) {ci : Nat} {fs : List Value} {q : vw_C} (he : wc[0]? = some (b, .inr (ci, fs))) (hc : classes[ci]? = some q) (hq : q.1 = C) (hsz : ls.size = nL) (hst : st0 = As.reverse ++ .ref b :: rest) (hrest : (rest.map fun v => v.category).sum ≤ 8) (hdg : decode cc pc = .ok (.invokevirtual index, 3))
    (hrc : rm.cells = mc) (hrs : rm.slots = ms) (hfr : rm.frames + 1 ≤ R.frames) (hlo : 8 + (maxL + 11) + rm.locals ≤ R.locals) (hcl : cells + mc ≤ R.cells) (hsl : slots + ms ≤ R.slots) :
    va_Run p l e R s m args below meth c H locs cells slots mc ms (F0 m pc ls st0) rest (Qc (Value.ref b :: As).toArray) free :=
  va_runV (C := C) (x_fix E) hM ⟨x_cb E hcode hini hl hnm hrc hrs hfr hlo, E.2.2.2.1 _ hinst, E.2.2.2.1 _ hsel⟩ ⟨xP_blind, by rw [← hq]; exact va_recv E.2.2.2.2.2 hP hc he, xP_at hP E.2.2.2.2.2 hD hZ hS hF⟩ rfl rfl hsz hst (by simpa [JFrame.monitorRoom] using hrest) hdg ⟨hcl, hsl⟩
/-- invokevirtual of a nest mate's private method, or of one's own -/
theorem x_VN {host : String} (E : xE p s m args c cc nL own D ty) (hM : Met l y (Cond.code y bytes maxL ret :: xtb) rm (xP D ty (.ref b :: As) wc H.size) Qc mc ms free) (hcode : Cond.code y bytes maxL ret ∈ xtb) (hini : Cond.initialized y.cls ∈ xtb) (hl : Cond.methodLinkNest own index y host ∈ xtb) (hinst : Cond.instanceMethod y ∈ xtb) (hsel : Cond.selects C y y ∈ xtb) (hnm : x_nm y As.length = true)
    (hP : va_P D classes wc H) (hD : va_D A wc) (hZ : xZ A s s.heap) (hS : va_S A s.heap H locs) (hF : ∀ q, va_A wc H.size q → A q) {ci : Nat} {fs : List Value} {q : vw_C} (he : wc[0]? = some (b, .inr (ci, fs))) (hc : classes[ci]? = some q) (hq : q.1 = C) (hsz : ls.size = nL) (hst : st0 = As.reverse ++ .ref b :: rest) (hrest : (rest.map fun v => v.category).sum ≤ 8) (hdg : decode cc pc = .ok (.invokevirtual index, 3))
    (hrc : rm.cells = mc) (hrs : rm.slots = ms) (hfr : rm.frames + 1 ≤ R.frames) (hlo : 8 + (maxL + 11) + rm.locals ≤ R.locals) (hcl : cells + mc ≤ R.cells) (hsl : slots + ms ≤ R.slots) :
    va_Run p l e R s m args below meth c H locs cells slots mc ms (F0 m pc ls st0) rest (Qc (Value.ref b :: As).toArray) free :=
  va_runVN (C := C) (x_fix E) hM ⟨x_cn E hcode hini hl hnm hrc hrs hfr hlo, E.2.2.2.1 _ hinst, E.2.2.2.1 _ hsel⟩ ⟨xP_blind, by rw [← hq]; exact va_recv E.2.2.2.2.2 hP hc he, xP_at hP E.2.2.2.2.2 hD hZ hS hF⟩ rfl rfl hsz hst (by simpa [JFrame.monitorRoom] using hrest) hdg ⟨hcl, hsl⟩
theorem x_S (E : xE p s m args c cc nL own D ty) (hM : Met l y (Cond.code y bytes maxL ret :: xtb) rm (xP D ty As wc H.size) Qc mc ms free) (hcode : Cond.code y bytes maxL ret ∈ xtb) (hini : Cond.initialized y.cls ∈ xtb) (hl : Cond.methodLink own index y ∈ xtb) (hstat : Cond.static y ∈ xtb) (hnm : x_nm y As.length = true)
    (hP : va_P D classes wc H) (hD : va_D A wc) (hZ : xZ A s s.heap) (hS : va_S A s.heap H locs) (hF : ∀ q, va_A wc H.size q → A q) (hsz : ls.size = nL) (hst : st0 = As.reverse ++ rest) (hrest : (rest.map fun v => v.category).sum ≤ 8) (hdg : decode cc pc = .ok (.invokestatic index, 3))
    (hrc : rm.cells = mc) (hrs : rm.slots = ms) (hfr : rm.frames + 1 ≤ R.frames) (hlo : 8 + (maxL + 11) + rm.locals ≤ R.locals) (hcl : cells + mc ≤ R.cells) (hsl : slots + ms ≤ R.slots) :
    va_Run p l e R s m args below meth c H locs cells slots mc ms (F0 m pc ls st0) rest (Qc As.toArray) free :=
  va_runS (x_fix E) hM ⟨x_cb E hcode hini hl hnm hrc hrs hfr hlo, E.2.2.2.1 _ hstat⟩ ⟨xP_blind, xP_at hP E.2.2.2.2.2 hD hZ hS hF⟩ rfl rfl hsz hst (by simpa [JFrame.monitorRoom] using hrest) hdg ⟨hcl, hsl⟩
theorem x_SN {host : String} (E : xE p s m args c cc nL own D ty) (hM : Met l y (Cond.code y bytes maxL ret :: xtb) rm (xP D ty As wc H.size) Qc mc ms free) (hcode : Cond.code y bytes maxL ret ∈ xtb) (hini : Cond.initialized y.cls ∈ xtb) (hl : Cond.methodLinkNest own index y host ∈ xtb) (hstat : Cond.static y ∈ xtb) (hnm : x_nm y As.length = true)
    (hP : va_P D classes wc H) (hD : va_D A wc) (hZ : xZ A s s.heap) (hS : va_S A s.heap H locs) (hF : ∀ q, va_A wc H.size q → A q) (hsz : ls.size = nL) (hst : st0 = As.reverse ++ rest) (hrest : (rest.map fun v => v.category).sum ≤ 8) (hdg : decode cc pc = .ok (.invokestatic index, 3))
    (hrc : rm.cells = mc) (hrs : rm.slots = ms) (hfr : rm.frames + 1 ≤ R.frames) (hlo : 8 + (maxL + 11) + rm.locals ≤ R.locals) (hcl : cells + mc ≤ R.cells) (hsl : slots + ms ≤ R.slots) :
    va_Run p l e R s m args below meth c H locs cells slots mc ms (F0 m pc ls st0) rest (Qc As.toArray) free :=
  va_runSN (x_fix E) hM ⟨x_cn E hcode hini hl hnm hrc hrs hfr hlo, E.2.2.2.1 _ hstat, trivial⟩ ⟨xP_blind, xP_at hP E.2.2.2.2.2 hD hZ hS hF⟩ rfl rfl hsz hst (by simpa [JFrame.monitorRoom] using hrest) hdg ⟨hcl, hsl⟩
theorem x_I (E : xE p s m args c cc nL own D ty) (hM : Met l y (Cond.code y bytes maxL none :: xtb) rm (xP D ty (.ref b :: As) wc H.size) Qc mc ms free) (hcode : Cond.code y bytes maxL none ∈ xtb) (hini : Cond.initialized y.cls ∈ xtb) (hl : Cond.methodLink own index y ∈ xtb) (hinst : Cond.instanceMethod y ∈ xtb) (hy1 : y.name = "<init>") (hnm : x_nm y As.length = true)
    (hP : va_P D classes wc H) (hD : va_D A wc) (hZ : xZ A s s.heap) (hS : va_S A s.heap H locs) (hF : ∀ q, va_A wc H.size q → A q) (hsz : ls.size = nL) (hst : st0 = As.reverse ++ .ref b :: rest) (hrest : (rest.map fun v => v.category).sum ≤ 8) (hdg : decode cc pc = .ok (.invokespecial index, 3))
    (hrc : rm.cells = mc) (hrs : rm.slots = ms) (hfr : rm.frames + 1 ≤ R.frames) (hlo : 8 + (maxL + 11) + rm.locals ≤ R.locals) (hcl : cells + mc ≤ R.cells) (hsl : slots + ms ≤ R.slots) :
    va_Run p l e R s m args below meth c H locs cells slots mc ms (F0 m pc ls st0) rest (Qc (Value.ref b :: As).toArray) free :=
  va_runI (x_fix E) hM ⟨x_cb E hcode hini hl hnm hrc hrs hfr hlo, hy1, E.2.2.2.1 _ hinst⟩ ⟨xP_blind, xP_at hP E.2.2.2.2.2 hD hZ hS hF⟩ rfl rfl hsz hst (by simpa [JFrame.monitorRoom] using hrest) hdg ⟨hcl, hsl⟩
theorem x_IN {host : String} (E : xE p s m args c cc nL own D ty) (hM : Met l y (Cond.code y bytes maxL none :: xtb) rm (xP D ty (.ref b :: As) wc H.size) Qc mc ms free) (hcode : Cond.code y bytes maxL none ∈ xtb) (hini : Cond.initialized y.cls ∈ xtb) (hl : Cond.methodLinkNest own index y host ∈ xtb) (hinst : Cond.instanceMethod y ∈ xtb) (hy1 : y.name = "<init>") (hnm : x_nm y As.length = true)
    (hP : va_P D classes wc H) (hD : va_D A wc) (hZ : xZ A s s.heap) (hS : va_S A s.heap H locs) (hF : ∀ q, va_A wc H.size q → A q) (hsz : ls.size = nL) (hst : st0 = As.reverse ++ .ref b :: rest) (hrest : (rest.map fun v => v.category).sum ≤ 8) (hdg : decode cc pc = .ok (.invokespecial index, 3))
    (hrc : rm.cells = mc) (hrs : rm.slots = ms) (hfr : rm.frames + 1 ≤ R.frames) (hlo : 8 + (maxL + 11) + rm.locals ≤ R.locals) (hcl : cells + mc ≤ R.cells) (hsl : slots + ms ≤ R.slots) :
    va_Run p l e R s m args below meth c H locs cells slots mc ms (F0 m pc ls st0) rest (Qc (Value.ref b :: As).toArray) free :=
  va_runIN (x_fix E) hM ⟨x_cn E hcode hini hl hnm hrc hrs hfr hlo, hy1, E.2.2.2.1 _ hinst⟩ ⟨xP_blind, xP_at hP E.2.2.2.2.2 hD hZ hS hF⟩ rfl rfl hsz hst (by simpa [JFrame.monitorRoom] using hrest) hdg ⟨hcl, hsl⟩
variable {a : Array Value}
/-- behind a call: the callee's world beside the rest -/
theorem x_rv {post : xW → Prop} (hr : va_Run p l e R s m args below meth c H locs cells slots mc ms (F0 m pc ls st0) rest (xQv D ty wc H.size post a) (va_A wc H.size)) (hP : va_P D classes ws H) (hD : va_D A ws) (hS : va_S A H0 H locs) (hA : ∀ q, H0.size ≤ q → A q) (isC isR : List Nat)
    (hC : isC.map (fun i => ws[i]?) = wc.map some) (hR : isR.map (fun i => ws[i]?) = wr.map some) (hn : va_nd isR = true) (hdis : ∀ i ∈ isR, i ∉ isC)
    (kk : ∀ (u : xW) (H1 : Heap) (locs1 : List Loc), post u → va_P D classes (wr ++ u) H1 → va_D A (wr ++ u) → va_S A H0 H1 locs1 → W p l e R s m args below meth c H1 locs1 (cells + mc) (slots + ms) Q (F0 m (pc + 3) ls rest)) : W p l e R s m args below meth c H locs cells slots Q (F0 m pc ls st0) := by
  have hFc := va_free (wc := wc) hD hS hA isC hC
  refine va_callv hr hS (fun q _ h => hFc q h) hFc (fun u t H1 locs1 ht hvm hw hB hz1 hk1 hS1 => ?_)
  obtain ⟨hP1, hK1, hD1⟩ := hB
  rw [ht] at hP1
  obtain ⟨hP2, hD2⟩ := va_join (wr := wr) (w1 := u) hP hD isC isR hC hR hn hdis hk1 hFc hP1 hD1
  exact kk u H1 locs1 hw hP2 hD2 hS1
theorem x_ri {post : Int32 → xW → Prop} (hr : va_Run p l e R s m args below meth c H locs cells slots mc ms (F0 m pc ls st0) rest (xQi D ty wc H.size post a) (va_A wc H.size)) (hP : va_P D classes ws H) (hD : va_D A ws) (hS : va_S A H0 H locs) (hA : ∀ q, H0.size ≤ q → A q) (isC isR : List Nat)
    (hC : isC.map (fun i => ws[i]?) = wc.map some) (hR : isR.map (fun i => ws[i]?) = wr.map some) (hn : va_nd isR = true) (hdis : ∀ i ∈ isR, i ∉ isC)
    (kk : ∀ (r : Int32) (u : xW) (H1 : Heap) (locs1 : List Loc), post r u → va_P D classes (wr ++ u) H1 → va_D A (wr ++ u) → va_S A H0 H1 locs1 → W p l e R s m args below meth c H1 locs1 (cells + mc) (slots + ms) Q (F0 m (pc + 3) ls (.int r :: rest))) : W p l e R s m args below meth c H locs cells slots Q (F0 m pc ls st0) := by
  have hFc := va_free (wc := wc) hD hS hA isC hC
  refine va_calli hr hS (fun q _ h => hFc q h) hFc (fun r u t H1 locs1 ht hvm hw hB hz1 hk1 hS1 => ?_)
  obtain ⟨hP1, hK1, hD1⟩ := hB
  rw [ht] at hP1
  obtain ⟨hP2, hD2⟩ := va_join (wr := wr) (w1 := u) hP hD isC isR hC hR hn hdis hk1 hFc hP1 hD1
  exact kk r u H1 locs1 hw hP2 hD2 hS1
theorem x_rl {post : Int64 → xW → Prop} (hr : va_Run p l e R s m args below meth c H locs cells slots mc ms (F0 m pc ls st0) rest (xQl D ty wc H.size post a) (va_A wc H.size)) (hP : va_P D classes ws H) (hD : va_D A ws) (hS : va_S A H0 H locs) (hA : ∀ q, H0.size ≤ q → A q) (isC isR : List Nat)
    (hC : isC.map (fun i => ws[i]?) = wc.map some) (hR : isR.map (fun i => ws[i]?) = wr.map some) (hn : va_nd isR = true) (hdis : ∀ i ∈ isR, i ∉ isC)
    (kk : ∀ (r : Int64) (u : xW) (H1 : Heap) (locs1 : List Loc), post r u → va_P D classes (wr ++ u) H1 → va_D A (wr ++ u) → va_S A H0 H1 locs1 → W p l e R s m args below meth c H1 locs1 (cells + mc) (slots + ms) Q (F0 m (pc + 3) ls (.long r :: rest))) : W p l e R s m args below meth c H locs cells slots Q (F0 m pc ls st0) := by
  have hFc := va_free (wc := wc) hD hS hA isC hC
  refine va_calll hr hS (fun q _ h => hFc q h) hFc (fun r u t H1 locs1 ht hvm hw hB hz1 hk1 hS1 => ?_)
  obtain ⟨hP1, hK1, hD1⟩ := hB
  rw [ht] at hP1
  obtain ⟨hP2, hD2⟩ := va_join (wr := wr) (w1 := u) hP hD isC isR hC hR hn hdis hk1 hFc hP1 hD1
  exact kk r u H1 locs1 hw hP2 hD2 hS1
/-- the ends -/
theorem x_vret {post : xW → Prop} (E : xE p s m args c cc nL own D ty) (hr : meth.sig.returnType = none) (hlocks : meth.locks = false) (hP : va_P D classes ws H) (hD : va_D (va_A wc s.heap.size) ws) (hS : va_S (va_A wc s.heap.size) s.heap H locs) (hq : post ws) (hdg : decode cc pc = .ok (.return_, 1)) :
    W p l e R s m args below meth c H locs cells slots (MQ below (xQv D ty wc s.heap.size post) args s cells slots (va_A wc s.heap.size)) (F0 m pc ls []) :=
  W.vret E.1 E.2.1 hr (fun t ht hW => ⟨⟨ws, rfl, hq, by rw [ht]; exact hP, va_K.moved hW.alike E.2.2.2.2.2, hD⟩, hS.F ht⟩) hS.2.2 hdg hlocks
theorem x_iret {post : Int32 → xW → Prop} {v : Int32} (E : xE p s m args c cc nL own D ty) (hr : meth.sig.returnType = some .int) (hlocks : meth.locks = false) (hP : va_P D classes ws H) (hD : va_D (va_A wc s.heap.size) ws) (hS : va_S (va_A wc s.heap.size) s.heap H locs) (hq : post v ws) (hdg : decode cc pc = .ok (.ireturn, 1)) :
    W p l e R s m args below meth c H locs cells slots (MQ below (xQi D ty wc s.heap.size post) args s cells slots (va_A wc s.heap.size)) (F0 m pc ls [.int v]) :=
  W.iret E.1 E.2.1 hr (fun t ht hW => ⟨⟨v, ws, rfl, hq, by rw [ht]; exact hP, va_K.moved hW.alike E.2.2.2.2.2, hD⟩, hS.F ht⟩) hS.2.2 hdg hlocks
theorem x_zret {post : Int32 → xW → Prop} {v : Int32} {tk : FieldType} (E : xE p s m args c cc nL own D ty) (hr : meth.sig.returnType = some tk) (hn : narrow tk (.int v) = .int v) (hlocks : meth.locks = false) (hP : va_P D classes ws H) (hD : va_D (va_A wc s.heap.size) ws) (hS : va_S (va_A wc s.heap.size) s.heap H locs) (hq : post v ws) (hdg : decode cc pc = .ok (.ireturn, 1)) :
    W p l e R s m args below meth c H locs cells slots (MQ below (xQi D ty wc s.heap.size post) args s cells slots (va_A wc s.heap.size)) (F0 m pc ls [.int v]) :=
  W.zret E.1 E.2.1 hr hn (fun t ht hW => ⟨⟨v, ws, rfl, hq, by rw [ht]; exact hP, va_K.moved hW.alike E.2.2.2.2.2, hD⟩, hS.F ht⟩) hS.2.2 hdg hlocks
end XK
/-- a contract out of a walk -/
theorem x_met {l : Launch} {y : MethodName} {cc : ByteArray} {maxL : Nat} {ret : Option FieldType} {rm : Room} {D : va_G} {ty : List (ClassId × FieldType)} {av : List Value} {ws : xW} {sz : Nat} {Qc : State → Array Value → State → Outcome → State → Prop} {Qd : Array Value → State → Outcome → State → Prop} {mc ms : Nat} {fr : State → Addr → Prop} {free : Addr → Prop} (own : String)
    (hy : plainName y.cls = true) (ho : y.cls = own) (hlen : (lg_sl av).length ≤ maxL) (hQ : ∀ s : State, s.heap.size = sz → Qc s = Qd) (hf : ∀ s : State, s.heap.size = sz → fr s = free)
    (body : ∀ (p : Program) (e : Env) (s : State) (m : MethodId) (below : List Frame) (meth : Method) (c : Code) (ls : Array Slot), xE p s m av.toArray c cc maxL own D ty → meth.sig.returnType = ret → meth.locks = false → meth.name = y.name → lv_has ls maxL (lv_args 0 av) →
      va_P D classes ws s.heap → va_D (va_A ws s.heap.size) ws → (∀ q : Nat, s.heap.size ≤ q → va_A ws s.heap.size q) → va_S (va_A ws s.heap.size) s.heap s.heap [] → xZ (va_A ws s.heap.size) s s.heap → l.admits e → W p l e rm s m av.toArray below meth c s.heap [] 0 0 (MQ below (Qc s) av.toArray s mc ms (fr s)) (F0 m 0 ls [])) :
    Met l y (Cond.code y cc maxL ret :: xtb) rm (xP D ty av ws sz) Qd mc ms free := by
  refine Met.ofW (cc := cc) (maxL := maxL) (ret := ret) hy rfl ?_
  intro p e s m args below meth c s₁ B hml hv
  obtain ⟨rfl, hsz, hP, hK, hD0, hZ⟩ := hv
  have hts := atoms_spec (ws := Cond.code y cc maxL ret :: xtb) B.pre
  have hown : s.vm.findClass own = some m.cls := by rw [← ho]; exact findClass_of_methodNamed B.named
  have hl := lv_entry av (n := maxL) hlen
  rw [lg_entry_eq]
  rw [← hQ s hsz, ← hf s hsz]
  exact body p e s m below meth c _ ⟨B.exec, B.bytes, hml, fun w h => hts w (List.mem_cons_of_mem _ h), hown, hK⟩ B.returns B.notSynchronized (name_of_methodNamed B.named B.method).1 hl hP hD0.self (fun q h => Or.inr h) va_S.rf (by rw [hsz]; exact hZ) B.admits
end
section
theorem d_Cursor_init_0 : decode prog_2_method_1_code 0 = .ok (.aload_n 0, 1) := by decide +kernel
theorem d_Cursor_init_1 : decode prog_2_method_1_code 1 = .ok (.invokespecial 3, 3) := by decide +kernel
theorem d_Cursor_init_4 : decode prog_2_method_1_code 4 = .ok (.aload_n 0, 1) := by decide +kernel
theorem d_Cursor_init_5 : decode prog_2_method_1_code 5 = .ok (.sipush 4000, 3) := by decide +kernel
theorem d_Cursor_init_8 : decode prog_2_method_1_code 8 = .ok (.newarray .byte, 2) := by decide +kernel
theorem d_Cursor_init_10 : decode prog_2_method_1_code 10 = .ok (.putfield 9, 3) := by decide +kernel
theorem d_Cursor_init_13 : decode prog_2_method_1_code 13 = .ok (.return_, 1) := by decide +kernel
theorem d_Types_init_0 : decode prog_10_method_1_code 0 = .ok (.aload_n 0, 1) := by decide +kernel
theorem d_Types_init_1 : decode prog_10_method_1_code 1 = .ok (.invokespecial 3, 3) := by decide +kernel
theorem d_Types_init_4 : decode prog_10_method_1_code 4 = .ok (.aload_n 0, 1) := by decide +kernel
theorem d_Types_init_5 : decode prog_10_method_1_code 5 = .ok (.bipush 40, 2) := by decide +kernel
theorem d_Types_init_7 : decode prog_10_method_1_code 7 = .ok (.newarray .int, 2) := by decide +kernel
theorem d_Types_init_9 : decode prog_10_method_1_code 9 = .ok (.putfield 9, 3) := by decide +kernel
theorem d_Types_init_12 : decode prog_10_method_1_code 12 = .ok (.aload_n 0, 1) := by decide +kernel
theorem d_Types_init_13 : decode prog_10_method_1_code 13 = .ok (.bipush 40, 2) := by decide +kernel
theorem d_Types_init_15 : decode prog_10_method_1_code 15 = .ok (.newarray .int, 2) := by decide +kernel
theorem d_Types_init_17 : decode prog_10_method_1_code 17 = .ok (.putfield 15, 3) := by decide +kernel
theorem d_Types_init_20 : decode prog_10_method_1_code 20 = .ok (.aload_n 0, 1) := by decide +kernel
theorem d_Types_init_21 : decode prog_10_method_1_code 21 = .ok (.bipush 40, 2) := by decide +kernel
theorem d_Types_init_23 : decode prog_10_method_1_code 23 = .ok (.newarray .int, 2) := by decide +kernel
theorem d_Types_init_25 : decode prog_10_method_1_code 25 = .ok (.putfield 18, 3) := by decide +kernel
theorem d_Types_init_28 : decode prog_10_method_1_code 28 = .ok (.return_, 1) := by decide +kernel
theorem d_Functions_init_0 : decode prog_4_method_1_code 0 = .ok (.aload_n 0, 1) := by decide +kernel
theorem d_Functions_init_1 : decode prog_4_method_1_code 1 = .ok (.invokespecial 3, 3) := by decide +kernel
theorem d_Functions_init_4 : decode prog_4_method_1_code 4 = .ok (.aload_n 0, 1) := by decide +kernel
theorem d_Functions_init_5 : decode prog_4_method_1_code 5 = .ok (.bipush 60, 2) := by decide +kernel
theorem d_Functions_init_7 : decode prog_4_method_1_code 7 = .ok (.newarray .int, 2) := by decide +kernel
theorem d_Functions_init_9 : decode prog_4_method_1_code 9 = .ok (.putfield 9, 3) := by decide +kernel
theorem d_Functions_init_12 : decode prog_4_method_1_code 12 = .ok (.aload_n 0, 1) := by decide +kernel
theorem d_Functions_init_13 : decode prog_4_method_1_code 13 = .ok (.bipush 60, 2) := by decide +kernel
theorem d_Functions_init_15 : decode prog_4_method_1_code 15 = .ok (.newarray .int, 2) := by decide +kernel
theorem d_Functions_init_17 : decode prog_4_method_1_code 17 = .ok (.putfield 15, 3) := by decide +kernel
theorem d_Functions_init_20 : decode prog_4_method_1_code 20 = .ok (.aload_n 0, 1) := by decide +kernel
theorem d_Functions_init_21 : decode prog_4_method_1_code 21 = .ok (.bipush 60, 2) := by decide +kernel
theorem d_Functions_init_23 : decode prog_4_method_1_code 23 = .ok (.newarray .int, 2) := by decide +kernel
theorem d_Functions_init_25 : decode prog_4_method_1_code 25 = .ok (.putfield 18, 3) := by decide +kernel
theorem d_Functions_init_28 : decode prog_4_method_1_code 28 = .ok (.aload_n 0, 1) := by decide +kernel
theorem d_Functions_init_29 : decode prog_4_method_1_code 29 = .ok (.bipush 60, 2) := by decide +kernel
theorem d_Functions_init_31 : decode prog_4_method_1_code 31 = .ok (.newarray .int, 2) := by decide +kernel
theorem d_Functions_init_33 : decode prog_4_method_1_code 33 = .ok (.putfield 21, 3) := by decide +kernel
theorem d_Functions_init_36 : decode prog_4_method_1_code 36 = .ok (.aload_n 0, 1) := by decide +kernel
theorem d_Functions_init_37 : decode prog_4_method_1_code 37 = .ok (.bipush 60, 2) := by decide +kernel
theorem d_Functions_init_39 : decode prog_4_method_1_code 39 = .ok (.newarray .int, 2) := by decide +kernel
theorem d_Functions_init_41 : decode prog_4_method_1_code 41 = .ok (.putfield 24, 3) := by decide +kernel
theorem d_Functions_init_44 : decode prog_4_method_1_code 44 = .ok (.aload_n 0, 1) := by decide +kernel
theorem d_Functions_init_45 : decode prog_4_method_1_code 45 = .ok (.bipush 60, 2) := by decide +kernel
theorem d_Functions_init_47 : decode prog_4_method_1_code 47 = .ok (.newarray .int, 2) := by decide +kernel
theorem d_Functions_init_49 : decode prog_4_method_1_code 49 = .ok (.putfield 27, 3) := by decide +kernel
theorem d_Functions_init_52 : decode prog_4_method_1_code 52 = .ok (.aload_n 0, 1) := by decide +kernel
theorem d_Functions_init_53 : decode prog_4_method_1_code 53 = .ok (.bipush 60, 2) := by decide +kernel
theorem d_Functions_init_55 : decode prog_4_method_1_code 55 = .ok (.newarray .int, 2) := by decide +kernel
theorem d_Functions_init_57 : decode prog_4_method_1_code 57 = .ok (.putfield 30, 3) := by decide +kernel
theorem d_Functions_init_60 : decode prog_4_method_1_code 60 = .ok (.return_, 1) := by decide +kernel
theorem d_Globals_init_0 : decode prog_5_method_1_code 0 = .ok (.aload_n 0, 1) := by decide +kernel
theorem d_Globals_init_1 : decode prog_5_method_1_code 1 = .ok (.invokespecial 3, 3) := by decide +kernel
theorem d_Globals_init_4 : decode prog_5_method_1_code 4 = .ok (.aload_n 0, 1) := by decide +kernel
theorem d_Globals_init_5 : decode prog_5_method_1_code 5 = .ok (.bipush 30, 2) := by decide +kernel
theorem d_Globals_init_7 : decode prog_5_method_1_code 7 = .ok (.newarray .int, 2) := by decide +kernel
theorem d_Globals_init_9 : decode prog_5_method_1_code 9 = .ok (.putfield 9, 3) := by decide +kernel
theorem d_Globals_init_12 : decode prog_5_method_1_code 12 = .ok (.aload_n 0, 1) := by decide +kernel
theorem d_Globals_init_13 : decode prog_5_method_1_code 13 = .ok (.bipush 30, 2) := by decide +kernel
theorem d_Globals_init_15 : decode prog_5_method_1_code 15 = .ok (.newarray .boolean, 2) := by decide +kernel
theorem d_Globals_init_17 : decode prog_5_method_1_code 17 = .ok (.putfield 15, 3) := by decide +kernel
theorem d_Globals_init_20 : decode prog_5_method_1_code 20 = .ok (.aload_n 0, 1) := by decide +kernel
theorem d_Globals_init_21 : decode prog_5_method_1_code 21 = .ok (.bipush 30, 2) := by decide +kernel
theorem d_Globals_init_23 : decode prog_5_method_1_code 23 = .ok (.newarray .int, 2) := by decide +kernel
theorem d_Globals_init_25 : decode prog_5_method_1_code 25 = .ok (.putfield 19, 3) := by decide +kernel
theorem d_Globals_init_28 : decode prog_5_method_1_code 28 = .ok (.aload_n 0, 1) := by decide +kernel
theorem d_Globals_init_29 : decode prog_5_method_1_code 29 = .ok (.bipush 30, 2) := by decide +kernel
theorem d_Globals_init_31 : decode prog_5_method_1_code 31 = .ok (.newarray .long, 2) := by decide +kernel
theorem d_Globals_init_33 : decode prog_5_method_1_code 33 = .ok (.putfield 22, 3) := by decide +kernel
theorem d_Globals_init_36 : decode prog_5_method_1_code 36 = .ok (.return_, 1) := by decide +kernel
theorem d_Exports_init_0 : decode prog_3_method_1_code 0 = .ok (.aload_n 0, 1) := by decide +kernel
theorem d_Exports_init_1 : decode prog_3_method_1_code 1 = .ok (.invokespecial 3, 3) := by decide +kernel
theorem d_Exports_init_4 : decode prog_3_method_1_code 4 = .ok (.aload_n 0, 1) := by decide +kernel
theorem d_Exports_init_5 : decode prog_3_method_1_code 5 = .ok (.bipush 40, 2) := by decide +kernel
theorem d_Exports_init_7 : decode prog_3_method_1_code 7 = .ok (.newarray .int, 2) := by decide +kernel
theorem d_Exports_init_9 : decode prog_3_method_1_code 9 = .ok (.putfield 9, 3) := by decide +kernel
theorem d_Exports_init_12 : decode prog_3_method_1_code 12 = .ok (.aload_n 0, 1) := by decide +kernel
theorem d_Exports_init_13 : decode prog_3_method_1_code 13 = .ok (.bipush 40, 2) := by decide +kernel
theorem d_Exports_init_15 : decode prog_3_method_1_code 15 = .ok (.newarray .int, 2) := by decide +kernel
theorem d_Exports_init_17 : decode prog_3_method_1_code 17 = .ok (.putfield 15, 3) := by decide +kernel
theorem d_Exports_init_20 : decode prog_3_method_1_code 20 = .ok (.aload_n 0, 1) := by decide +kernel
theorem d_Exports_init_21 : decode prog_3_method_1_code 21 = .ok (.bipush 40, 2) := by decide +kernel
theorem d_Exports_init_23 : decode prog_3_method_1_code 23 = .ok (.newarray .int, 2) := by decide +kernel
theorem d_Exports_init_25 : decode prog_3_method_1_code 25 = .ok (.putfield 18, 3) := by decide +kernel
theorem d_Exports_init_28 : decode prog_3_method_1_code 28 = .ok (.aload_n 0, 1) := by decide +kernel
theorem d_Exports_init_29 : decode prog_3_method_1_code 29 = .ok (.sipush 800, 3) := by decide +kernel
theorem d_Exports_init_32 : decode prog_3_method_1_code 32 = .ok (.newarray .byte, 2) := by decide +kernel
theorem d_Exports_init_34 : decode prog_3_method_1_code 34 = .ok (.putfield 21, 3) := by decide +kernel
theorem d_Exports_init_37 : decode prog_3_method_1_code 37 = .ok (.return_, 1) := by decide +kernel
theorem d_Segments_init_0 : decode prog_7_method_1_code 0 = .ok (.aload_n 0, 1) := by decide +kernel
theorem d_Segments_init_1 : decode prog_7_method_1_code 1 = .ok (.invokespecial 3, 3) := by decide +kernel
theorem d_Segments_init_4 : decode prog_7_method_1_code 4 = .ok (.aload_n 0, 1) := by decide +kernel
theorem d_Segments_init_5 : decode prog_7_method_1_code 5 = .ok (.bipush 20, 2) := by decide +kernel
theorem d_Segments_init_7 : decode prog_7_method_1_code 7 = .ok (.newarray .int, 2) := by decide +kernel
theorem d_Segments_init_9 : decode prog_7_method_1_code 9 = .ok (.putfield 9, 3) := by decide +kernel
theorem d_Segments_init_12 : decode prog_7_method_1_code 12 = .ok (.aload_n 0, 1) := by decide +kernel
theorem d_Segments_init_13 : decode prog_7_method_1_code 13 = .ok (.bipush 20, 2) := by decide +kernel
theorem d_Segments_init_15 : decode prog_7_method_1_code 15 = .ok (.newarray .int, 2) := by decide +kernel
theorem d_Segments_init_17 : decode prog_7_method_1_code 17 = .ok (.putfield 15, 3) := by decide +kernel
theorem d_Segments_init_20 : decode prog_7_method_1_code 20 = .ok (.aload_n 0, 1) := by decide +kernel
theorem d_Segments_init_21 : decode prog_7_method_1_code 21 = .ok (.bipush 20, 2) := by decide +kernel
theorem d_Segments_init_23 : decode prog_7_method_1_code 23 = .ok (.newarray .long, 2) := by decide +kernel
theorem d_Segments_init_25 : decode prog_7_method_1_code 25 = .ok (.putfield 18, 3) := by decide +kernel
theorem d_Segments_init_28 : decode prog_7_method_1_code 28 = .ok (.aload_n 0, 1) := by decide +kernel
theorem d_Segments_init_29 : decode prog_7_method_1_code 29 = .ok (.bipush 20, 2) := by decide +kernel
theorem d_Segments_init_31 : decode prog_7_method_1_code 31 = .ok (.newarray .int, 2) := by decide +kernel
theorem d_Segments_init_33 : decode prog_7_method_1_code 33 = .ok (.putfield 22, 3) := by decide +kernel
theorem d_Segments_init_36 : decode prog_7_method_1_code 36 = .ok (.return_, 1) := by decide +kernel
theorem d_Sized_init_0 : decode prog_8_method_1_code 0 = .ok (.aload_n 0, 1) := by decide +kernel
theorem d_Sized_init_1 : decode prog_8_method_1_code 1 = .ok (.invokespecial 1, 3) := by decide +kernel
theorem d_Sized_init_4 : decode prog_8_method_1_code 4 = .ok (.return_, 1) := by decide +kernel
theorem d_TypeStack_init_0 : decode prog_9_method_1_code 0 = .ok (.aload_n 0, 1) := by decide +kernel
theorem d_TypeStack_init_1 : decode prog_9_method_1_code 1 = .ok (.invokespecial 3, 3) := by decide +kernel
theorem d_TypeStack_init_4 : decode prog_9_method_1_code 4 = .ok (.aload_n 0, 1) := by decide +kernel
theorem d_TypeStack_init_5 : decode prog_9_method_1_code 5 = .ok (.sipush 4000, 3) := by decide +kernel
theorem d_TypeStack_init_8 : decode prog_9_method_1_code 8 = .ok (.newarray .byte, 2) := by decide +kernel
theorem d_TypeStack_init_10 : decode prog_9_method_1_code 10 = .ok (.putfield 9, 3) := by decide +kernel
theorem d_TypeStack_init_13 : decode prog_9_method_1_code 13 = .ok (.aload_n 0, 1) := by decide +kernel
theorem d_TypeStack_init_14 : decode prog_9_method_1_code 14 = .ok (.bipush 31, 2) := by decide +kernel
theorem d_TypeStack_init_16 : decode prog_9_method_1_code 16 = .ok (.newarray .int, 2) := by decide +kernel
theorem d_TypeStack_init_18 : decode prog_9_method_1_code 18 = .ok (.putfield 15, 3) := by decide +kernel
theorem d_TypeStack_init_21 : decode prog_9_method_1_code 21 = .ok (.aload_n 0, 1) := by decide +kernel
theorem d_TypeStack_init_22 : decode prog_9_method_1_code 22 = .ok (.bipush 31, 2) := by decide +kernel
theorem d_TypeStack_init_24 : decode prog_9_method_1_code 24 = .ok (.newarray .int, 2) := by decide +kernel
theorem d_TypeStack_init_26 : decode prog_9_method_1_code 26 = .ok (.putfield 19, 3) := by decide +kernel
theorem d_TypeStack_init_29 : decode prog_9_method_1_code 29 = .ok (.aload_n 0, 1) := by decide +kernel
theorem d_TypeStack_init_30 : decode prog_9_method_1_code 30 = .ok (.bipush 31, 2) := by decide +kernel
theorem d_TypeStack_init_32 : decode prog_9_method_1_code 32 = .ok (.newarray .int, 2) := by decide +kernel
theorem d_TypeStack_init_34 : decode prog_9_method_1_code 34 = .ok (.putfield 22, 3) := by decide +kernel
theorem d_TypeStack_init_37 : decode prog_9_method_1_code 37 = .ok (.aload_n 0, 1) := by decide +kernel
theorem d_TypeStack_init_38 : decode prog_9_method_1_code 38 = .ok (.bipush 31, 2) := by decide +kernel
theorem d_TypeStack_init_40 : decode prog_9_method_1_code 40 = .ok (.newarray .boolean, 2) := by decide +kernel
theorem d_TypeStack_init_42 : decode prog_9_method_1_code 42 = .ok (.putfield 25, 3) := by decide +kernel
theorem d_TypeStack_init_45 : decode prog_9_method_1_code 45 = .ok (.return_, 1) := by decide +kernel
theorem d_WasmModule_init_0 : decode prog_12_method_1_code 0 = .ok (.aload_n 0, 1) := by decide +kernel
theorem d_WasmModule_init_1 : decode prog_12_method_1_code 1 = .ok (.invokespecial 3, 3) := by decide +kernel
theorem d_WasmModule_init_4 : decode prog_12_method_1_code 4 = .ok (.aload_n 0, 1) := by decide +kernel
theorem d_WasmModule_init_5 : decode prog_12_method_1_code 5 = .ok (.new 9, 3) := by decide +kernel
theorem d_WasmModule_init_8 : decode prog_12_method_1_code 8 = .ok (.dup, 1) := by decide +kernel
theorem d_WasmModule_init_9 : decode prog_12_method_1_code 9 = .ok (.invokespecial 11, 3) := by decide +kernel
theorem d_WasmModule_init_12 : decode prog_12_method_1_code 12 = .ok (.putfield 12, 3) := by decide +kernel
theorem d_WasmModule_init_15 : decode prog_12_method_1_code 15 = .ok (.aload_n 0, 1) := by decide +kernel
theorem d_WasmModule_init_16 : decode prog_12_method_1_code 16 = .ok (.new 18, 3) := by decide +kernel
theorem d_WasmModule_init_19 : decode prog_12_method_1_code 19 = .ok (.dup, 1) := by decide +kernel
theorem d_WasmModule_init_20 : decode prog_12_method_1_code 20 = .ok (.invokespecial 20, 3) := by decide +kernel
theorem d_WasmModule_init_23 : decode prog_12_method_1_code 23 = .ok (.putfield 21, 3) := by decide +kernel
theorem d_WasmModule_init_26 : decode prog_12_method_1_code 26 = .ok (.aload_n 0, 1) := by decide +kernel
theorem d_WasmModule_init_27 : decode prog_12_method_1_code 27 = .ok (.new 25, 3) := by decide +kernel
theorem d_WasmModule_init_30 : decode prog_12_method_1_code 30 = .ok (.dup, 1) := by decide +kernel
theorem d_WasmModule_init_31 : decode prog_12_method_1_code 31 = .ok (.invokespecial 27, 3) := by decide +kernel
theorem d_WasmModule_init_34 : decode prog_12_method_1_code 34 = .ok (.putfield 28, 3) := by decide +kernel
theorem d_WasmModule_init_37 : decode prog_12_method_1_code 37 = .ok (.aload_n 0, 1) := by decide +kernel
theorem d_WasmModule_init_38 : decode prog_12_method_1_code 38 = .ok (.new 32, 3) := by decide +kernel
theorem d_WasmModule_init_41 : decode prog_12_method_1_code 41 = .ok (.dup, 1) := by decide +kernel
theorem d_WasmModule_init_42 : decode prog_12_method_1_code 42 = .ok (.invokespecial 34, 3) := by decide +kernel
theorem d_WasmModule_init_45 : decode prog_12_method_1_code 45 = .ok (.putfield 35, 3) := by decide +kernel
theorem d_WasmModule_init_48 : decode prog_12_method_1_code 48 = .ok (.aload_n 0, 1) := by decide +kernel
theorem d_WasmModule_init_49 : decode prog_12_method_1_code 49 = .ok (.new 39, 3) := by decide +kernel
theorem d_WasmModule_init_52 : decode prog_12_method_1_code 52 = .ok (.dup, 1) := by decide +kernel
theorem d_WasmModule_init_53 : decode prog_12_method_1_code 53 = .ok (.invokespecial 41, 3) := by decide +kernel
theorem d_WasmModule_init_56 : decode prog_12_method_1_code 56 = .ok (.putfield 42, 3) := by decide +kernel
theorem d_WasmModule_init_59 : decode prog_12_method_1_code 59 = .ok (.aload_n 0, 1) := by decide +kernel
theorem d_WasmModule_init_60 : decode prog_12_method_1_code 60 = .ok (.new 39, 3) := by decide +kernel
theorem d_WasmModule_init_63 : decode prog_12_method_1_code 63 = .ok (.dup, 1) := by decide +kernel
theorem d_WasmModule_init_64 : decode prog_12_method_1_code 64 = .ok (.invokespecial 41, 3) := by decide +kernel
theorem d_WasmModule_init_67 : decode prog_12_method_1_code 67 = .ok (.putfield 46, 3) := by decide +kernel
theorem d_WasmModule_init_70 : decode prog_12_method_1_code 70 = .ok (.aload_n 0, 1) := by decide +kernel
theorem d_WasmModule_init_71 : decode prog_12_method_1_code 71 = .ok (.new 49, 3) := by decide +kernel
theorem d_WasmModule_init_74 : decode prog_12_method_1_code 74 = .ok (.dup, 1) := by decide +kernel
theorem d_WasmModule_init_75 : decode prog_12_method_1_code 75 = .ok (.invokespecial 51, 3) := by decide +kernel
theorem d_WasmModule_init_78 : decode prog_12_method_1_code 78 = .ok (.putfield 52, 3) := by decide +kernel
theorem d_WasmModule_init_81 : decode prog_12_method_1_code 81 = .ok (.aload_n 0, 1) := by decide +kernel
theorem d_WasmModule_init_82 : decode prog_12_method_1_code 82 = .ok (.new 49, 3) := by decide +kernel
theorem d_WasmModule_init_85 : decode prog_12_method_1_code 85 = .ok (.dup, 1) := by decide +kernel
theorem d_WasmModule_init_86 : decode prog_12_method_1_code 86 = .ok (.invokespecial 51, 3) := by decide +kernel
theorem d_WasmModule_init_89 : decode prog_12_method_1_code 89 = .ok (.putfield 56, 3) := by decide +kernel
theorem d_WasmModule_init_92 : decode prog_12_method_1_code 92 = .ok (.return_, 1) := by decide +kernel
theorem d_Reader_init_0 : decode prog_1_method_1_code 0 = .ok (.aload_n 0, 1) := by decide +kernel
theorem d_Reader_init_1 : decode prog_1_method_1_code 1 = .ok (.invokespecial 1, 3) := by decide +kernel
theorem d_Reader_init_4 : decode prog_1_method_1_code 4 = .ok (.aload_n 0, 1) := by decide +kernel
theorem d_Reader_init_5 : decode prog_1_method_1_code 5 = .ok (.new 7, 3) := by decide +kernel
theorem d_Reader_init_8 : decode prog_1_method_1_code 8 = .ok (.dup, 1) := by decide +kernel
theorem d_Reader_init_9 : decode prog_1_method_1_code 9 = .ok (.invokespecial 9, 3) := by decide +kernel
theorem d_Reader_init_12 : decode prog_1_method_1_code 12 = .ok (.putfield 10, 3) := by decide +kernel
theorem d_Reader_init_15 : decode prog_1_method_1_code 15 = .ok (.aload_n 0, 1) := by decide +kernel
theorem d_Reader_init_16 : decode prog_1_method_1_code 16 = .ok (.new 16, 3) := by decide +kernel
theorem d_Reader_init_19 : decode prog_1_method_1_code 19 = .ok (.dup, 1) := by decide +kernel
theorem d_Reader_init_20 : decode prog_1_method_1_code 20 = .ok (.invokespecial 18, 3) := by decide +kernel
theorem d_Reader_init_23 : decode prog_1_method_1_code 23 = .ok (.putfield 19, 3) := by decide +kernel
theorem d_Reader_init_26 : decode prog_1_method_1_code 26 = .ok (.aload_n 0, 1) := by decide +kernel
theorem d_Reader_init_27 : decode prog_1_method_1_code 27 = .ok (.sipush 2000, 3) := by decide +kernel
theorem d_Reader_init_30 : decode prog_1_method_1_code 30 = .ok (.newarray .boolean, 2) := by decide +kernel
theorem d_Reader_init_32 : decode prog_1_method_1_code 32 = .ok (.putfield 23, 3) := by decide +kernel
theorem d_Reader_init_35 : decode prog_1_method_1_code 35 = .ok (.aload_n 0, 1) := by decide +kernel
theorem d_Reader_init_36 : decode prog_1_method_1_code 36 = .ok (.new 27, 3) := by decide +kernel
theorem d_Reader_init_39 : decode prog_1_method_1_code 39 = .ok (.dup, 1) := by decide +kernel
theorem d_Reader_init_40 : decode prog_1_method_1_code 40 = .ok (.invokespecial 29, 3) := by decide +kernel
theorem d_Reader_init_43 : decode prog_1_method_1_code 43 = .ok (.putfield 30, 3) := by decide +kernel
theorem d_Reader_init_46 : decode prog_1_method_1_code 46 = .ok (.return_, 1) := by decide +kernel
theorem d_Unit_init_0 : decode prog_16_method_1_code 0 = .ok (.aload_n 0, 1) := by decide +kernel
theorem d_Unit_init_1 : decode prog_16_method_1_code 1 = .ok (.invokespecial 3, 3) := by decide +kernel
theorem d_Unit_init_4 : decode prog_16_method_1_code 4 = .ok (.aload_n 0, 1) := by decide +kernel
theorem d_Unit_init_5 : decode prog_16_method_1_code 5 = .ok (.sipush 4000, 3) := by decide +kernel
theorem d_Unit_init_8 : decode prog_16_method_1_code 8 = .ok (.newarray .byte, 2) := by decide +kernel
theorem d_Unit_init_10 : decode prog_16_method_1_code 10 = .ok (.putfield 9, 3) := by decide +kernel
theorem d_Unit_init_13 : decode prog_16_method_1_code 13 = .ok (.aload_n 0, 1) := by decide +kernel
theorem d_Unit_init_14 : decode prog_16_method_1_code 14 = .ok (.bipush 40, 2) := by decide +kernel
theorem d_Unit_init_16 : decode prog_16_method_1_code 16 = .ok (.newarray .int, 2) := by decide +kernel
theorem d_Unit_init_18 : decode prog_16_method_1_code 18 = .ok (.putfield 15, 3) := by decide +kernel
theorem d_Unit_init_21 : decode prog_16_method_1_code 21 = .ok (.aload_n 0, 1) := by decide +kernel
theorem d_Unit_init_22 : decode prog_16_method_1_code 22 = .ok (.sipush 240, 3) := by decide +kernel
theorem d_Unit_init_25 : decode prog_16_method_1_code 25 = .ok (.newarray .int, 2) := by decide +kernel
theorem d_Unit_init_27 : decode prog_16_method_1_code 27 = .ok (.putfield 19, 3) := by decide +kernel
theorem d_Unit_init_30 : decode prog_16_method_1_code 30 = .ok (.aload_n 0, 1) := by decide +kernel
theorem d_Unit_init_31 : decode prog_16_method_1_code 31 = .ok (.bipush 40, 2) := by decide +kernel
theorem d_Unit_init_33 : decode prog_16_method_1_code 33 = .ok (.newarray .int, 2) := by decide +kernel
theorem d_Unit_init_35 : decode prog_16_method_1_code 35 = .ok (.putfield 22, 3) := by decide +kernel
theorem d_Unit_init_38 : decode prog_16_method_1_code 38 = .ok (.aload_n 0, 1) := by decide +kernel
theorem d_Unit_init_39 : decode prog_16_method_1_code 39 = .ok (.bipush 30, 2) := by decide +kernel
theorem d_Unit_init_41 : decode prog_16_method_1_code 41 = .ok (.newarray .int, 2) := by decide +kernel
theorem d_Unit_init_43 : decode prog_16_method_1_code 43 = .ok (.putfield 25, 3) := by decide +kernel
theorem d_Unit_init_46 : decode prog_16_method_1_code 46 = .ok (.aload_n 0, 1) := by decide +kernel
theorem d_Unit_init_47 : decode prog_16_method_1_code 47 = .ok (.bipush 30, 2) := by decide +kernel
theorem d_Unit_init_49 : decode prog_16_method_1_code 49 = .ok (.newarray .int, 2) := by decide +kernel
theorem d_Unit_init_51 : decode prog_16_method_1_code 51 = .ok (.putfield 28, 3) := by decide +kernel
theorem d_Unit_init_54 : decode prog_16_method_1_code 54 = .ok (.aload_n 0, 1) := by decide +kernel
theorem d_Unit_init_55 : decode prog_16_method_1_code 55 = .ok (.bipush 30, 2) := by decide +kernel
theorem d_Unit_init_57 : decode prog_16_method_1_code 57 = .ok (.newarray .int, 2) := by decide +kernel
theorem d_Unit_init_59 : decode prog_16_method_1_code 59 = .ok (.putfield 31, 3) := by decide +kernel
theorem d_Unit_init_62 : decode prog_16_method_1_code 62 = .ok (.aload_n 0, 1) := by decide +kernel
theorem d_Unit_init_63 : decode prog_16_method_1_code 63 = .ok (.bipush 30, 2) := by decide +kernel
theorem d_Unit_init_65 : decode prog_16_method_1_code 65 = .ok (.newarray .int, 2) := by decide +kernel
theorem d_Unit_init_67 : decode prog_16_method_1_code 67 = .ok (.putfield 34, 3) := by decide +kernel
theorem d_Unit_init_70 : decode prog_16_method_1_code 70 = .ok (.aload_n 0, 1) := by decide +kernel
theorem d_Unit_init_71 : decode prog_16_method_1_code 71 = .ok (.bipush 30, 2) := by decide +kernel
theorem d_Unit_init_73 : decode prog_16_method_1_code 73 = .ok (.newarray .int, 2) := by decide +kernel
theorem d_Unit_init_75 : decode prog_16_method_1_code 75 = .ok (.putfield 37, 3) := by decide +kernel
theorem d_Unit_init_78 : decode prog_16_method_1_code 78 = .ok (.aload_n 0, 1) := by decide +kernel
theorem d_Unit_init_79 : decode prog_16_method_1_code 79 = .ok (.bipush 30, 2) := by decide +kernel
theorem d_Unit_init_81 : decode prog_16_method_1_code 81 = .ok (.newarray .int, 2) := by decide +kernel
theorem d_Unit_init_83 : decode prog_16_method_1_code 83 = .ok (.putfield 40, 3) := by decide +kernel
theorem d_Unit_init_86 : decode prog_16_method_1_code 86 = .ok (.aload_n 0, 1) := by decide +kernel
theorem d_Unit_init_87 : decode prog_16_method_1_code 87 = .ok (.bipush 30, 2) := by decide +kernel
theorem d_Unit_init_89 : decode prog_16_method_1_code 89 = .ok (.newarray .long, 2) := by decide +kernel
theorem d_Unit_init_91 : decode prog_16_method_1_code 91 = .ok (.putfield 43, 3) := by decide +kernel
theorem d_Unit_init_94 : decode prog_16_method_1_code 94 = .ok (.aload_n 0, 1) := by decide +kernel
theorem d_Unit_init_95 : decode prog_16_method_1_code 95 = .ok (.bipush 60, 2) := by decide +kernel
theorem d_Unit_init_97 : decode prog_16_method_1_code 97 = .ok (.newarray .int, 2) := by decide +kernel
theorem d_Unit_init_99 : decode prog_16_method_1_code 99 = .ok (.putfield 47, 3) := by decide +kernel
theorem d_Unit_init_102 : decode prog_16_method_1_code 102 = .ok (.aload_n 0, 1) := by decide +kernel
theorem d_Unit_init_103 : decode prog_16_method_1_code 103 = .ok (.bipush 60, 2) := by decide +kernel
theorem d_Unit_init_105 : decode prog_16_method_1_code 105 = .ok (.newarray .int, 2) := by decide +kernel
theorem d_Unit_init_107 : decode prog_16_method_1_code 107 = .ok (.putfield 50, 3) := by decide +kernel
theorem d_Unit_init_110 : decode prog_16_method_1_code 110 = .ok (.aload_n 0, 1) := by decide +kernel
theorem d_Unit_init_111 : decode prog_16_method_1_code 111 = .ok (.bipush 30, 2) := by decide +kernel
theorem d_Unit_init_113 : decode prog_16_method_1_code 113 = .ok (.newarray .int, 2) := by decide +kernel
theorem d_Unit_init_115 : decode prog_16_method_1_code 115 = .ok (.putfield 53, 3) := by decide +kernel
theorem d_Unit_init_118 : decode prog_16_method_1_code 118 = .ok (.aload_n 0, 1) := by decide +kernel
theorem d_Unit_init_119 : decode prog_16_method_1_code 119 = .ok (.bipush 30, 2) := by decide +kernel
theorem d_Unit_init_121 : decode prog_16_method_1_code 121 = .ok (.newarray .int, 2) := by decide +kernel
theorem d_Unit_init_123 : decode prog_16_method_1_code 123 = .ok (.putfield 56, 3) := by decide +kernel
theorem d_Unit_init_126 : decode prog_16_method_1_code 126 = .ok (.aload_n 0, 1) := by decide +kernel
theorem d_Unit_init_127 : decode prog_16_method_1_code 127 = .ok (.bipush 30, 2) := by decide +kernel
theorem d_Unit_init_129 : decode prog_16_method_1_code 129 = .ok (.newarray .int, 2) := by decide +kernel
theorem d_Unit_init_131 : decode prog_16_method_1_code 131 = .ok (.putfield 59, 3) := by decide +kernel
theorem d_Unit_init_134 : decode prog_16_method_1_code 134 = .ok (.aload_n 0, 1) := by decide +kernel
theorem d_Unit_init_135 : decode prog_16_method_1_code 135 = .ok (.bipush 30, 2) := by decide +kernel
theorem d_Unit_init_137 : decode prog_16_method_1_code 137 = .ok (.newarray .boolean, 2) := by decide +kernel
theorem d_Unit_init_139 : decode prog_16_method_1_code 139 = .ok (.putfield 62, 3) := by decide +kernel
theorem d_Unit_init_142 : decode prog_16_method_1_code 142 = .ok (.aload_n 0, 1) := by decide +kernel
theorem d_Unit_init_143 : decode prog_16_method_1_code 143 = .ok (.bipush 30, 2) := by decide +kernel
theorem d_Unit_init_145 : decode prog_16_method_1_code 145 = .ok (.newarray .long, 2) := by decide +kernel
theorem d_Unit_init_147 : decode prog_16_method_1_code 147 = .ok (.putfield 66, 3) := by decide +kernel
theorem d_Unit_init_150 : decode prog_16_method_1_code 150 = .ok (.aload_n 0, 1) := by decide +kernel
theorem d_Unit_init_151 : decode prog_16_method_1_code 151 = .ok (.bipush 40, 2) := by decide +kernel
theorem d_Unit_init_153 : decode prog_16_method_1_code 153 = .ok (.newarray .int, 2) := by decide +kernel
theorem d_Unit_init_155 : decode prog_16_method_1_code 155 = .ok (.putfield 69, 3) := by decide +kernel
theorem d_Unit_init_158 : decode prog_16_method_1_code 158 = .ok (.aload_n 0, 1) := by decide +kernel
theorem d_Unit_init_159 : decode prog_16_method_1_code 159 = .ok (.bipush 40, 2) := by decide +kernel
theorem d_Unit_init_161 : decode prog_16_method_1_code 161 = .ok (.newarray .int, 2) := by decide +kernel
theorem d_Unit_init_163 : decode prog_16_method_1_code 163 = .ok (.putfield 72, 3) := by decide +kernel
theorem d_Unit_init_166 : decode prog_16_method_1_code 166 = .ok (.aload_n 0, 1) := by decide +kernel
theorem d_Unit_init_167 : decode prog_16_method_1_code 167 = .ok (.bipush 40, 2) := by decide +kernel
theorem d_Unit_init_169 : decode prog_16_method_1_code 169 = .ok (.newarray .int, 2) := by decide +kernel
theorem d_Unit_init_171 : decode prog_16_method_1_code 171 = .ok (.putfield 75, 3) := by decide +kernel
theorem d_Unit_init_174 : decode prog_16_method_1_code 174 = .ok (.aload_n 0, 1) := by decide +kernel
theorem d_Unit_init_175 : decode prog_16_method_1_code 175 = .ok (.bipush 40, 2) := by decide +kernel
theorem d_Unit_init_177 : decode prog_16_method_1_code 177 = .ok (.newarray .int, 2) := by decide +kernel
theorem d_Unit_init_179 : decode prog_16_method_1_code 179 = .ok (.putfield 78, 3) := by decide +kernel
theorem d_Unit_init_182 : decode prog_16_method_1_code 182 = .ok (.aload_n 0, 1) := by decide +kernel
theorem d_Unit_init_183 : decode prog_16_method_1_code 183 = .ok (.bipush 20, 2) := by decide +kernel
theorem d_Unit_init_185 : decode prog_16_method_1_code 185 = .ok (.newarray .int, 2) := by decide +kernel
theorem d_Unit_init_187 : decode prog_16_method_1_code 187 = .ok (.putfield 81, 3) := by decide +kernel
theorem d_Unit_init_190 : decode prog_16_method_1_code 190 = .ok (.aload_n 0, 1) := by decide +kernel
theorem d_Unit_init_191 : decode prog_16_method_1_code 191 = .ok (.bipush 20, 2) := by decide +kernel
theorem d_Unit_init_193 : decode prog_16_method_1_code 193 = .ok (.newarray .int, 2) := by decide +kernel
theorem d_Unit_init_195 : decode prog_16_method_1_code 195 = .ok (.putfield 84, 3) := by decide +kernel
theorem d_Unit_init_198 : decode prog_16_method_1_code 198 = .ok (.aload_n 0, 1) := by decide +kernel
theorem d_Unit_init_199 : decode prog_16_method_1_code 199 = .ok (.bipush 20, 2) := by decide +kernel
theorem d_Unit_init_201 : decode prog_16_method_1_code 201 = .ok (.newarray .int, 2) := by decide +kernel
theorem d_Unit_init_203 : decode prog_16_method_1_code 203 = .ok (.putfield 87, 3) := by decide +kernel
theorem d_Unit_init_206 : decode prog_16_method_1_code 206 = .ok (.aload_n 0, 1) := by decide +kernel
theorem d_Unit_init_207 : decode prog_16_method_1_code 207 = .ok (.bipush 20, 2) := by decide +kernel
theorem d_Unit_init_209 : decode prog_16_method_1_code 209 = .ok (.newarray .int, 2) := by decide +kernel
theorem d_Unit_init_211 : decode prog_16_method_1_code 211 = .ok (.putfield 90, 3) := by decide +kernel
theorem d_Unit_init_214 : decode prog_16_method_1_code 214 = .ok (.aload_n 0, 1) := by decide +kernel
theorem d_Unit_init_215 : decode prog_16_method_1_code 215 = .ok (.bipush 20, 2) := by decide +kernel
theorem d_Unit_init_217 : decode prog_16_method_1_code 217 = .ok (.newarray .int, 2) := by decide +kernel
theorem d_Unit_init_219 : decode prog_16_method_1_code 219 = .ok (.putfield 93, 3) := by decide +kernel
theorem d_Unit_init_222 : decode prog_16_method_1_code 222 = .ok (.aload_n 0, 1) := by decide +kernel
theorem d_Unit_init_223 : decode prog_16_method_1_code 223 = .ok (.bipush 20, 2) := by decide +kernel
theorem d_Unit_init_225 : decode prog_16_method_1_code 225 = .ok (.newarray .int, 2) := by decide +kernel
theorem d_Unit_init_227 : decode prog_16_method_1_code 227 = .ok (.putfield 96, 3) := by decide +kernel
theorem d_Unit_init_230 : decode prog_16_method_1_code 230 = .ok (.aload_n 0, 1) := by decide +kernel
theorem d_Unit_init_231 : decode prog_16_method_1_code 231 = .ok (.bipush 20, 2) := by decide +kernel
theorem d_Unit_init_233 : decode prog_16_method_1_code 233 = .ok (.newarray .int, 2) := by decide +kernel
theorem d_Unit_init_235 : decode prog_16_method_1_code 235 = .ok (.putfield 99, 3) := by decide +kernel
theorem d_Unit_init_238 : decode prog_16_method_1_code 238 = .ok (.aload_n 0, 1) := by decide +kernel
theorem d_Unit_init_239 : decode prog_16_method_1_code 239 = .ok (.bipush 20, 2) := by decide +kernel
theorem d_Unit_init_241 : decode prog_16_method_1_code 241 = .ok (.newarray .int, 2) := by decide +kernel
theorem d_Unit_init_243 : decode prog_16_method_1_code 243 = .ok (.putfield 102, 3) := by decide +kernel
theorem d_Unit_init_246 : decode prog_16_method_1_code 246 = .ok (.aload_n 0, 1) := by decide +kernel
theorem d_Unit_init_247 : decode prog_16_method_1_code 247 = .ok (.bipush 20, 2) := by decide +kernel
theorem d_Unit_init_249 : decode prog_16_method_1_code 249 = .ok (.newarray .long, 2) := by decide +kernel
theorem d_Unit_init_251 : decode prog_16_method_1_code 251 = .ok (.putfield 105, 3) := by decide +kernel
theorem d_Unit_init_254 : decode prog_16_method_1_code 254 = .ok (.aload_n 0, 1) := by decide +kernel
theorem d_Unit_init_255 : decode prog_16_method_1_code 255 = .ok (.bipush 20, 2) := by decide +kernel
theorem d_Unit_init_257 : decode prog_16_method_1_code 257 = .ok (.newarray .long, 2) := by decide +kernel
theorem d_Unit_init_259 : decode prog_16_method_1_code 259 = .ok (.putfield 108, 3) := by decide +kernel
theorem d_Unit_init_262 : decode prog_16_method_1_code 262 = .ok (.aload_n 0, 1) := by decide +kernel
theorem d_Unit_init_263 : decode prog_16_method_1_code 263 = .ok (.bipush 60, 2) := by decide +kernel
theorem d_Unit_init_265 : decode prog_16_method_1_code 265 = .ok (.newarray .int, 2) := by decide +kernel
theorem d_Unit_init_267 : decode prog_16_method_1_code 267 = .ok (.putfield 111, 3) := by decide +kernel
theorem d_Unit_init_270 : decode prog_16_method_1_code 270 = .ok (.aload_n 0, 1) := by decide +kernel
theorem d_Unit_init_271 : decode prog_16_method_1_code 271 = .ok (.bipush 60, 2) := by decide +kernel
theorem d_Unit_init_273 : decode prog_16_method_1_code 273 = .ok (.newarray .int, 2) := by decide +kernel
theorem d_Unit_init_275 : decode prog_16_method_1_code 275 = .ok (.putfield 114, 3) := by decide +kernel
theorem d_Unit_init_278 : decode prog_16_method_1_code 278 = .ok (.aload_n 0, 1) := by decide +kernel
theorem d_Unit_init_279 : decode prog_16_method_1_code 279 = .ok (.bipush 60, 2) := by decide +kernel
theorem d_Unit_init_281 : decode prog_16_method_1_code 281 = .ok (.newarray .int, 2) := by decide +kernel
theorem d_Unit_init_283 : decode prog_16_method_1_code 283 = .ok (.putfield 117, 3) := by decide +kernel
theorem d_Unit_init_286 : decode prog_16_method_1_code 286 = .ok (.aload_n 0, 1) := by decide +kernel
theorem d_Unit_init_287 : decode prog_16_method_1_code 287 = .ok (.sipush 1800, 3) := by decide +kernel
theorem d_Unit_init_290 : decode prog_16_method_1_code 290 = .ok (.newarray .int, 2) := by decide +kernel
theorem d_Unit_init_292 : decode prog_16_method_1_code 292 = .ok (.putfield 120, 3) := by decide +kernel
theorem d_Unit_init_295 : decode prog_16_method_1_code 295 = .ok (.aload_n 0, 1) := by decide +kernel
theorem d_Unit_init_296 : decode prog_16_method_1_code 296 = .ok (.sipush 4000, 3) := by decide +kernel
theorem d_Unit_init_299 : decode prog_16_method_1_code 299 = .ok (.newarray .int, 2) := by decide +kernel
theorem d_Unit_init_301 : decode prog_16_method_1_code 301 = .ok (.putfield 123, 3) := by decide +kernel
theorem d_Unit_init_304 : decode prog_16_method_1_code 304 = .ok (.aload_n 0, 1) := by decide +kernel
theorem d_Unit_init_305 : decode prog_16_method_1_code 305 = .ok (.sipush 4000, 3) := by decide +kernel
theorem d_Unit_init_308 : decode prog_16_method_1_code 308 = .ok (.newarray .int, 2) := by decide +kernel
theorem d_Unit_init_310 : decode prog_16_method_1_code 310 = .ok (.putfield 126, 3) := by decide +kernel
theorem d_Unit_init_313 : decode prog_16_method_1_code 313 = .ok (.return_, 1) := by decide +kernel
theorem d_Model_init_0 : decode prog_14_method_1_code 0 = .ok (.aload_n 0, 1) := by decide +kernel
theorem d_Model_init_1 : decode prog_14_method_1_code 1 = .ok (.invokespecial 1, 3) := by decide +kernel
theorem d_Model_init_4 : decode prog_14_method_1_code 4 = .ok (.aload_n 0, 1) := by decide +kernel
theorem d_Model_init_5 : decode prog_14_method_1_code 5 = .ok (.sipush 4000, 3) := by decide +kernel
theorem d_Model_init_8 : decode prog_14_method_1_code 8 = .ok (.newarray .byte, 2) := by decide +kernel
theorem d_Model_init_10 : decode prog_14_method_1_code 10 = .ok (.putfield 9, 3) := by decide +kernel
theorem d_Model_init_13 : decode prog_14_method_1_code 13 = .ok (.aload_n 0, 1) := by decide +kernel
theorem d_Model_init_14 : decode prog_14_method_1_code 14 = .ok (.new 13, 3) := by decide +kernel
theorem d_Model_init_17 : decode prog_14_method_1_code 17 = .ok (.dup, 1) := by decide +kernel
theorem d_Model_init_18 : decode prog_14_method_1_code 18 = .ok (.invokespecial 15, 3) := by decide +kernel
theorem d_Model_init_21 : decode prog_14_method_1_code 21 = .ok (.putfield 16, 3) := by decide +kernel
theorem d_Model_init_24 : decode prog_14_method_1_code 24 = .ok (.aload_n 0, 1) := by decide +kernel
theorem d_Model_init_25 : decode prog_14_method_1_code 25 = .ok (.sipush 4001, 3) := by decide +kernel
theorem d_Model_init_28 : decode prog_14_method_1_code 28 = .ok (.newarray .int, 2) := by decide +kernel
theorem d_Model_init_30 : decode prog_14_method_1_code 30 = .ok (.putfield 20, 3) := by decide +kernel
theorem d_Model_init_33 : decode prog_14_method_1_code 33 = .ok (.aload_n 0, 1) := by decide +kernel
theorem d_Model_init_34 : decode prog_14_method_1_code 34 = .ok (.sipush 4001, 3) := by decide +kernel
theorem d_Model_init_37 : decode prog_14_method_1_code 37 = .ok (.newarray .int, 2) := by decide +kernel
theorem d_Model_init_39 : decode prog_14_method_1_code 39 = .ok (.putfield 24, 3) := by decide +kernel
theorem d_Model_init_42 : decode prog_14_method_1_code 42 = .ok (.aload_n 0, 1) := by decide +kernel
theorem d_Model_init_43 : decode prog_14_method_1_code 43 = .ok (.sipush 28000, 3) := by decide +kernel
theorem d_Model_init_46 : decode prog_14_method_1_code 46 = .ok (.newarray .int, 2) := by decide +kernel
theorem d_Model_init_48 : decode prog_14_method_1_code 48 = .ok (.putfield 27, 3) := by decide +kernel
theorem d_Model_init_51 : decode prog_14_method_1_code 51 = .ok (.aload_n 0, 1) := by decide +kernel
theorem d_Model_init_52 : decode prog_14_method_1_code 52 = .ok (.bipush 32, 2) := by decide +kernel
theorem d_Model_init_54 : decode prog_14_method_1_code 54 = .ok (.newarray .int, 2) := by decide +kernel
theorem d_Model_init_56 : decode prog_14_method_1_code 56 = .ok (.putfield 30, 3) := by decide +kernel
theorem d_Model_init_59 : decode prog_14_method_1_code 59 = .ok (.aload_n 0, 1) := by decide +kernel
theorem d_Model_init_60 : decode prog_14_method_1_code 60 = .ok (.bipush 32, 2) := by decide +kernel
theorem d_Model_init_62 : decode prog_14_method_1_code 62 = .ok (.newarray .int, 2) := by decide +kernel
theorem d_Model_init_64 : decode prog_14_method_1_code 64 = .ok (.putfield 33, 3) := by decide +kernel
theorem d_Model_init_67 : decode prog_14_method_1_code 67 = .ok (.aload_n 0, 1) := by decide +kernel
theorem d_Model_init_68 : decode prog_14_method_1_code 68 = .ok (.bipush 32, 2) := by decide +kernel
theorem d_Model_init_70 : decode prog_14_method_1_code 70 = .ok (.newarray .int, 2) := by decide +kernel
theorem d_Model_init_72 : decode prog_14_method_1_code 72 = .ok (.putfield 36, 3) := by decide +kernel
theorem d_Model_init_75 : decode prog_14_method_1_code 75 = .ok (.aload_n 0, 1) := by decide +kernel
theorem d_Model_init_76 : decode prog_14_method_1_code 76 = .ok (.bipush 32, 2) := by decide +kernel
theorem d_Model_init_78 : decode prog_14_method_1_code 78 = .ok (.newarray .int, 2) := by decide +kernel
theorem d_Model_init_80 : decode prog_14_method_1_code 80 = .ok (.putfield 39, 3) := by decide +kernel
theorem d_Model_init_83 : decode prog_14_method_1_code 83 = .ok (.aload_n 0, 1) := by decide +kernel
theorem d_Model_init_84 : decode prog_14_method_1_code 84 = .ok (.bipush 32, 2) := by decide +kernel
theorem d_Model_init_86 : decode prog_14_method_1_code 86 = .ok (.newarray .boolean, 2) := by decide +kernel
theorem d_Model_init_88 : decode prog_14_method_1_code 88 = .ok (.putfield 42, 3) := by decide +kernel
theorem d_Model_init_91 : decode prog_14_method_1_code 91 = .ok (.return_, 1) := by decide +kernel
end
section
/-! CONTRACTS THAT MAY THROW, in the compact rows' words -/
def xQX (D : va_G) (ty : List (ClassId × FieldType)) (ws : xW) (sz : Nat) (post : Outcome → xW → State → Prop) : Array Value → State → Outcome → State → Prop := fun _ st oc t => (∃ u : xW, post oc u t ∧ xB D ty ws sz u t) ∧ va_F (va_A ws sz) st t
/-- thrown: an object of the class cls, at x -/
def xThr (cls : String) (x : Addr) (t : State) : Prop := ∃ cell : Cell, t.heap[x]? = some cell ∧ cell.vm.isStatics = false ∧ t.vm.findClass cls = some cell.cls
theorem x_metX {l : Launch} {y : MethodName} {cc : ByteArray} {maxL : Nat} {ret : Option FieldType} {rm : Room} {D : va_G} {ty : List (ClassId × FieldType)} {av : List Value} {ws : xW} {sz : Nat} {Qc : State → Array Value → State → Outcome → State → Prop} {Qd : Array Value → State → Outcome → State → Prop} {mc ms : Nat} {fr : State → Addr → Prop} {free : Addr → Prop} (own : String)
    (hy : plainName y.cls = true) (ho : y.cls = own) (hlen : (lg_sl av).length ≤ maxL) (hQ : ∀ s : State, s.heap.size = sz → Qc s = Qd) (hf : ∀ s : State, s.heap.size = sz → fr s = free)
    (body : ∀ (p : Program) (e : Env) (s : State) (m : MethodId) (below : List Frame) (meth : Method) (c : Code) (ls : Array Slot), xE p s m av.toArray c cc maxL own D ty → meth.sig.returnType = ret → meth.locks = false → c.exceptionTable.toList = [] → lv_has ls maxL (lv_args 0 av) →
      va_P D classes ws s.heap → va_D (va_A ws s.heap.size) ws → (∀ q : Nat, s.heap.size ≤ q → va_A ws s.heap.size q) → va_S (va_A ws s.heap.size) s.heap s.heap [] → xZ (va_A ws s.heap.size) s s.heap → l.admits e → W p l e rm s m av.toArray below meth c s.heap [] 0 0 (MQX below (Qc s) av.toArray s mc ms (fr s)) (F0 m 0 ls [])) :
    MetX l y (Cond.code y cc maxL ret :: xtb) rm (xP D ty av ws sz) Qd mc ms free := by
  refine MetX.ofW (cc := cc) (maxL := maxL) (ret := ret) hy rfl ?_
  intro p e s m args below meth c s₁ B hml htab hv
  obtain ⟨rfl, hsz, hP, hK, hD0, hZ⟩ := hv
  have hts := atoms_spec (ws := Cond.code y cc maxL ret :: xtb) B.pre
  have hown : s.vm.findClass own = some m.cls := by rw [← ho]; exact findClass_of_methodNamed B.named
  have hl := lv_entry av (n := maxL) hlen
  rw [lg_entry_eq]
  rw [← hQ s hsz, ← hf s hsz]
  exact body p e s m below meth c _ ⟨B.exec, B.bytes, hml, fun w h => hts w (List.mem_cons_of_mem _ h), hown, hK⟩ B.returns B.notSynchronized htab hl hP hD0.self (fun q h => Or.inr h) va_S.rf (by rw [hsz]; exact hZ) B.admits
theorem x_metH {l : Launch} {y : MethodName} {cc : ByteArray} {maxL : Nat} {ret : Option FieldType} {hs : List (Nat × Nat × Nat × Nat)} {rm : Room} {D : va_G} {ty : List (ClassId × FieldType)} {av : List Value} {ws : xW} {sz : Nat} {Qc : State → Array Value → State → Outcome → State → Prop} {Qd : Array Value → State → Outcome → State → Prop} {mc ms : Nat} {fr : State → Addr → Prop} {free : Addr → Prop} (own : String)
    (hy : plainName y.cls = true) (ho : y.cls = own) (hlen : (lg_sl av).length ≤ maxL) (hQ : ∀ s : State, s.heap.size = sz → Qc s = Qd) (hf : ∀ s : State, s.heap.size = sz → fr s = free)
    (body : ∀ (p : Program) (e : Env) (s : State) (m : MethodId) (below : List Frame) (meth : Method) (c : Code) (ls : Array Slot), xE p s m av.toArray c cc maxL own D ty → meth.sig.returnType = ret → meth.locks = false → c.exceptionTable.toList = tableOf hs → lv_has ls maxL (lv_args 0 av) →
      va_P D classes ws s.heap → va_D (va_A ws s.heap.size) ws → (∀ q : Nat, s.heap.size ≤ q → va_A ws s.heap.size q) → va_S (va_A ws s.heap.size) s.heap s.heap [] → xZ (va_A ws s.heap.size) s s.heap → l.admits e → W p l e rm s m av.toArray below meth c s.heap [] 0 0 (MQX below (Qc s) av.toArray s mc ms (fr s)) (F0 m 0 ls [])) :
    MetX l y (Cond.codeWith y cc maxL ret hs :: xtb) rm (xP D ty av ws sz) Qd mc ms free := by
  refine MetX.ofWH (cc := cc) (maxL := maxL) (ret := ret) (hs := hs) hy rfl ?_
  intro p e s m args below meth c s₁ B hml htab hv
  obtain ⟨rfl, hsz, hP, hK, hD0, hZ⟩ := hv
  have hts := atoms_spec (ws := Cond.codeWith y cc maxL ret hs :: xtb) B.pre
  have hown : s.vm.findClass own = some m.cls := by rw [← ho]; exact findClass_of_methodNamed B.named
  have hl := lv_entry av (n := maxL) hlen
  rw [lg_entry_eq]
  rw [← hQ s hsz, ← hf s hsz]
  exact body p e s m below meth c _ ⟨B.exec, B.bytes, hml, fun w h => hts w (List.mem_cons_of_mem _ h), hown, hK⟩ B.returns B.notSynchronized htab hl hP hD0.self (fun q h => Or.inr h) va_S.rf (by rw [hsz]; exact hZ) B.admits
section XX
variable {p : Program} {l : Launch} {e : Env} {R : Room} {s : State} {m : MethodId} {args : Array Value} {below : List Frame} {meth : Method} {c : Code} {H : Heap} {locs : List Loc} {cells slots : Nat} {Q : State → Prop}
variable {cc bytes : ByteArray} {nL pc index maxL mc ms : Nat} {ls : Array Slot} {rest As st0 : List Value} {own C : String} {D : va_G} {ty : List (ClassId × FieldType)} {ws wc wr : xW} {A : Nat → Prop} {H0 : Heap} {b : Nat} {y : MethodName} {rm : Room} {ret : Option FieldType} {Qc : Array Value → State → Outcome → State → Prop} {free : Addr → Prop} {w0 : Cond}
theorem x_cwX {n : Nat} (E : xE p s m args c cc nL own D ty) (hcode : Cond.code y bytes maxL ret ∈ xtb) (hini : Cond.initialized y.cls ∈ xtb) (hnm : x_nm y n = true) (hrc : rm.cells = mc) (hrs : rm.slots = ms) (hfr : rm.frames + 1 ≤ R.frames) (hlo : 8 + (maxL + 11) + rm.locals ≤ R.locals) :
    xe_CW R s args y maxL (Cond.code y bytes maxL ret :: xtb) rm mc ms n := by
  have h := hnm
  simp only [x_nm, Bool.and_eq_true, decide_eq_true_eq] at h
  exact ⟨hrc, hrs, hfr, hlo, x_pay hcode E.2.2.2.1, E.2.2.2.1 _ hini, bytes, ret, Or.inl (E.2.2.2.1 _ hcode), h.1, h.2⟩
theorem x_cwH {n : Nat} {hs : List (Nat × Nat × Nat × Nat)} (E : xE p s m args c cc nL own D ty) (hcode : Cond.codeWith y bytes maxL ret hs ∈ xtb) (hini : Cond.initialized y.cls ∈ xtb) (hnm : x_nm y n = true) (hrc : rm.cells = mc) (hrs : rm.slots = ms) (hfr : rm.frames + 1 ≤ R.frames) (hlo : 8 + (maxL + 11) + rm.locals ≤ R.locals) :
    xe_CW R s args y maxL (Cond.codeWith y bytes maxL ret hs :: xtb) rm mc ms n := by
  have h := hnm
  simp only [x_nm, Bool.and_eq_true, decide_eq_true_eq] at h
  exact ⟨hrc, hrs, hfr, hlo, x_pay hcode E.2.2.2.1, E.2.2.2.1 _ hini, bytes, ret, Or.inr ⟨hs, E.2.2.2.1 _ hcode⟩, h.1, h.2⟩
theorem x_VX (E : xE p s m args c cc nL own D ty) (hM : MetX l y (w0 :: xtb) rm (xP D ty (.ref b :: As) wc H.size) Qc mc ms free) (cw : xe_CW R s args y maxL (w0 :: xtb) rm mc ms As.length) (hl : Cond.methodLink own index y ∈ xtb) (hinst : Cond.instanceMethod y ∈ xtb) (hsel : Cond.selects C y y ∈ xtb)
    (hP : va_P D classes wc H) (hD : va_D A wc) (hZ : xZ A s s.heap) (hS : va_S A s.heap H locs) (hF : ∀ q, va_A wc H.size q → A q) {ci : Nat} {fs : List Value} {q : vw_C} (he : wc[0]? = some (b, .inr (ci, fs))) (hc : classes[ci]? = some q) (hq : q.1 = C) (hsz : ls.size = nL) (hst : st0 = As.reverse ++ .ref b :: rest) (hrest : (rest.map fun v => v.category).sum ≤ 8) (hdg : decode cc pc = .ok (.invokevirtual index, 3))
    (hcl : cells + mc ≤ R.cells) (hsl : slots + ms ≤ R.slots) :
    xe_Run p l e R s m args below meth c H locs cells slots mc ms (F0 m pc ls st0) rest (Qc (Value.ref b :: As).toArray) free :=
  xe_runV (C := C) (x_fix E) hM cw (E.2.2.2.1 _ hl) (E.2.2.2.1 _ hinst) (E.2.2.2.1 _ hsel) ⟨xP_blind, by rw [← hq]; exact va_recv E.2.2.2.2.2 hP hc he, xP_at hP E.2.2.2.2.2 hD hZ hS hF⟩ rfl rfl hsz hst (by simpa [JFrame.monitorRoom] using hrest) hdg ⟨hcl, hsl⟩
theorem x_SX (E : xE p s m args c cc nL own D ty) (hM : MetX l y (w0 :: xtb) rm (xP D ty As wc H.size) Qc mc ms free) (cw : xe_CW R s args y maxL (w0 :: xtb) rm mc ms As.length) (hl : Cond.methodLink own index y ∈ xtb) (hstat : Cond.static y ∈ xtb)
    (hP : va_P D classes wc H) (hD : va_D A wc) (hZ : xZ A s s.heap) (hS : va_S A s.heap H locs) (hF : ∀ q, va_A wc H.size q → A q) (hsz : ls.size = nL) (hst : st0 = As.reverse ++ rest) (hrest : (rest.map fun v => v.category).sum ≤ 8) (hdg : decode cc pc = .ok (.invokestatic index, 3))
    (hcl : cells + mc ≤ R.cells) (hsl : slots + ms ≤ R.slots) :
    xe_Run p l e R s m args below meth c H locs cells slots mc ms (F0 m pc ls st0) rest (Qc As.toArray) free :=
  xe_runS (x_fix E) hM cw (E.2.2.2.1 _ hl) (E.2.2.2.1 _ hstat) ⟨xP_blind, xP_at hP E.2.2.2.2.2 hD hZ hS hF⟩ rfl rfl hsz hst (by simpa [JFrame.monitorRoom] using hrest) hdg ⟨hcl, hsl⟩
variable {a : Array Value}
theorem x_rX {post : Outcome → xW → State → Prop} (hr : xe_Run p l e R s m args below meth c H locs cells slots mc ms (F0 m pc ls st0) rest (xQX D ty wc H.size post a) (va_A wc H.size)) (hP : va_P D classes ws H) (hD : va_D A ws) (hS : va_S A H0 H locs) (hA : ∀ q, H0.size ≤ q → A q) (isC isR : List Nat)
    (hC : isC.map (fun i => ws[i]?) = wc.map some) (hR : isR.map (fun i => ws[i]?) = wr.map some) (hn : va_nd isR = true) (hdis : ∀ i ∈ isR, i ∉ isC)
    (kk : ∀ (oc : Outcome) (u : xW) (t : State) (H1 : Heap) (locs1 : List Loc), post oc u t → t.heap = H1 → s.vm.Alike t.vm → va_P D classes (wr ++ u) H1 → va_D A (wr ++ u) → va_S A H0 H1 locs1 → match oc with
      | .returned v => W p l e R s m args below meth c H1 locs1 (cells + mc) (slots + ms) Q (F0 m (pc + 3) ls (v.toList ++ rest))
      | .threw x => WT p l e R s m args below meth c H1 locs1 (cells + mc) (slots + ms) Q x (F0 m pc ls rest)) : W p l e R s m args below meth c H locs cells slots Q (F0 m pc ls st0) := by
  have hFc := va_free (wc := wc) hD hS hA isC hC
  refine xe_go (A1 := va_A wc H.size) hr hS (fun st o t h => h.2) (fun q _ h => hFc q h) hFc (fun o st t H1 locs1 hst ht hvm hq hz1 hk1 hS1 => ?_)
  obtain ⟨⟨u, hw, hP1, hK1, hD1⟩, -⟩ := hq
  rw [ht] at hP1
  obtain ⟨hP2, hD2⟩ := va_join (wr := wr) (w1 := u) hP hD isC isR hC hR hn hdis hk1 hFc hP1 hD1
  exact kk o u t H1 locs1 hw ht hvm hP2 hD2 hS1
/-- the ends of a method that may throw -/
theorem x_ret1 {post : Outcome → xW → State → Prop} {v : Int32} (E : xE p s m args c cc nL own D ty) (hr : meth.sig.returnType = some .int) (hlocks : meth.locks = false) (hP : va_P D classes ws H) (hD : va_D (va_A wc s.heap.size) ws) (hS : va_S (va_A wc s.heap.size) s.heap H locs) (hq : ∀ t, t.heap = H → s.WarmedH t.vm → post (.returned (some (.int v))) ws t) (hdg : decode cc pc = .ok (.ireturn, 1)) :
    W p l e R s m args below meth c H locs cells slots (MQX below (xQX D ty wc s.heap.size post) args s cells slots (va_A wc s.heap.size)) (F0 m pc ls [.int v]) :=
  W.x (W.iret E.1 E.2.1 hr (fun t ht hW => ⟨⟨ws, hq t ht hW, by rw [ht]; exact hP, va_K.moved hW.alike E.2.2.2.2.2, hD⟩, hS.F ht⟩) hS.2.2 hdg hlocks)
theorem x_out {post : Outcome → xW → State → Prop} {x : Addr} {st : List Value} (E : xE p s m args c cc nL own D ty) (hlocks : meth.locks = false) (htab : c.exceptionTable.toList = []) (hP : va_P D classes ws H) (hD : va_D (va_A wc s.heap.size) ws) (hS : va_S (va_A wc s.heap.size) s.heap H locs) (hq : ∀ t, t.heap = H → s.WarmedH t.vm → post (.threw x) ws t) :
    WT p l e R s m args below meth c H locs cells slots (MQX below (xQX D ty wc s.heap.size post) args s cells slots (va_A wc s.heap.size)) x (F0 m pc ls st) :=
  xe_out (by rw [htab]; intro h hh; cases hh) hlocks (fun t ht hW => ⟨⟨ws, hq t ht hW, by rw [ht]; exact hP, va_K.moved hW.alike E.2.2.2.2.2, hD⟩, hS.F ht⟩) hS.2.2
def xbad : List Cond := [.laysStatic "java/lang/Throwable" "UNASSIGNED_STACK" "[Ljava/lang/StackTraceElement;", .laysStatic "java/lang/Throwable" "SUPPRESSED_SENTINEL" "Ljava/util/List;", .isRef (.static "java/lang/Throwable" "UNASSIGNED_STACK" "[Ljava/lang/StackTraceElement;"), .isRef (.static "java/lang/Throwable" "SUPPRESSED_SENTINEL" "Ljava/util/List;")]
theorem x_own {ws : List Cond} (h : ws.all (fun w => decide (w ∈ xtb) || decide (w ∈ xbad)) = true) (E : xE p s m args c cc nL own D ty) (hZ : xZ A s s.heap) : ∀ w ∈ ws, w.before args s = true := by
  intro w hw
  have h1 := List.all_eq_true.mp h w hw
  rw [Bool.or_eq_true, decide_eq_true_eq, decide_eq_true_eq] at h1
  rcases h1 with h1 | h1
  · exact E.2.2.2.1 w h1
  · simp only [xbad, List.mem_cons, List.not_mem_nil, or_false] at h1
    rcases h1 with rfl | rfl | rfl | rfl
    · exact hZ.1.lays
    · exact hZ.2.lays
    · exact hZ.1.isref
    · exact hZ.2.isref
/-- new E(), thrown, where the method has changed nothing -/
theorem x_throw0 {post : Outcome → xW → State → Prop} {cls : String} {names : List String} {ic idx : Nat} (E : xE p s m args c cc nL own D ty) (hadm : l.admits e) (hfl : l.flags = pinnedFlags ++ [noTraceFlag]) (hlocks : meth.locks = false) (htab : c.exceptionTable.toList = []) (hcls : Bundle.fit cls = true) (hnames : names.all Bundle.fit = true) (hat : (Bundle.ownAtoms0 own ic cls names).all (fun w => decide (w ∈ xtb) || decide (w ∈ xbad)) = true)
    (hlk : Cond.classLink own idx cls ∈ xtb) (hini : Cond.initialized cls ∈ xtb) (hins : Cond.instantiable cls 6 ∈ xtb) (hsz : ls.size = nL) (hP : va_P D classes ws s.heap) (hD : va_D (va_A ws s.heap.size) ws) (hZ : xZ (va_A ws s.heap.size) s s.heap)
    (d0 : decode cc pc = .ok (.new idx, 3)) (d3 : decode cc (pc + 3) = .ok (.dup, 1)) (d4 : decode cc (pc + 3 + 1) = .ok (.invokespecial ic, 3)) (d7 : decode cc (pc + 3 + 1 + 3) = .ok (.athrow, 1)) (hc : 1 ≤ R.cells) (hsl : 6 ≤ R.slots) (hfr : names.length + 3 < R.frames) (hlo : 1 + (13 * (names.length + 1) + 41) ≤ R.locals)
    (hq : ∀ (x : Addr) (t : State), xThr cls x t → post (.threw x) ws t) :
    W p l e R s m args below meth c s.heap [] 0 0 (MQX below (xQX D ty ws s.heap.size post) args s 1 6 (va_A ws s.heap.size)) (F0 m pc ls []) := by
  have htr : e.platform.stackTraces = false := Launch.traces_off hfl hadm
  refine W.newc E.1 E.2.1 E.2.2.2.2.1 (E.2.2.2.1 _ hlk) (E.2.2.2.1 _ hins) (E.2.2.2.1 _ hini) rfl d0 (by omega) (by omega) (fun cC kC h1 h2 h3 h4 => ?_)
  refine W.eq (g2 := F0 m (pc + 3) ls [.ref s.heap.size]) rfl ?_
  refine lv_dup E.1 E.2.1 d3 rfl ?_
  intro T hT X
  have hb := E.2.1
  obtain ⟨U, hst, hrun, hend, hW, hsame, ce, hce, hO⟩ := X.ctorThrow0 E.1 htr (own := own) (cls := cls) (names := names) (ic := ic) E.2.2.2.2.1 hcls (List.all_eq_true.mp hnames) (x_own hat E hZ) (fun x hx => by cases hx) (a := s.heap.size) h1 h2 (by rw [hT]; simp) (Nat.le_refl _)
    (g := F0 m (pc + 3 + 1) ls [.ref s.heap.size, .ref s.heap.size]) rfl (by rw [E.2.2.1]; exact hsz) rfl rfl (rest := []) rfl (by rw [hb]; exact d4) (by rw [hb]; exact d7) (by rw [htab]; intro h hh; cases hh) hfr (by simpa [JFrame.monitorRoom, Value.category] using hlo) hlocks
  have hold : ∀ q : Nat, q < s.heap.size → U.heap[q]? = s.heap[q]? := fun q hq => by
    have hs : s.heap[q]? = some s.heap[q] := Array.getElem?_eq_getElem hq
    rw [hs]
    exact State.sameButNew.old_cell hsame hs
  have hle : s.heap.size ≤ U.heap.size := hsame.2.1
  refine ⟨U, hst, .threw s.heap.size, hrun, hend, ⟨⟨ws, hq _ U ⟨ce, hce, by rw [hO.vm]; rfl, by rw [hW.alike.findClass]; exact hO.cls⟩, ?_, va_K.moved hW.alike E.2.2.2.2.2, hD⟩, hle, fun q h1 _ => hold q h1⟩, [], ⟨hW, by simpa using hsame⟩, fun q hq => by cases hq⟩
  exact hP.kept (fun k q hk => hold q.1 ((hP k q hk).lt))
end XX
end

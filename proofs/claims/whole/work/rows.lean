section
def lw_okq (q : MethodName × Nat) : Prop := (q.1.cls ≠ "java/lang/invoke/MethodHandle" ∧ q.1.cls ≠ "java/lang/invoke/VarHandle") ∧ Cond.instantiable q.1.cls q.2 ∈ tables_1 ∧ Cond.privateMethod q.1 ∈ tables_1 ∧ Cond.instanceMethod q.1 ∈ tables_1
theorem lw_p0 : lw_okq (⟨"WideCore$Processor", "enterInterrupt", "(I)V"⟩, 8) := ⟨⟨by decide +kernel, by decide +kernel⟩, List.mem_of_getElem? (i := 97) (by decide +kernel), List.mem_of_getElem? (i := 214) (by decide +kernel), List.mem_of_getElem? (i := 215) (by decide +kernel)⟩
theorem lw_p1 : lw_okq (⟨"WideCore$Processor", "useAccumulator", "(I)Z"⟩, 8) := ⟨⟨by decide +kernel, by decide +kernel⟩, List.mem_of_getElem? (i := 97) (by decide +kernel), List.mem_of_getElem? (i := 274) (by decide +kernel), List.mem_of_getElem? (i := 275) (by decide +kernel)⟩
theorem lw_p2 : lw_okq (⟨"WideCore$Operands", "direct", "(I)I"⟩, 2) := ⟨⟨by decide +kernel, by decide +kernel⟩, List.mem_of_getElem? (i := 103) (by decide +kernel), List.mem_of_getElem? (i := 289) (by decide +kernel), List.mem_of_getElem? (i := 290) (by decide +kernel)⟩
theorem lw_p3 : lw_okq (⟨"WideCore$Operands", "inDataBank", "(II)I"⟩, 2) := ⟨⟨by decide +kernel, by decide +kernel⟩, List.mem_of_getElem? (i := 103) (by decide +kernel), List.mem_of_getElem? (i := 299) (by decide +kernel), List.mem_of_getElem? (i := 300) (by decide +kernel)⟩
theorem lw_p4 : lw_okq (⟨"WideCore$Operands", "onStack", "()I"⟩, 2) := ⟨⟨by decide +kernel, by decide +kernel⟩, List.mem_of_getElem? (i := 103) (by decide +kernel), List.mem_of_getElem? (i := 313) (by decide +kernel), List.mem_of_getElem? (i := 314) (by decide +kernel)⟩
theorem lw_p5 : lw_okq (⟨"WideCore$Processor", "addToA", "(I)V"⟩, 8) := ⟨⟨by decide +kernel, by decide +kernel⟩, List.mem_of_getElem? (i := 97) (by decide +kernel), List.mem_of_getElem? (i := 348) (by decide +kernel), List.mem_of_getElem? (i := 349) (by decide +kernel)⟩
theorem lw_p6 : lw_okq (⟨"WideCore$Processor", "compare", "(IIZ)V"⟩, 8) := ⟨⟨by decide +kernel, by decide +kernel⟩, List.mem_of_getElem? (i := 97) (by decide +kernel), List.mem_of_getElem? (i := 354) (by decide +kernel), List.mem_of_getElem? (i := 355) (by decide +kernel)⟩
theorem lw_p7 : lw_okq (⟨"WideCore$Processor", "useIndex", "(I)Z"⟩, 8) := ⟨⟨by decide +kernel, by decide +kernel⟩, List.mem_of_getElem? (i := 97) (by decide +kernel), List.mem_of_getElem? (i := 359) (by decide +kernel), List.mem_of_getElem? (i := 360) (by decide +kernel)⟩
theorem lw_p8 : lw_okq (⟨"WideCore$Processor", "storeZero", "(I)Z"⟩, 8) := ⟨⟨by decide +kernel, by decide +kernel⟩, List.mem_of_getElem? (i := 97) (by decide +kernel), List.mem_of_getElem? (i := 372) (by decide +kernel), List.mem_of_getElem? (i := 373) (by decide +kernel)⟩
theorem lw_p9 : lw_okq (⟨"WideCore$Processor", "changeMemory", "(I)Z"⟩, 8) := ⟨⟨by decide +kernel, by decide +kernel⟩, List.mem_of_getElem? (i := 97) (by decide +kernel), List.mem_of_getElem? (i := 376) (by decide +kernel), List.mem_of_getElem? (i := 377) (by decide +kernel)⟩
theorem lw_p10 : lw_okq (⟨"WideCore$Processor", "changed", "(IIZ)I"⟩, 8) := ⟨⟨by decide +kernel, by decide +kernel⟩, List.mem_of_getElem? (i := 97) (by decide +kernel), List.mem_of_getElem? (i := 380) (by decide +kernel), List.mem_of_getElem? (i := 381) (by decide +kernel)⟩
theorem lw_p11 : lw_okq (⟨"WideCore$Processor", "changeRegister", "(I)Z"⟩, 8) := ⟨⟨by decide +kernel, by decide +kernel⟩, List.mem_of_getElem? (i := 97) (by decide +kernel), List.mem_of_getElem? (i := 384) (by decide +kernel), List.mem_of_getElem? (i := 385) (by decide +kernel)⟩
theorem lw_p12 : lw_okq (⟨"WideCore$Processor", "transfer", "(I)Z"⟩, 8) := ⟨⟨by decide +kernel, by decide +kernel⟩, List.mem_of_getElem? (i := 97) (by decide +kernel), List.mem_of_getElem? (i := 388) (by decide +kernel), List.mem_of_getElem? (i := 389) (by decide +kernel)⟩
theorem lw_p13 : lw_okq (⟨"WideCore$Processor", "push", "(I)Z"⟩, 8) := ⟨⟨by decide +kernel, by decide +kernel⟩, List.mem_of_getElem? (i := 97) (by decide +kernel), List.mem_of_getElem? (i := 400) (by decide +kernel), List.mem_of_getElem? (i := 401) (by decide +kernel)⟩
theorem lw_p14 : lw_okq (⟨"WideCore$Processor", "pull", "(I)Z"⟩, 8) := ⟨⟨by decide +kernel, by decide +kernel⟩, List.mem_of_getElem? (i := 97) (by decide +kernel), List.mem_of_getElem? (i := 409) (by decide +kernel), List.mem_of_getElem? (i := 410) (by decide +kernel)⟩
theorem lw_p15 : lw_okq (⟨"WideCore$Processor", "branch", "(I)Z"⟩, 8) := ⟨⟨by decide +kernel, by decide +kernel⟩, List.mem_of_getElem? (i := 97) (by decide +kernel), List.mem_of_getElem? (i := 433) (by decide +kernel), List.mem_of_getElem? (i := 434) (by decide +kernel)⟩
def lw_privs_1 : List (MethodName × Nat) := [(⟨"WideCore$Processor", "enterInterrupt", "(I)V"⟩, 8), (⟨"WideCore$Processor", "useAccumulator", "(I)Z"⟩, 8), (⟨"WideCore$Operands", "direct", "(I)I"⟩, 2), (⟨"WideCore$Operands", "inDataBank", "(II)I"⟩, 2), (⟨"WideCore$Operands", "onStack", "()I"⟩, 2), (⟨"WideCore$Processor", "addToA", "(I)V"⟩, 8), (⟨"WideCore$Processor", "compare", "(IIZ)V"⟩, 8), (⟨"WideCore$Processor", "useIndex", "(I)Z"⟩, 8), (⟨"WideCore$Processor", "storeZero", "(I)Z"⟩, 8), (⟨"WideCore$Processor", "changeMemory", "(I)Z"⟩, 8), (⟨"WideCore$Processor", "changed", "(IIZ)I"⟩, 8), (⟨"WideCore$Processor", "changeRegister", "(I)Z"⟩, 8), (⟨"WideCore$Processor", "transfer", "(I)Z"⟩, 8), (⟨"WideCore$Processor", "push", "(I)Z"⟩, 8), (⟨"WideCore$Processor", "pull", "(I)Z"⟩, 8), (⟨"WideCore$Processor", "branch", "(I)Z"⟩, 8)]
theorem lw_r1 : ∀ q ∈ lw_privs_1, lw_okq q := List.forall_mem_cons.mpr ⟨lw_p0, List.forall_mem_cons.mpr ⟨lw_p1, List.forall_mem_cons.mpr ⟨lw_p2, List.forall_mem_cons.mpr ⟨lw_p3, List.forall_mem_cons.mpr ⟨lw_p4, List.forall_mem_cons.mpr ⟨lw_p5, List.forall_mem_cons.mpr ⟨lw_p6, List.forall_mem_cons.mpr ⟨lw_p7, List.forall_mem_cons.mpr ⟨lw_p8, List.forall_mem_cons.mpr ⟨lw_p9, List.forall_mem_cons.mpr ⟨lw_p10, List.forall_mem_cons.mpr ⟨lw_p11, List.forall_mem_cons.mpr ⟨lw_p12, List.forall_mem_cons.mpr ⟨lw_p13, List.forall_mem_cons.mpr ⟨lw_p14, List.forall_mem_cons.mpr ⟨lw_p15, fun _ h => absurd h List.not_mem_nil⟩⟩⟩⟩⟩⟩⟩⟩⟩⟩⟩⟩⟩⟩⟩⟩
theorem lw_p16 : lw_okq (⟨"WideCore$Processor", "jump", "(I)Z"⟩, 8) := ⟨⟨by decide +kernel, by decide +kernel⟩, List.mem_of_getElem? (i := 97) (by decide +kernel), List.mem_of_getElem? (i := 443) (by decide +kernel), List.mem_of_getElem? (i := 444) (by decide +kernel)⟩
theorem lw_p17 : lw_okq (⟨"WideCore$Processor", "changeFlags", "(I)Z"⟩, 8) := ⟨⟨by decide +kernel, by decide +kernel⟩, List.mem_of_getElem? (i := 97) (by decide +kernel), List.mem_of_getElem? (i := 453) (by decide +kernel), List.mem_of_getElem? (i := 454) (by decide +kernel)⟩
theorem lw_p18 : lw_okq (⟨"WideCore$Processor", "moveBlock", "(I)Z"⟩, 8) := ⟨⟨by decide +kernel, by decide +kernel⟩, List.mem_of_getElem? (i := 97) (by decide +kernel), List.mem_of_getElem? (i := 457) (by decide +kernel), List.mem_of_getElem? (i := 458) (by decide +kernel)⟩
theorem lw_p19 : lw_okq (⟨"WideCoreModel", "is", "(I)Z"⟩, 18) := ⟨⟨by decide +kernel, by decide +kernel⟩, List.mem_of_getElem? (i := 492) (by decide +kernel), List.mem_of_getElem? (i := 570) (by decide +kernel), List.mem_of_getElem? (i := 571) (by decide +kernel)⟩
theorem lw_p20 : lw_okq (⟨"WideCoreModel", "cut", "(IZ)I"⟩, 18) := ⟨⟨by decide +kernel, by decide +kernel⟩, List.mem_of_getElem? (i := 492) (by decide +kernel), List.mem_of_getElem? (i := 574) (by decide +kernel), List.mem_of_getElem? (i := 575) (by decide +kernel)⟩
theorem lw_p21 : lw_okq (⟨"WideCoreModel", "setFlags", "(I)V"⟩, 18) := ⟨⟨by decide +kernel, by decide +kernel⟩, List.mem_of_getElem? (i := 492) (by decide +kernel), List.mem_of_getElem? (i := 578) (by decide +kernel), List.mem_of_getElem? (i := 579) (by decide +kernel)⟩
theorem lw_p22 : lw_okq (⟨"WideCoreModel", "step", "()V"⟩, 18) := ⟨⟨by decide +kernel, by decide +kernel⟩, List.mem_of_getElem? (i := 492) (by decide +kernel), List.mem_of_getElem? (i := 590) (by decide +kernel), List.mem_of_getElem? (i := 591) (by decide +kernel)⟩
theorem lw_p23 : lw_okq (⟨"WideCoreModel", "interruptFrom", "(I)V"⟩, 18) := ⟨⟨by decide +kernel, by decide +kernel⟩, List.mem_of_getElem? (i := 492) (by decide +kernel), List.mem_of_getElem? (i := 594) (by decide +kernel), List.mem_of_getElem? (i := 595) (by decide +kernel)⟩
theorem lw_p24 : lw_okq (⟨"WideCoreModel", "push", "(I)V"⟩, 18) := ⟨⟨by decide +kernel, by decide +kernel⟩, List.mem_of_getElem? (i := 492) (by decide +kernel), List.mem_of_getElem? (i := 598) (by decide +kernel), List.mem_of_getElem? (i := 599) (by decide +kernel)⟩
theorem lw_p25 : lw_okq (⟨"WideCoreModel", "write", "(II)V"⟩, 18) := ⟨⟨by decide +kernel, by decide +kernel⟩, List.mem_of_getElem? (i := 492) (by decide +kernel), List.mem_of_getElem? (i := 602) (by decide +kernel), List.mem_of_getElem? (i := 603) (by decide +kernel)⟩
theorem lw_p26 : lw_okq (⟨"WideCoreModel", "touch", "(I)V"⟩, 18) := ⟨⟨by decide +kernel, by decide +kernel⟩, List.mem_of_getElem? (i := 492) (by decide +kernel), List.mem_of_getElem? (i := 609) (by decide +kernel), List.mem_of_getElem? (i := 610) (by decide +kernel)⟩
theorem lw_p27 : lw_okq (⟨"WideCoreModel", "pushWord", "(I)V"⟩, 18) := ⟨⟨by decide +kernel, by decide +kernel⟩, List.mem_of_getElem? (i := 492) (by decide +kernel), List.mem_of_getElem? (i := 613) (by decide +kernel), List.mem_of_getElem? (i := 614) (by decide +kernel)⟩
theorem lw_p28 : lw_okq (⟨"WideCoreModel", "flag", "(IZ)V"⟩, 18) := ⟨⟨by decide +kernel, by decide +kernel⟩, List.mem_of_getElem? (i := 492) (by decide +kernel), List.mem_of_getElem? (i := 617) (by decide +kernel), List.mem_of_getElem? (i := 618) (by decide +kernel)⟩
theorem lw_p29 : lw_okq (⟨"WideCoreModel", "readWord", "(IZ)I"⟩, 18) := ⟨⟨by decide +kernel, by decide +kernel⟩, List.mem_of_getElem? (i := 492) (by decide +kernel), List.mem_of_getElem? (i := 621) (by decide +kernel), List.mem_of_getElem? (i := 622) (by decide +kernel)⟩
theorem lw_p30 : lw_okq (⟨"WideCoreModel", "read", "(I)I"⟩, 18) := ⟨⟨by decide +kernel, by decide +kernel⟩, List.mem_of_getElem? (i := 492) (by decide +kernel), List.mem_of_getElem? (i := 625) (by decide +kernel), List.mem_of_getElem? (i := 626) (by decide +kernel)⟩
theorem lw_p31 : lw_okq (⟨"WideCoreModel", "after", "(IZ)I"⟩, 18) := ⟨⟨by decide +kernel, by decide +kernel⟩, List.mem_of_getElem? (i := 492) (by decide +kernel), List.mem_of_getElem? (i := 629) (by decide +kernel), List.mem_of_getElem? (i := 630) (by decide +kernel)⟩
def lw_privs_2 : List (MethodName × Nat) := [(⟨"WideCore$Processor", "jump", "(I)Z"⟩, 8), (⟨"WideCore$Processor", "changeFlags", "(I)Z"⟩, 8), (⟨"WideCore$Processor", "moveBlock", "(I)Z"⟩, 8), (⟨"WideCoreModel", "is", "(I)Z"⟩, 18), (⟨"WideCoreModel", "cut", "(IZ)I"⟩, 18), (⟨"WideCoreModel", "setFlags", "(I)V"⟩, 18), (⟨"WideCoreModel", "step", "()V"⟩, 18), (⟨"WideCoreModel", "interruptFrom", "(I)V"⟩, 18), (⟨"WideCoreModel", "push", "(I)V"⟩, 18), (⟨"WideCoreModel", "write", "(II)V"⟩, 18), (⟨"WideCoreModel", "touch", "(I)V"⟩, 18), (⟨"WideCoreModel", "pushWord", "(I)V"⟩, 18), (⟨"WideCoreModel", "flag", "(IZ)V"⟩, 18), (⟨"WideCoreModel", "readWord", "(IZ)I"⟩, 18), (⟨"WideCoreModel", "read", "(I)I"⟩, 18), (⟨"WideCoreModel", "after", "(IZ)I"⟩, 18)]
theorem lw_r2 : ∀ q ∈ lw_privs_2, lw_okq q := List.forall_mem_cons.mpr ⟨lw_p16, List.forall_mem_cons.mpr ⟨lw_p17, List.forall_mem_cons.mpr ⟨lw_p18, List.forall_mem_cons.mpr ⟨lw_p19, List.forall_mem_cons.mpr ⟨lw_p20, List.forall_mem_cons.mpr ⟨lw_p21, List.forall_mem_cons.mpr ⟨lw_p22, List.forall_mem_cons.mpr ⟨lw_p23, List.forall_mem_cons.mpr ⟨lw_p24, List.forall_mem_cons.mpr ⟨lw_p25, List.forall_mem_cons.mpr ⟨lw_p26, List.forall_mem_cons.mpr ⟨lw_p27, List.forall_mem_cons.mpr ⟨lw_p28, List.forall_mem_cons.mpr ⟨lw_p29, List.forall_mem_cons.mpr ⟨lw_p30, List.forall_mem_cons.mpr ⟨lw_p31, fun _ h => absurd h List.not_mem_nil⟩⟩⟩⟩⟩⟩⟩⟩⟩⟩⟩⟩⟩⟩⟩⟩
theorem lw_p32 : lw_okq (⟨"WideCoreModel", "next", "()I"⟩, 18) := ⟨⟨by decide +kernel, by decide +kernel⟩, List.mem_of_getElem? (i := 492) (by decide +kernel), List.mem_of_getElem? (i := 635) (by decide +kernel), List.mem_of_getElem? (i := 636) (by decide +kernel)⟩
theorem lw_p33 : lw_okq (⟨"WideCoreModel", "arithmetic", "(I)Z"⟩, 18) := ⟨⟨by decide +kernel, by decide +kernel⟩, List.mem_of_getElem? (i := 492) (by decide +kernel), List.mem_of_getElem? (i := 639) (by decide +kernel), List.mem_of_getElem? (i := 640) (by decide +kernel)⟩
theorem lw_p34 : lw_okq (⟨"WideCoreModel", "find", "(I)Z"⟩, 18) := ⟨⟨by decide +kernel, by decide +kernel⟩, List.mem_of_getElem? (i := 492) (by decide +kernel), List.mem_of_getElem? (i := 643) (by decide +kernel), List.mem_of_getElem? (i := 644) (by decide +kernel)⟩
theorem lw_p35 : lw_okq (⟨"WideCoreModel", "direct", "(I)V"⟩, 18) := ⟨⟨by decide +kernel, by decide +kernel⟩, List.mem_of_getElem? (i := 492) (by decide +kernel), List.mem_of_getElem? (i := 647) (by decide +kernel), List.mem_of_getElem? (i := 648) (by decide +kernel)⟩
theorem lw_p36 : lw_okq (⟨"WideCoreModel", "nextWord", "()I"⟩, 18) := ⟨⟨by decide +kernel, by decide +kernel⟩, List.mem_of_getElem? (i := 492) (by decide +kernel), List.mem_of_getElem? (i := 651) (by decide +kernel), List.mem_of_getElem? (i := 652) (by decide +kernel)⟩
theorem lw_p37 : lw_okq (⟨"WideCoreModel", "far", "(I)V"⟩, 18) := ⟨⟨by decide +kernel, by decide +kernel⟩, List.mem_of_getElem? (i := 492) (by decide +kernel), List.mem_of_getElem? (i := 655) (by decide +kernel), List.mem_of_getElem? (i := 656) (by decide +kernel)⟩
theorem lw_p38 : lw_okq (⟨"WideCoreModel", "nextLong", "()I"⟩, 18) := ⟨⟨by decide +kernel, by decide +kernel⟩, List.mem_of_getElem? (i := 492) (by decide +kernel), List.mem_of_getElem? (i := 659) (by decide +kernel), List.mem_of_getElem? (i := 660) (by decide +kernel)⟩
theorem lw_p39 : lw_okq (⟨"WideCoreModel", "accumulator", "()I"⟩, 18) := ⟨⟨by decide +kernel, by decide +kernel⟩, List.mem_of_getElem? (i := 492) (by decide +kernel), List.mem_of_getElem? (i := 663) (by decide +kernel), List.mem_of_getElem? (i := 664) (by decide +kernel)⟩
theorem lw_p40 : lw_okq (⟨"WideCoreModel", "store", "(IZ)V"⟩, 18) := ⟨⟨by decide +kernel, by decide +kernel⟩, List.mem_of_getElem? (i := 492) (by decide +kernel), List.mem_of_getElem? (i := 667) (by decide +kernel), List.mem_of_getElem? (i := 668) (by decide +kernel)⟩
theorem lw_p41 : lw_okq (⟨"WideCoreModel", "immediate", "(Z)I"⟩, 18) := ⟨⟨by decide +kernel, by decide +kernel⟩, List.mem_of_getElem? (i := 492) (by decide +kernel), List.mem_of_getElem? (i := 671) (by decide +kernel), List.mem_of_getElem? (i := 672) (by decide +kernel)⟩
theorem lw_p42 : lw_okq (⟨"WideCoreModel", "load", "(Z)I"⟩, 18) := ⟨⟨by decide +kernel, by decide +kernel⟩, List.mem_of_getElem? (i := 492) (by decide +kernel), List.mem_of_getElem? (i := 675) (by decide +kernel), List.mem_of_getElem? (i := 676) (by decide +kernel)⟩
theorem lw_p43 : lw_okq (⟨"WideCoreModel", "add", "(I)V"⟩, 18) := ⟨⟨by decide +kernel, by decide +kernel⟩, List.mem_of_getElem? (i := 492) (by decide +kernel), List.mem_of_getElem? (i := 679) (by decide +kernel), List.mem_of_getElem? (i := 680) (by decide +kernel)⟩
theorem lw_p44 : lw_okq (⟨"WideCoreModel", "result", "(IZ)I"⟩, 18) := ⟨⟨by decide +kernel, by decide +kernel⟩, List.mem_of_getElem? (i := 492) (by decide +kernel), List.mem_of_getElem? (i := 684) (by decide +kernel), List.mem_of_getElem? (i := 685) (by decide +kernel)⟩
theorem lw_p45 : lw_okq (⟨"WideCoreModel", "setAccumulator", "(I)V"⟩, 18) := ⟨⟨by decide +kernel, by decide +kernel⟩, List.mem_of_getElem? (i := 492) (by decide +kernel), List.mem_of_getElem? (i := 688) (by decide +kernel), List.mem_of_getElem? (i := 689) (by decide +kernel)⟩
theorem lw_p46 : lw_okq (⟨"WideCoreModel", "compare", "(IIZ)V"⟩, 18) := ⟨⟨by decide +kernel, by decide +kernel⟩, List.mem_of_getElem? (i := 492) (by decide +kernel), List.mem_of_getElem? (i := 693) (by decide +kernel), List.mem_of_getElem? (i := 694) (by decide +kernel)⟩
theorem lw_p47 : lw_okq (⟨"WideCoreModel", "change", "(I)Z"⟩, 18) := ⟨⟨by decide +kernel, by decide +kernel⟩, List.mem_of_getElem? (i := 492) (by decide +kernel), List.mem_of_getElem? (i := 697) (by decide +kernel), List.mem_of_getElem? (i := 698) (by decide +kernel)⟩
def lw_privs_3 : List (MethodName × Nat) := [(⟨"WideCoreModel", "next", "()I"⟩, 18), (⟨"WideCoreModel", "arithmetic", "(I)Z"⟩, 18), (⟨"WideCoreModel", "find", "(I)Z"⟩, 18), (⟨"WideCoreModel", "direct", "(I)V"⟩, 18), (⟨"WideCoreModel", "nextWord", "()I"⟩, 18), (⟨"WideCoreModel", "far", "(I)V"⟩, 18), (⟨"WideCoreModel", "nextLong", "()I"⟩, 18), (⟨"WideCoreModel", "accumulator", "()I"⟩, 18), (⟨"WideCoreModel", "store", "(IZ)V"⟩, 18), (⟨"WideCoreModel", "immediate", "(Z)I"⟩, 18), (⟨"WideCoreModel", "load", "(Z)I"⟩, 18), (⟨"WideCoreModel", "add", "(I)V"⟩, 18), (⟨"WideCoreModel", "result", "(IZ)I"⟩, 18), (⟨"WideCoreModel", "setAccumulator", "(I)V"⟩, 18), (⟨"WideCoreModel", "compare", "(IIZ)V"⟩, 18), (⟨"WideCoreModel", "change", "(I)Z"⟩, 18)]
theorem lw_r3 : ∀ q ∈ lw_privs_3, lw_okq q := List.forall_mem_cons.mpr ⟨lw_p32, List.forall_mem_cons.mpr ⟨lw_p33, List.forall_mem_cons.mpr ⟨lw_p34, List.forall_mem_cons.mpr ⟨lw_p35, List.forall_mem_cons.mpr ⟨lw_p36, List.forall_mem_cons.mpr ⟨lw_p37, List.forall_mem_cons.mpr ⟨lw_p38, List.forall_mem_cons.mpr ⟨lw_p39, List.forall_mem_cons.mpr ⟨lw_p40, List.forall_mem_cons.mpr ⟨lw_p41, List.forall_mem_cons.mpr ⟨lw_p42, List.forall_mem_cons.mpr ⟨lw_p43, List.forall_mem_cons.mpr ⟨lw_p44, List.forall_mem_cons.mpr ⟨lw_p45, List.forall_mem_cons.mpr ⟨lw_p46, List.forall_mem_cons.mpr ⟨lw_p47, fun _ h => absurd h List.not_mem_nil⟩⟩⟩⟩⟩⟩⟩⟩⟩⟩⟩⟩⟩⟩⟩⟩
theorem lw_p48 : lw_okq (⟨"WideCoreModel", "changeMemory", "(IZ)V"⟩, 18) := ⟨⟨by decide +kernel, by decide +kernel⟩, List.mem_of_getElem? (i := 492) (by decide +kernel), List.mem_of_getElem? (i := 701) (by decide +kernel), List.mem_of_getElem? (i := 702) (by decide +kernel)⟩
theorem lw_p49 : lw_okq (⟨"WideCoreModel", "changed", "(IIZ)I"⟩, 18) := ⟨⟨by decide +kernel, by decide +kernel⟩, List.mem_of_getElem? (i := 492) (by decide +kernel), List.mem_of_getElem? (i := 705) (by decide +kernel), List.mem_of_getElem? (i := 706) (by decide +kernel)⟩
theorem lw_p50 : lw_okq (⟨"WideCoreModel", "index", "(I)Z"⟩, 18) := ⟨⟨by decide +kernel, by decide +kernel⟩, List.mem_of_getElem? (i := 492) (by decide +kernel), List.mem_of_getElem? (i := 709) (by decide +kernel), List.mem_of_getElem? (i := 710) (by decide +kernel)⟩
theorem lw_p51 : lw_okq (⟨"WideCoreModel", "indexOperand", "(I)I"⟩, 18) := ⟨⟨by decide +kernel, by decide +kernel⟩, List.mem_of_getElem? (i := 492) (by decide +kernel), List.mem_of_getElem? (i := 713) (by decide +kernel), List.mem_of_getElem? (i := 714) (by decide +kernel)⟩
theorem lw_p52 : lw_okq (⟨"WideCoreModel", "findIndex", "(Z)V"⟩, 18) := ⟨⟨by decide +kernel, by decide +kernel⟩, List.mem_of_getElem? (i := 492) (by decide +kernel), List.mem_of_getElem? (i := 717) (by decide +kernel), List.mem_of_getElem? (i := 718) (by decide +kernel)⟩
theorem lw_p53 : lw_okq (⟨"WideCoreModel", "storeAt", "(ZIZ)V"⟩, 18) := ⟨⟨by decide +kernel, by decide +kernel⟩, List.mem_of_getElem? (i := 492) (by decide +kernel), List.mem_of_getElem? (i := 721) (by decide +kernel), List.mem_of_getElem? (i := 722) (by decide +kernel)⟩
theorem lw_p54 : lw_okq (⟨"WideCoreModel", "transfer", "(I)Z"⟩, 18) := ⟨⟨by decide +kernel, by decide +kernel⟩, List.mem_of_getElem? (i := 492) (by decide +kernel), List.mem_of_getElem? (i := 725) (by decide +kernel), List.mem_of_getElem? (i := 726) (by decide +kernel)⟩
theorem lw_p55 : lw_okq (⟨"WideCoreModel", "stack", "(I)Z"⟩, 18) := ⟨⟨by decide +kernel, by decide +kernel⟩, List.mem_of_getElem? (i := 492) (by decide +kernel), List.mem_of_getElem? (i := 729) (by decide +kernel), List.mem_of_getElem? (i := 730) (by decide +kernel)⟩
theorem lw_p56 : lw_okq (⟨"WideCoreModel", "pushOf", "(IZ)V"⟩, 18) := ⟨⟨by decide +kernel, by decide +kernel⟩, List.mem_of_getElem? (i := 492) (by decide +kernel), List.mem_of_getElem? (i := 733) (by decide +kernel), List.mem_of_getElem? (i := 734) (by decide +kernel)⟩
theorem lw_p57 : lw_okq (⟨"WideCoreModel", "pullOf", "(Z)I"⟩, 18) := ⟨⟨by decide +kernel, by decide +kernel⟩, List.mem_of_getElem? (i := 492) (by decide +kernel), List.mem_of_getElem? (i := 737) (by decide +kernel), List.mem_of_getElem? (i := 738) (by decide +kernel)⟩
theorem lw_p58 : lw_okq (⟨"WideCoreModel", "pull", "()I"⟩, 18) := ⟨⟨by decide +kernel, by decide +kernel⟩, List.mem_of_getElem? (i := 492) (by decide +kernel), List.mem_of_getElem? (i := 741) (by decide +kernel), List.mem_of_getElem? (i := 742) (by decide +kernel)⟩
theorem lw_p59 : lw_okq (⟨"WideCoreModel", "pullWord", "()I"⟩, 18) := ⟨⟨by decide +kernel, by decide +kernel⟩, List.mem_of_getElem? (i := 492) (by decide +kernel), List.mem_of_getElem? (i := 745) (by decide +kernel), List.mem_of_getElem? (i := 746) (by decide +kernel)⟩
theorem lw_p60 : lw_okq (⟨"WideCoreModel", "jump", "(I)Z"⟩, 18) := ⟨⟨by decide +kernel, by decide +kernel⟩, List.mem_of_getElem? (i := 492) (by decide +kernel), List.mem_of_getElem? (i := 749) (by decide +kernel), List.mem_of_getElem? (i := 750) (by decide +kernel)⟩
theorem lw_p61 : lw_okq (⟨"WideCoreModel", "branch", "(Z)V"⟩, 18) := ⟨⟨by decide +kernel, by decide +kernel⟩, List.mem_of_getElem? (i := 492) (by decide +kernel), List.mem_of_getElem? (i := 753) (by decide +kernel), List.mem_of_getElem? (i := 754) (by decide +kernel)⟩
theorem lw_p62 : lw_okq (⟨"WideCoreModel", "call", "(I)V"⟩, 18) := ⟨⟨by decide +kernel, by decide +kernel⟩, List.mem_of_getElem? (i := 492) (by decide +kernel), List.mem_of_getElem? (i := 757) (by decide +kernel), List.mem_of_getElem? (i := 758) (by decide +kernel)⟩
theorem lw_p63 : lw_okq (⟨"WideCoreModel", "longJump", "(I)Z"⟩, 18) := ⟨⟨by decide +kernel, by decide +kernel⟩, List.mem_of_getElem? (i := 492) (by decide +kernel), List.mem_of_getElem? (i := 761) (by decide +kernel), List.mem_of_getElem? (i := 762) (by decide +kernel)⟩
def lw_privs_4 : List (MethodName × Nat) := [(⟨"WideCoreModel", "changeMemory", "(IZ)V"⟩, 18), (⟨"WideCoreModel", "changed", "(IIZ)I"⟩, 18), (⟨"WideCoreModel", "index", "(I)Z"⟩, 18), (⟨"WideCoreModel", "indexOperand", "(I)I"⟩, 18), (⟨"WideCoreModel", "findIndex", "(Z)V"⟩, 18), (⟨"WideCoreModel", "storeAt", "(ZIZ)V"⟩, 18), (⟨"WideCoreModel", "transfer", "(I)Z"⟩, 18), (⟨"WideCoreModel", "stack", "(I)Z"⟩, 18), (⟨"WideCoreModel", "pushOf", "(IZ)V"⟩, 18), (⟨"WideCoreModel", "pullOf", "(Z)I"⟩, 18), (⟨"WideCoreModel", "pull", "()I"⟩, 18), (⟨"WideCoreModel", "pullWord", "()I"⟩, 18), (⟨"WideCoreModel", "jump", "(I)Z"⟩, 18), (⟨"WideCoreModel", "branch", "(Z)V"⟩, 18), (⟨"WideCoreModel", "call", "(I)V"⟩, 18), (⟨"WideCoreModel", "longJump", "(I)Z"⟩, 18)]
theorem lw_r4 : ∀ q ∈ lw_privs_4, lw_okq q := List.forall_mem_cons.mpr ⟨lw_p48, List.forall_mem_cons.mpr ⟨lw_p49, List.forall_mem_cons.mpr ⟨lw_p50, List.forall_mem_cons.mpr ⟨lw_p51, List.forall_mem_cons.mpr ⟨lw_p52, List.forall_mem_cons.mpr ⟨lw_p53, List.forall_mem_cons.mpr ⟨lw_p54, List.forall_mem_cons.mpr ⟨lw_p55, List.forall_mem_cons.mpr ⟨lw_p56, List.forall_mem_cons.mpr ⟨lw_p57, List.forall_mem_cons.mpr ⟨lw_p58, List.forall_mem_cons.mpr ⟨lw_p59, List.forall_mem_cons.mpr ⟨lw_p60, List.forall_mem_cons.mpr ⟨lw_p61, List.forall_mem_cons.mpr ⟨lw_p62, List.forall_mem_cons.mpr ⟨lw_p63, fun _ h => absurd h List.not_mem_nil⟩⟩⟩⟩⟩⟩⟩⟩⟩⟩⟩⟩⟩⟩⟩⟩
theorem lw_p64 : lw_okq (⟨"WideCoreModel", "other", "(I)Z"⟩, 18) := ⟨⟨by decide +kernel, by decide +kernel⟩, List.mem_of_getElem? (i := 492) (by decide +kernel), List.mem_of_getElem? (i := 765) (by decide +kernel), List.mem_of_getElem? (i := 766) (by decide +kernel)⟩
theorem lw_p65 : lw_okq (⟨"WideCoreModel", "moveBlock", "(I)V"⟩, 18) := ⟨⟨by decide +kernel, by decide +kernel⟩, List.mem_of_getElem? (i := 492) (by decide +kernel), List.mem_of_getElem? (i := 769) (by decide +kernel), List.mem_of_getElem? (i := 770) (by decide +kernel)⟩
def lw_privs_5 : List (MethodName × Nat) := [(⟨"WideCoreModel", "other", "(I)Z"⟩, 18), (⟨"WideCoreModel", "moveBlock", "(I)V"⟩, 18)]
theorem lw_r5 : ∀ q ∈ lw_privs_5, lw_okq q := List.forall_mem_cons.mpr ⟨lw_p64, List.forall_mem_cons.mpr ⟨lw_p65, fun _ h => absurd h List.not_mem_nil⟩⟩
def lw_privs : List (MethodName × Nat) := lw_privs_1 ++ (lw_privs_2 ++ (lw_privs_3 ++ (lw_privs_4 ++ (lw_privs_5))))
def lw_tbl : List Cond := k2_sels lw_privs ++ tables_1
theorem lw_privs_ok : ∀ q ∈ lw_privs, lw_okq q := by
  show ∀ q ∈ lw_privs_1 ++ (lw_privs_2 ++ (lw_privs_3 ++ (lw_privs_4 ++ (lw_privs_5)))), lw_okq q
  exact List.forall_mem_append.mpr ⟨lw_r1, List.forall_mem_append.mpr ⟨lw_r2, List.forall_mem_append.mpr ⟨lw_r3, List.forall_mem_append.mpr ⟨lw_r4, lw_r5⟩⟩⟩⟩
end
section
def R_Wc : String := "WideCore"
def F_Wc : u_T := fun k => match k with
  | 0 => ("WideCore", "bus", "LWideCore$Bus;", true)
  | 1 => ("WideCore", "registers", "LWideCore$Registers;", true)
  | _ => ("WideCore", "processor", "LWideCore$Processor;", true)
def t_Wc : Nat → FieldType := fun k => match k with
  | 0 => .object "WideCore$Bus"
  | 1 => .object "WideCore$Registers"
  | _ => .object "WideCore$Processor"
theorem n_Wc : ∀ a, a < 3 → ∀ b, b < 3 → a ≠ b → (F_Wc a).2.1 ≠ (F_Wc b).2.1 := by decide +kernel
theorem t_Wc_ok : ∀ k, k < 3 → parseFieldDescriptor (F_Wc k).2.2.1 = some (t_Wc k) := by decide +kernel
def R_Mdl : String := "WideCoreModel"
def F_Mdl : u_T := fun k => match k with
  | 0 => ("WideCoreModel", "memory", "[I", true)
  | 1 => ("WideCoreModel", "c", "I", false)
  | 2 => ("WideCoreModel", "x", "I", false)
  | 3 => ("WideCoreModel", "y", "I", false)
  | 4 => ("WideCoreModel", "s", "I", false)
  | 5 => ("WideCoreModel", "d", "I", false)
  | 6 => ("WideCoreModel", "db", "I", false)
  | 7 => ("WideCoreModel", "p", "I", false)
  | 8 => ("WideCoreModel", "pb", "I", false)
  | 9 => ("WideCoreModel", "pc", "I", false)
  | 10 => ("WideCoreModel", "stopped", "Z", false)
  | 11 => ("WideCoreModel", "nmi", "Z", false)
  | 12 => ("WideCoreModel", "irq", "Z", false)
  | 13 => ("WideCoreModel", "steps", "I", false)
  | 14 => ("WideCoreModel", "touches", "I", false)
  | 15 => ("WideCoreModel", "latest", "[I", true)
  | 16 => ("WideCoreModel", "place", "I", false)
  | _ => ("WideCoreModel", "near", "Z", false)
def t_Mdl : Nat → FieldType := fun k => match k with
  | 0 => .array .int
  | 1 => .int
  | 2 => .int
  | 3 => .int
  | 4 => .int
  | 5 => .int
  | 6 => .int
  | 7 => .int
  | 8 => .int
  | 9 => .int
  | 10 => .boolean
  | 11 => .boolean
  | 12 => .boolean
  | 13 => .int
  | 14 => .int
  | 15 => .array .int
  | 16 => .int
  | _ => .boolean
theorem n_Mdl : ∀ a, a < 18 → ∀ b, b < 18 → a ≠ b → (F_Mdl a).2.1 ≠ (F_Mdl b).2.1 := by decide +kernel
theorem t_Mdl_ok : ∀ k, k < 18 → parseFieldDescriptor (F_Mdl k).2.2.1 = some (t_Mdl k) := by decide +kernel
def R_Bus : String := "WideCore$Bus"
def F_Bus : u_T := fun k => match k with
  | 0 => ("WideCore$Bus", "cells", "[B", true)
  | 1 => ("WideCore$Bus", "latest", "[I", true)
  | _ => ("WideCore$Bus", "touchCount", "I", false)
def t_Bus : Nat → FieldType := fun k => match k with
  | 0 => .array .byte
  | 1 => .array .int
  | _ => .int
theorem n_Bus : ∀ a, a < 3 → ∀ b, b < 3 → a ≠ b → (F_Bus a).2.1 ≠ (F_Bus b).2.1 := by decide +kernel
theorem t_Bus_ok : ∀ k, k < 3 → parseFieldDescriptor (F_Bus k).2.2.1 = some (t_Bus k) := by decide +kernel
def R_Opd : String := "WideCore$Operands"
def F_Opd : u_T := fun k => match k with
  | 0 => ("WideCore$Operands", "bus", "LWideCore$Bus;", true)
  | _ => ("WideCore$Operands", "\x72", "LWideCore$Registers;", true)
def t_Opd : Nat → FieldType := fun k => match k with
  | 0 => .object "WideCore$Bus"
  | _ => .object "WideCore$Registers"
theorem n_Opd : ∀ a, a < 2 → ∀ b, b < 2 → a ≠ b → (F_Opd a).2.1 ≠ (F_Opd b).2.1 := by decide +kernel
theorem t_Opd_ok : ∀ k, k < 2 → parseFieldDescriptor (F_Opd k).2.2.1 = some (t_Opd k) := by decide +kernel
def R_Prc : String := "WideCore$Processor"
def F_Prc : u_T := fun k => match k with
  | 0 => ("WideCore$Processor", "bus", "LWideCore$Bus;", true)
  | 1 => ("WideCore$Processor", "\x72", "LWideCore$Registers;", true)
  | 2 => ("WideCore$Processor", "operands", "LWideCore$Operands;", true)
  | 3 => ("WideCore$Processor", "stack", "LWideCore$Stack;", true)
  | 4 => ("WideCore$Processor", "nmiCalled", "Z", false)
  | 5 => ("WideCore$Processor", "irqCalled", "Z", false)
  | 6 => ("WideCore$Processor", "halted", "Z", false)
  | _ => ("WideCore$Processor", "stepCount", "I", false)
def t_Prc : Nat → FieldType := fun k => match k with
  | 0 => .object "WideCore$Bus"
  | 1 => .object "WideCore$Registers"
  | 2 => .object "WideCore$Operands"
  | 3 => .object "WideCore$Stack"
  | 4 => .boolean
  | 5 => .boolean
  | 6 => .boolean
  | _ => .int
theorem n_Prc : ∀ a, a < 8 → ∀ b, b < 8 → a ≠ b → (F_Prc a).2.1 ≠ (F_Prc b).2.1 := by decide +kernel
theorem t_Prc_ok : ∀ k, k < 8 → parseFieldDescriptor (F_Prc k).2.2.1 = some (t_Prc k) := by decide +kernel
def R_Reg : String := "WideCore$Registers"
def F_Reg : u_T := fun k => match k with
  | 0 => ("WideCore$Registers", "c", "I", false)
  | 1 => ("WideCore$Registers", "x", "I", false)
  | 2 => ("WideCore$Registers", "y", "I", false)
  | 3 => ("WideCore$Registers", "s", "I", false)
  | 4 => ("WideCore$Registers", "d", "I", false)
  | 5 => ("WideCore$Registers", "dataBank", "I", false)
  | 6 => ("WideCore$Registers", "programBank", "I", false)
  | 7 => ("WideCore$Registers", "pc", "I", false)
  | _ => ("WideCore$Registers", "p", "I", false)
def t_Reg : Nat → FieldType := fun k => match k with
  | 0 => .int
  | 1 => .int
  | 2 => .int
  | 3 => .int
  | 4 => .int
  | 5 => .int
  | 6 => .int
  | 7 => .int
  | _ => .int
theorem n_Reg : ∀ a, a < 9 → ∀ b, b < 9 → a ≠ b → (F_Reg a).2.1 ≠ (F_Reg b).2.1 := by decide +kernel
theorem t_Reg_ok : ∀ k, k < 9 → parseFieldDescriptor (F_Reg k).2.2.1 = some (t_Reg k) := by decide +kernel
def R_Stk : String := "WideCore$Stack"
def F_Stk : u_T := fun k => match k with
  | 0 => ("WideCore$Stack", "bus", "LWideCore$Bus;", true)
  | _ => ("WideCore$Stack", "\x72", "LWideCore$Registers;", true)
def t_Stk : Nat → FieldType := fun k => match k with
  | 0 => .object "WideCore$Bus"
  | _ => .object "WideCore$Registers"
theorem n_Stk : ∀ a, a < 2 → ∀ b, b < 2 → a ≠ b → (F_Stk a).2.1 ≠ (F_Stk b).2.1 := by decide +kernel
theorem t_Stk_ok : ∀ k, k < 2 → parseFieldDescriptor (F_Stk k).2.2.1 = some (t_Stk k) := by decide +kernel
abbrev b_Wc_init : ByteArray := prog_1_method_1_code
def y_Wc_init : MethodName := ⟨R_Wc, "<init>", "()V"⟩
abbrev b_Wc_poke : ByteArray := prog_1_method_2_code
def y_Wc_poke : MethodName := ⟨R_Wc, "poke", "(III)Z"⟩
abbrev b_Wc_peek : ByteArray := prog_1_method_3_code
def y_Wc_peek : MethodName := ⟨R_Wc, "peek", "(I)I"⟩
abbrev b_Wc_start : ByteArray := prog_1_method_4_code
def y_Wc_start : MethodName := ⟨R_Wc, "start", "(II)Z"⟩
abbrev b_Wc_set : ByteArray := prog_1_method_5_code
def y_Wc_set : MethodName := ⟨R_Wc, "set", "(II)Z"⟩
abbrev b_Wc_register : ByteArray := prog_1_method_6_code
def y_Wc_register : MethodName := ⟨R_Wc, "register", "(I)I"⟩
abbrev b_Wc_run : ByteArray := prog_1_method_7_code
def y_Wc_run : MethodName := ⟨R_Wc, "run", "(I)I"⟩
abbrev b_Wc_stopped : ByteArray := prog_1_method_8_code
def y_Wc_stopped : MethodName := ⟨R_Wc, "stopped", "()Z"⟩
abbrev b_Wc_interrupt : ByteArray := prog_1_method_9_code
def y_Wc_interrupt : MethodName := ⟨R_Wc, "interrupt", "()Z"⟩
abbrev b_Wc_line : ByteArray := prog_1_method_10_code
def y_Wc_line : MethodName := ⟨R_Wc, "line", "(Z)V"⟩
abbrev b_Wc_touches : ByteArray := prog_1_method_11_code
def y_Wc_touches : MethodName := ⟨R_Wc, "touches", "()I"⟩
abbrev b_Wc_touched : ByteArray := prog_1_method_12_code
def y_Wc_touched : MethodName := ⟨R_Wc, "touched", "(I)I"⟩
abbrev b_Wc_steps : ByteArray := prog_1_method_13_code
def y_Wc_steps : MethodName := ⟨R_Wc, "steps", "()I"⟩
abbrev b_Mdl_init : ByteArray := prog_8_method_1_code
def y_Mdl_init : MethodName := ⟨R_Mdl, "<init>", "()V"⟩
abbrev b_Mdl_is : ByteArray := prog_8_method_2_code
def y_Mdl_is : MethodName := ⟨R_Mdl, "is", "(I)Z"⟩
abbrev b_Mdl_flag : ByteArray := prog_8_method_3_code
def y_Mdl_flag : MethodName := ⟨R_Mdl, "flag", "(IZ)V"⟩
abbrev b_Mdl_cell : ByteArray := prog_8_method_4_code
def y_Mdl_cell : MethodName := ⟨R_Mdl, "cell", "(I)I"⟩
abbrev b_Mdl_touch : ByteArray := prog_8_method_5_code
def y_Mdl_touch : MethodName := ⟨R_Mdl, "touch", "(I)V"⟩
abbrev b_Mdl_read : ByteArray := prog_8_method_6_code
def y_Mdl_read : MethodName := ⟨R_Mdl, "read", "(I)I"⟩
abbrev b_Mdl_write : ByteArray := prog_8_method_7_code
def y_Mdl_write : MethodName := ⟨R_Mdl, "write", "(II)V"⟩
abbrev b_Mdl_after : ByteArray := prog_8_method_8_code
def y_Mdl_after : MethodName := ⟨R_Mdl, "after", "(IZ)I"⟩
abbrev b_Mdl_readWord : ByteArray := prog_8_method_9_code
def y_Mdl_readWord : MethodName := ⟨R_Mdl, "readWord", "(IZ)I"⟩
abbrev b_Mdl_push : ByteArray := prog_8_method_10_code
def y_Mdl_push : MethodName := ⟨R_Mdl, "push", "(I)V"⟩
abbrev b_Mdl_pushWord : ByteArray := prog_8_method_11_code
def y_Mdl_pushWord : MethodName := ⟨R_Mdl, "pushWord", "(I)V"⟩
abbrev b_Mdl_pull : ByteArray := prog_8_method_12_code
def y_Mdl_pull : MethodName := ⟨R_Mdl, "pull", "()I"⟩
abbrev b_Mdl_pullWord : ByteArray := prog_8_method_13_code
def y_Mdl_pullWord : MethodName := ⟨R_Mdl, "pullWord", "()I"⟩
abbrev b_Mdl_next : ByteArray := prog_8_method_14_code
def y_Mdl_next : MethodName := ⟨R_Mdl, "next", "()I"⟩
abbrev b_Mdl_nextWord : ByteArray := prog_8_method_15_code
def y_Mdl_nextWord : MethodName := ⟨R_Mdl, "nextWord", "()I"⟩
abbrev b_Mdl_nextLong : ByteArray := prog_8_method_16_code
def y_Mdl_nextLong : MethodName := ⟨R_Mdl, "nextLong", "()I"⟩
abbrev b_Mdl_accumulator : ByteArray := prog_8_method_17_code
def y_Mdl_accumulator : MethodName := ⟨R_Mdl, "accumulator", "()I"⟩
abbrev b_Mdl_setAccumulator : ByteArray := prog_8_method_18_code
def y_Mdl_setAccumulator : MethodName := ⟨R_Mdl, "setAccumulator", "(I)V"⟩
abbrev b_Mdl_cut : ByteArray := prog_8_method_19_code
def y_Mdl_cut : MethodName := ⟨R_Mdl, "cut", "(IZ)I"⟩
abbrev b_Mdl_result : ByteArray := prog_8_method_20_code
def y_Mdl_result : MethodName := ⟨R_Mdl, "result", "(IZ)I"⟩
abbrev b_Mdl_setFlags : ByteArray := prog_8_method_21_code
def y_Mdl_setFlags : MethodName := ⟨R_Mdl, "setFlags", "(I)V"⟩
abbrev b_Mdl_direct : ByteArray := prog_8_method_22_code
def y_Mdl_direct : MethodName := ⟨R_Mdl, "direct", "(I)V"⟩
abbrev b_Mdl_far : ByteArray := prog_8_method_23_code
def y_Mdl_far : MethodName := ⟨R_Mdl, "far", "(I)V"⟩
abbrev b_Mdl_find : ByteArray := prog_8_method_24_code
def y_Mdl_find : MethodName := ⟨R_Mdl, "find", "(I)Z"⟩
abbrev b_Mdl_load : ByteArray := prog_8_method_25_code
def y_Mdl_load : MethodName := ⟨R_Mdl, "load", "(Z)I"⟩
abbrev b_Mdl_store : ByteArray := prog_8_method_26_code
def y_Mdl_store : MethodName := ⟨R_Mdl, "store", "(IZ)V"⟩
abbrev b_Mdl_immediate : ByteArray := prog_8_method_27_code
def y_Mdl_immediate : MethodName := ⟨R_Mdl, "immediate", "(Z)I"⟩
abbrev b_Mdl_add : ByteArray := prog_8_method_28_code
def y_Mdl_add : MethodName := ⟨R_Mdl, "add", "(I)V"⟩
abbrev b_Mdl_compare : ByteArray := prog_8_method_29_code
def y_Mdl_compare : MethodName := ⟨R_Mdl, "compare", "(IIZ)V"⟩
abbrev b_Mdl_arithmetic : ByteArray := prog_8_method_30_code
def y_Mdl_arithmetic : MethodName := ⟨R_Mdl, "arithmetic", "(I)Z"⟩
abbrev b_Mdl_changed : ByteArray := prog_8_method_31_code
def y_Mdl_changed : MethodName := ⟨R_Mdl, "changed", "(IIZ)I"⟩
abbrev b_Mdl_changeMemory : ByteArray := prog_8_method_32_code
def y_Mdl_changeMemory : MethodName := ⟨R_Mdl, "changeMemory", "(IZ)V"⟩
abbrev b_Mdl_change : ByteArray := prog_8_method_33_code
def y_Mdl_change : MethodName := ⟨R_Mdl, "change", "(I)Z"⟩
abbrev b_Mdl_findIndex : ByteArray := prog_8_method_34_code
def y_Mdl_findIndex : MethodName := ⟨R_Mdl, "findIndex", "(Z)V"⟩
abbrev b_Mdl_indexOperand : ByteArray := prog_8_method_35_code
def y_Mdl_indexOperand : MethodName := ⟨R_Mdl, "indexOperand", "(I)I"⟩
abbrev b_Mdl_storeAt : ByteArray := prog_8_method_36_code
def y_Mdl_storeAt : MethodName := ⟨R_Mdl, "storeAt", "(ZIZ)V"⟩
abbrev b_Mdl_index : ByteArray := prog_8_method_37_code
def y_Mdl_index : MethodName := ⟨R_Mdl, "index", "(I)Z"⟩
abbrev b_Mdl_transfer : ByteArray := prog_8_method_38_code
def y_Mdl_transfer : MethodName := ⟨R_Mdl, "transfer", "(I)Z"⟩
abbrev b_Mdl_pushOf : ByteArray := prog_8_method_39_code
def y_Mdl_pushOf : MethodName := ⟨R_Mdl, "pushOf", "(IZ)V"⟩
abbrev b_Mdl_pullOf : ByteArray := prog_8_method_40_code
def y_Mdl_pullOf : MethodName := ⟨R_Mdl, "pullOf", "(Z)I"⟩
abbrev b_Mdl_stack : ByteArray := prog_8_method_41_code
def y_Mdl_stack : MethodName := ⟨R_Mdl, "stack", "(I)Z"⟩
abbrev b_Mdl_branch : ByteArray := prog_8_method_42_code
def y_Mdl_branch : MethodName := ⟨R_Mdl, "branch", "(Z)V"⟩
abbrev b_Mdl_call : ByteArray := prog_8_method_43_code
def y_Mdl_call : MethodName := ⟨R_Mdl, "call", "(I)V"⟩
abbrev b_Mdl_jump : ByteArray := prog_8_method_44_code
def y_Mdl_jump : MethodName := ⟨R_Mdl, "jump", "(I)Z"⟩
abbrev b_Mdl_longJump : ByteArray := prog_8_method_45_code
def y_Mdl_longJump : MethodName := ⟨R_Mdl, "longJump", "(I)Z"⟩
abbrev b_Mdl_moveBlock : ByteArray := prog_8_method_46_code
def y_Mdl_moveBlock : MethodName := ⟨R_Mdl, "moveBlock", "(I)V"⟩
abbrev b_Mdl_other : ByteArray := prog_8_method_47_code
def y_Mdl_other : MethodName := ⟨R_Mdl, "other", "(I)Z"⟩
abbrev b_Mdl_interruptFrom : ByteArray := prog_8_method_48_code
def y_Mdl_interruptFrom : MethodName := ⟨R_Mdl, "interruptFrom", "(I)V"⟩
abbrev b_Mdl_step : ByteArray := prog_8_method_49_code
def y_Mdl_step : MethodName := ⟨R_Mdl, "step", "()V"⟩
abbrev b_Mdl_poke : ByteArray := prog_8_method_50_code
def y_Mdl_poke : MethodName := ⟨R_Mdl, "poke", "(III)Z"⟩
abbrev b_Mdl_peek : ByteArray := prog_8_method_51_code
def y_Mdl_peek : MethodName := ⟨R_Mdl, "peek", "(I)I"⟩
abbrev b_Mdl_start : ByteArray := prog_8_method_52_code
def y_Mdl_start : MethodName := ⟨R_Mdl, "start", "(II)Z"⟩
abbrev b_Mdl_set : ByteArray := prog_8_method_53_code
def y_Mdl_set : MethodName := ⟨R_Mdl, "set", "(II)Z"⟩
abbrev b_Mdl_register : ByteArray := prog_8_method_54_code
def y_Mdl_register : MethodName := ⟨R_Mdl, "register", "(I)I"⟩
abbrev b_Mdl_run : ByteArray := prog_8_method_55_code
def y_Mdl_run : MethodName := ⟨R_Mdl, "run", "(I)I"⟩
abbrev b_Mdl_stopped : ByteArray := prog_8_method_56_code
def y_Mdl_stopped : MethodName := ⟨R_Mdl, "stopped", "()Z"⟩
abbrev b_Mdl_interrupt : ByteArray := prog_8_method_57_code
def y_Mdl_interrupt : MethodName := ⟨R_Mdl, "interrupt", "()Z"⟩
abbrev b_Mdl_line : ByteArray := prog_8_method_58_code
def y_Mdl_line : MethodName := ⟨R_Mdl, "line", "(Z)V"⟩
abbrev b_Mdl_touches : ByteArray := prog_8_method_59_code
def y_Mdl_touches : MethodName := ⟨R_Mdl, "touches", "()I"⟩
abbrev b_Mdl_touched : ByteArray := prog_8_method_60_code
def y_Mdl_touched : MethodName := ⟨R_Mdl, "touched", "(I)I"⟩
abbrev b_Mdl_steps : ByteArray := prog_8_method_61_code
def y_Mdl_steps : MethodName := ⟨R_Mdl, "steps", "()I"⟩
abbrev b_Bus_init : ByteArray := prog_2_method_1_code
def y_Bus_init : MethodName := ⟨R_Bus, "<init>", "()V"⟩
abbrev b_Bus_longPlace : ByteArray := prog_2_method_2_code
def y_Bus_longPlace : MethodName := ⟨R_Bus, "longPlace", "(I)I"⟩
abbrev b_Bus_bank0Place : ByteArray := prog_2_method_3_code
def y_Bus_bank0Place : MethodName := ⟨R_Bus, "bank0Place", "(I)I"⟩
abbrev b_Bus_placeAfter : ByteArray := prog_2_method_4_code
def y_Bus_placeAfter : MethodName := ⟨R_Bus, "placeAfter", "(I)I"⟩
abbrev b_Bus_cellOf : ByteArray := prog_2_method_5_code
def y_Bus_cellOf : MethodName := ⟨R_Bus, "cellOf", "(I)I"⟩
abbrev b_Bus_programByte : ByteArray := prog_2_method_6_code
def y_Bus_programByte : MethodName := ⟨R_Bus, "programByte", "(II)I"⟩
abbrev b_Bus_readByte : ByteArray := prog_2_method_7_code
def y_Bus_readByte : MethodName := ⟨R_Bus, "readByte", "(I)I"⟩
abbrev b_Bus_writeByte : ByteArray := prog_2_method_8_code
def y_Bus_writeByte : MethodName := ⟨R_Bus, "writeByte", "(II)V"⟩
abbrev b_Bus_readWord : ByteArray := prog_2_method_9_code
def y_Bus_readWord : MethodName := ⟨R_Bus, "readWord", "(I)I"⟩
abbrev b_Bus_readLong : ByteArray := prog_2_method_10_code
def y_Bus_readLong : MethodName := ⟨R_Bus, "readLong", "(I)I"⟩
abbrev b_Bus_readValue : ByteArray := prog_2_method_11_code
def y_Bus_readValue : MethodName := ⟨R_Bus, "readValue", "(IZ)I"⟩
abbrev b_Bus_writeValue : ByteArray := prog_2_method_12_code
def y_Bus_writeValue : MethodName := ⟨R_Bus, "writeValue", "(IIZ)V"⟩
abbrev b_Bus_latestTouch : ByteArray := prog_2_method_13_code
def y_Bus_latestTouch : MethodName := ⟨R_Bus, "latestTouch", "(I)I"⟩
abbrev b_Opd_init : ByteArray := prog_3_method_1_code
def y_Opd_init : MethodName := ⟨R_Opd, "<init>", "(LWideCore$Bus;LWideCore$Registers;)V"⟩
abbrev b_Opd_isMode : ByteArray := prog_3_method_2_code
def y_Opd_isMode : MethodName := ⟨R_Opd, "isMode", "(I)Z"⟩
abbrev b_Opd_nextByte : ByteArray := prog_3_method_3_code
def y_Opd_nextByte : MethodName := ⟨R_Opd, "nextByte", "()I"⟩
abbrev b_Opd_nextWord : ByteArray := prog_3_method_4_code
def y_Opd_nextWord : MethodName := ⟨R_Opd, "nextWord", "()I"⟩
abbrev b_Opd_nextLong : ByteArray := prog_3_method_5_code
def y_Opd_nextLong : MethodName := ⟨R_Opd, "nextLong", "()I"⟩
abbrev b_Opd_nextValue : ByteArray := prog_3_method_6_code
def y_Opd_nextValue : MethodName := ⟨R_Opd, "nextValue", "(Z)I"⟩
abbrev b_Opd_place : ByteArray := prog_3_method_7_code
def y_Opd_place : MethodName := ⟨R_Opd, "place", "(I)I"⟩
abbrev b_Opd_direct : ByteArray := prog_3_method_8_code
def y_Opd_direct : MethodName := ⟨R_Opd, "direct", "(I)I"⟩
abbrev b_Opd_onStack : ByteArray := prog_3_method_9_code
def y_Opd_onStack : MethodName := ⟨R_Opd, "onStack", "()I"⟩
abbrev b_Opd_inDataBank : ByteArray := prog_3_method_10_code
def y_Opd_inDataBank : MethodName := ⟨R_Opd, "inDataBank", "(II)I"⟩
abbrev b_Prc_init : ByteArray := prog_4_method_1_code
def y_Prc_init : MethodName := ⟨R_Prc, "<init>", "(LWideCore$Bus;LWideCore$Registers;)V"⟩
abbrev b_Prc_makeStep : ByteArray := prog_4_method_2_code
def y_Prc_makeStep : MethodName := ⟨R_Prc, "makeStep", "()V"⟩
abbrev b_Prc_enterInterrupt : ByteArray := prog_4_method_3_code
def y_Prc_enterInterrupt : MethodName := ⟨R_Prc, "enterInterrupt", "(I)V"⟩
abbrev b_Prc_useAccumulator : ByteArray := prog_4_method_4_code
def y_Prc_useAccumulator : MethodName := ⟨R_Prc, "useAccumulator", "(I)Z"⟩
abbrev b_Prc_addToA : ByteArray := prog_4_method_5_code
def y_Prc_addToA : MethodName := ⟨R_Prc, "addToA", "(I)V"⟩
abbrev b_Prc_compare : ByteArray := prog_4_method_6_code
def y_Prc_compare : MethodName := ⟨R_Prc, "compare", "(IIZ)V"⟩
abbrev b_Prc_useIndex : ByteArray := prog_4_method_7_code
def y_Prc_useIndex : MethodName := ⟨R_Prc, "useIndex", "(I)Z"⟩
abbrev b_Prc_storeZero : ByteArray := prog_4_method_8_code
def y_Prc_storeZero : MethodName := ⟨R_Prc, "storeZero", "(I)Z"⟩
abbrev b_Prc_changeMemory : ByteArray := prog_4_method_9_code
def y_Prc_changeMemory : MethodName := ⟨R_Prc, "changeMemory", "(I)Z"⟩
abbrev b_Prc_changeRegister : ByteArray := prog_4_method_10_code
def y_Prc_changeRegister : MethodName := ⟨R_Prc, "changeRegister", "(I)Z"⟩
abbrev b_Prc_changed : ByteArray := prog_4_method_11_code
def y_Prc_changed : MethodName := ⟨R_Prc, "changed", "(IIZ)I"⟩
abbrev b_Prc_transfer : ByteArray := prog_4_method_12_code
def y_Prc_transfer : MethodName := ⟨R_Prc, "transfer", "(I)Z"⟩
abbrev b_Prc_push : ByteArray := prog_4_method_13_code
def y_Prc_push : MethodName := ⟨R_Prc, "push", "(I)Z"⟩
abbrev b_Prc_pull : ByteArray := prog_4_method_14_code
def y_Prc_pull : MethodName := ⟨R_Prc, "pull", "(I)Z"⟩
abbrev b_Prc_branch : ByteArray := prog_4_method_15_code
def y_Prc_branch : MethodName := ⟨R_Prc, "branch", "(I)Z"⟩
abbrev b_Prc_jump : ByteArray := prog_4_method_16_code
def y_Prc_jump : MethodName := ⟨R_Prc, "jump", "(I)Z"⟩
abbrev b_Prc_changeFlags : ByteArray := prog_4_method_17_code
def y_Prc_changeFlags : MethodName := ⟨R_Prc, "changeFlags", "(I)Z"⟩
abbrev b_Prc_moveBlock : ByteArray := prog_4_method_18_code
def y_Prc_moveBlock : MethodName := ⟨R_Prc, "moveBlock", "(I)Z"⟩
abbrev b_Reg_init : ByteArray := prog_5_method_1_code
def y_Reg_init : MethodName := ⟨R_Reg, "<init>", "()V"⟩
abbrev b_Reg_maskOf : ByteArray := prog_5_method_2_code
def y_Reg_maskOf : MethodName := ⟨R_Reg, "maskOf", "(Z)I"⟩
abbrev b_Reg_signOf : ByteArray := prog_5_method_3_code
def y_Reg_signOf : MethodName := ⟨R_Reg, "signOf", "(Z)I"⟩
abbrev b_Reg_has : ByteArray := prog_5_method_4_code
def y_Reg_has : MethodName := ⟨R_Reg, "has", "(I)Z"⟩
abbrev b_Reg_putFlag : ByteArray := prog_5_method_5_code
def y_Reg_putFlag : MethodName := ⟨R_Reg, "putFlag", "(IZ)V"⟩
abbrev b_Reg_wideA : ByteArray := prog_5_method_6_code
def y_Reg_wideA : MethodName := ⟨R_Reg, "wideA", "()Z"⟩
abbrev b_Reg_wideIndex : ByteArray := prog_5_method_7_code
def y_Reg_wideIndex : MethodName := ⟨R_Reg, "wideIndex", "()Z"⟩
abbrev b_Reg_indexMask : ByteArray := prog_5_method_8_code
def y_Reg_indexMask : MethodName := ⟨R_Reg, "indexMask", "()I"⟩
abbrev b_Reg_a : ByteArray := prog_5_method_9_code
def y_Reg_a : MethodName := ⟨R_Reg, "a", "()I"⟩
abbrev b_Reg_replaceP : ByteArray := prog_5_method_10_code
def y_Reg_replaceP : MethodName := ⟨R_Reg, "replaceP", "(I)V"⟩
abbrev b_Reg_showResult : ByteArray := prog_5_method_11_code
def y_Reg_showResult : MethodName := ⟨R_Reg, "showResult", "(IZ)V"⟩
abbrev b_Reg_loadA : ByteArray := prog_5_method_12_code
def y_Reg_loadA : MethodName := ⟨R_Reg, "loadA", "(I)V"⟩
abbrev b_Reg_loadX : ByteArray := prog_5_method_13_code
def y_Reg_loadX : MethodName := ⟨R_Reg, "loadX", "(I)V"⟩
abbrev b_Reg_loadY : ByteArray := prog_5_method_14_code
def y_Reg_loadY : MethodName := ⟨R_Reg, "loadY", "(I)V"⟩
abbrev b_Reg_loadC : ByteArray := prog_5_method_15_code
def y_Reg_loadC : MethodName := ⟨R_Reg, "loadC", "(I)V"⟩
abbrev b_Reg_loadD : ByteArray := prog_5_method_16_code
def y_Reg_loadD : MethodName := ⟨R_Reg, "loadD", "(I)V"⟩
abbrev b_Reg_loadDataBank : ByteArray := prog_5_method_17_code
def y_Reg_loadDataBank : MethodName := ⟨R_Reg, "loadDataBank", "(I)V"⟩
abbrev b_Reg_jumpTo : ByteArray := prog_5_method_18_code
def y_Reg_jumpTo : MethodName := ⟨R_Reg, "jumpTo", "(I)V"⟩
abbrev b_Reg_jumpLong : ByteArray := prog_5_method_19_code
def y_Reg_jumpLong : MethodName := ⟨R_Reg, "jumpLong", "(I)V"⟩
abbrev b_Stk_init : ByteArray := prog_6_method_1_code
def y_Stk_init : MethodName := ⟨R_Stk, "<init>", "(LWideCore$Bus;LWideCore$Registers;)V"⟩
abbrev b_Stk_pushByte : ByteArray := prog_6_method_2_code
def y_Stk_pushByte : MethodName := ⟨R_Stk, "pushByte", "(I)V"⟩
abbrev b_Stk_pushWord : ByteArray := prog_6_method_3_code
def y_Stk_pushWord : MethodName := ⟨R_Stk, "pushWord", "(I)V"⟩
abbrev b_Stk_pushValue : ByteArray := prog_6_method_4_code
def y_Stk_pushValue : MethodName := ⟨R_Stk, "pushValue", "(IZ)V"⟩
abbrev b_Stk_pullByte : ByteArray := prog_6_method_5_code
def y_Stk_pullByte : MethodName := ⟨R_Stk, "pullByte", "()I"⟩
abbrev b_Stk_pullWord : ByteArray := prog_6_method_6_code
def y_Stk_pullWord : MethodName := ⟨R_Stk, "pullWord", "()I"⟩
abbrev b_Stk_pullValue : ByteArray := prog_6_method_7_code
def y_Stk_pullValue : MethodName := ⟨R_Stk, "pullValue", "(Z)I"⟩
def WS : List Cond := lw_tbl.filter goodWord
theorem WS_good {x : Cond} (h : x ∈ WS) : goodWord x = true := (List.mem_filter.mp h).2
theorem WS_at (k : Nat) {x : Cond} (h : lw_tbl[k]? = some x) (hg : goodWord x = true) : x ∈ WS := List.mem_filter.mpr ⟨List.mem_of_getElem? h, hg⟩
abbrev classes : List vw_C := [(R_Wc, F_Wc, 3), (R_Bus, F_Bus, 3), (R_Reg, F_Reg, 9), (R_Prc, F_Prc, 8), (R_Opd, F_Opd, 2), (R_Stk, F_Stk, 2), (R_Mdl, F_Mdl, 18)]
end
section
set_option maxRecDepth 100000 in
theorem q_0 : Cond.selects R_Prc y_Prc_enterInterrupt y_Prc_enterInterrupt ∈ WS := WS_at 0 rfl rfl
set_option maxRecDepth 100000 in
theorem q_1 : Cond.selects R_Prc y_Prc_useAccumulator y_Prc_useAccumulator ∈ WS := WS_at 1 rfl rfl
set_option maxRecDepth 100000 in
theorem q_2 : Cond.selects R_Opd y_Opd_direct y_Opd_direct ∈ WS := WS_at 2 rfl rfl
set_option maxRecDepth 100000 in
theorem q_3 : Cond.selects R_Opd y_Opd_inDataBank y_Opd_inDataBank ∈ WS := WS_at 3 rfl rfl
set_option maxRecDepth 100000 in
theorem q_4 : Cond.selects R_Opd y_Opd_onStack y_Opd_onStack ∈ WS := WS_at 4 rfl rfl
set_option maxRecDepth 100000 in
theorem q_5 : Cond.selects R_Prc y_Prc_addToA y_Prc_addToA ∈ WS := WS_at 5 rfl rfl
set_option maxRecDepth 100000 in
theorem q_6 : Cond.selects R_Prc y_Prc_compare y_Prc_compare ∈ WS := WS_at 6 rfl rfl
set_option maxRecDepth 100000 in
theorem q_7 : Cond.selects R_Prc y_Prc_useIndex y_Prc_useIndex ∈ WS := WS_at 7 rfl rfl
set_option maxRecDepth 100000 in
theorem q_8 : Cond.selects R_Prc y_Prc_storeZero y_Prc_storeZero ∈ WS := WS_at 8 rfl rfl
set_option maxRecDepth 100000 in
theorem q_9 : Cond.selects R_Prc y_Prc_changeMemory y_Prc_changeMemory ∈ WS := WS_at 9 rfl rfl
set_option maxRecDepth 100000 in
theorem q_10 : Cond.selects R_Prc y_Prc_changed y_Prc_changed ∈ WS := WS_at 10 rfl rfl
set_option maxRecDepth 100000 in
theorem q_11 : Cond.selects R_Prc y_Prc_changeRegister y_Prc_changeRegister ∈ WS := WS_at 11 rfl rfl
set_option maxRecDepth 100000 in
theorem q_12 : Cond.selects R_Prc y_Prc_transfer y_Prc_transfer ∈ WS := WS_at 12 rfl rfl
set_option maxRecDepth 100000 in
theorem q_13 : Cond.selects R_Prc y_Prc_push y_Prc_push ∈ WS := WS_at 13 rfl rfl
set_option maxRecDepth 100000 in
theorem q_14 : Cond.selects R_Prc y_Prc_pull y_Prc_pull ∈ WS := WS_at 14 rfl rfl
set_option maxRecDepth 100000 in
theorem q_15 : Cond.selects R_Prc y_Prc_branch y_Prc_branch ∈ WS := WS_at 15 rfl rfl
set_option maxRecDepth 100000 in
theorem q_16 : Cond.selects R_Prc y_Prc_jump y_Prc_jump ∈ WS := WS_at 16 rfl rfl
set_option maxRecDepth 100000 in
theorem q_17 : Cond.selects R_Prc y_Prc_changeFlags y_Prc_changeFlags ∈ WS := WS_at 17 rfl rfl
set_option maxRecDepth 100000 in
theorem q_18 : Cond.selects R_Prc y_Prc_moveBlock y_Prc_moveBlock ∈ WS := WS_at 18 rfl rfl
set_option maxRecDepth 100000 in
theorem q_19 : Cond.selects R_Mdl y_Mdl_is y_Mdl_is ∈ WS := WS_at 19 rfl rfl
set_option maxRecDepth 100000 in
theorem q_20 : Cond.selects R_Mdl y_Mdl_cut y_Mdl_cut ∈ WS := WS_at 20 rfl rfl
set_option maxRecDepth 100000 in
theorem q_21 : Cond.selects R_Mdl y_Mdl_setFlags y_Mdl_setFlags ∈ WS := WS_at 21 rfl rfl
set_option maxRecDepth 100000 in
theorem q_22 : Cond.selects R_Mdl y_Mdl_step y_Mdl_step ∈ WS := WS_at 22 rfl rfl
set_option maxRecDepth 100000 in
theorem q_23 : Cond.selects R_Mdl y_Mdl_interruptFrom y_Mdl_interruptFrom ∈ WS := WS_at 23 rfl rfl
set_option maxRecDepth 100000 in
theorem q_24 : Cond.selects R_Mdl y_Mdl_push y_Mdl_push ∈ WS := WS_at 24 rfl rfl
set_option maxRecDepth 100000 in
theorem q_25 : Cond.selects R_Mdl y_Mdl_write y_Mdl_write ∈ WS := WS_at 25 rfl rfl
set_option maxRecDepth 100000 in
theorem q_26 : Cond.selects R_Mdl y_Mdl_touch y_Mdl_touch ∈ WS := WS_at 26 rfl rfl
set_option maxRecDepth 100000 in
theorem q_27 : Cond.selects R_Mdl y_Mdl_pushWord y_Mdl_pushWord ∈ WS := WS_at 27 rfl rfl
set_option maxRecDepth 100000 in
theorem q_28 : Cond.selects R_Mdl y_Mdl_flag y_Mdl_flag ∈ WS := WS_at 28 rfl rfl
set_option maxRecDepth 100000 in
theorem q_29 : Cond.selects R_Mdl y_Mdl_readWord y_Mdl_readWord ∈ WS := WS_at 29 rfl rfl
set_option maxRecDepth 100000 in
theorem q_30 : Cond.selects R_Mdl y_Mdl_read y_Mdl_read ∈ WS := WS_at 30 rfl rfl
set_option maxRecDepth 100000 in
theorem q_31 : Cond.selects R_Mdl y_Mdl_after y_Mdl_after ∈ WS := WS_at 31 rfl rfl
set_option maxRecDepth 100000 in
theorem q_32 : Cond.selects R_Mdl y_Mdl_next y_Mdl_next ∈ WS := WS_at 32 rfl rfl
set_option maxRecDepth 100000 in
theorem q_33 : Cond.selects R_Mdl y_Mdl_arithmetic y_Mdl_arithmetic ∈ WS := WS_at 33 rfl rfl
set_option maxRecDepth 100000 in
theorem q_34 : Cond.selects R_Mdl y_Mdl_find y_Mdl_find ∈ WS := WS_at 34 rfl rfl
set_option maxRecDepth 100000 in
theorem q_35 : Cond.selects R_Mdl y_Mdl_direct y_Mdl_direct ∈ WS := WS_at 35 rfl rfl
set_option maxRecDepth 100000 in
theorem q_36 : Cond.selects R_Mdl y_Mdl_nextWord y_Mdl_nextWord ∈ WS := WS_at 36 rfl rfl
set_option maxRecDepth 100000 in
theorem q_37 : Cond.selects R_Mdl y_Mdl_far y_Mdl_far ∈ WS := WS_at 37 rfl rfl
set_option maxRecDepth 100000 in
theorem q_38 : Cond.selects R_Mdl y_Mdl_nextLong y_Mdl_nextLong ∈ WS := WS_at 38 rfl rfl
set_option maxRecDepth 100000 in
theorem q_39 : Cond.selects R_Mdl y_Mdl_accumulator y_Mdl_accumulator ∈ WS := WS_at 39 rfl rfl
set_option maxRecDepth 100000 in
theorem q_40 : Cond.selects R_Mdl y_Mdl_store y_Mdl_store ∈ WS := WS_at 40 rfl rfl
set_option maxRecDepth 100000 in
theorem q_41 : Cond.selects R_Mdl y_Mdl_immediate y_Mdl_immediate ∈ WS := WS_at 41 rfl rfl
set_option maxRecDepth 100000 in
theorem q_42 : Cond.selects R_Mdl y_Mdl_load y_Mdl_load ∈ WS := WS_at 42 rfl rfl
set_option maxRecDepth 100000 in
theorem q_43 : Cond.selects R_Mdl y_Mdl_add y_Mdl_add ∈ WS := WS_at 43 rfl rfl
set_option maxRecDepth 100000 in
theorem q_44 : Cond.selects R_Mdl y_Mdl_result y_Mdl_result ∈ WS := WS_at 44 rfl rfl
set_option maxRecDepth 100000 in
theorem q_45 : Cond.selects R_Mdl y_Mdl_setAccumulator y_Mdl_setAccumulator ∈ WS := WS_at 45 rfl rfl
set_option maxRecDepth 100000 in
theorem q_46 : Cond.selects R_Mdl y_Mdl_compare y_Mdl_compare ∈ WS := WS_at 46 rfl rfl
set_option maxRecDepth 100000 in
theorem q_47 : Cond.selects R_Mdl y_Mdl_change y_Mdl_change ∈ WS := WS_at 47 rfl rfl
set_option maxRecDepth 100000 in
theorem q_48 : Cond.selects R_Mdl y_Mdl_changeMemory y_Mdl_changeMemory ∈ WS := WS_at 48 rfl rfl
set_option maxRecDepth 100000 in
theorem q_49 : Cond.selects R_Mdl y_Mdl_changed y_Mdl_changed ∈ WS := WS_at 49 rfl rfl
set_option maxRecDepth 100000 in
theorem q_50 : Cond.selects R_Mdl y_Mdl_index y_Mdl_index ∈ WS := WS_at 50 rfl rfl
set_option maxRecDepth 100000 in
theorem q_51 : Cond.selects R_Mdl y_Mdl_indexOperand y_Mdl_indexOperand ∈ WS := WS_at 51 rfl rfl
set_option maxRecDepth 100000 in
theorem q_52 : Cond.selects R_Mdl y_Mdl_findIndex y_Mdl_findIndex ∈ WS := WS_at 52 rfl rfl
set_option maxRecDepth 100000 in
theorem q_53 : Cond.selects R_Mdl y_Mdl_storeAt y_Mdl_storeAt ∈ WS := WS_at 53 rfl rfl
set_option maxRecDepth 100000 in
theorem q_54 : Cond.selects R_Mdl y_Mdl_transfer y_Mdl_transfer ∈ WS := WS_at 54 rfl rfl
set_option maxRecDepth 100000 in
theorem q_55 : Cond.selects R_Mdl y_Mdl_stack y_Mdl_stack ∈ WS := WS_at 55 rfl rfl
set_option maxRecDepth 100000 in
theorem q_56 : Cond.selects R_Mdl y_Mdl_pushOf y_Mdl_pushOf ∈ WS := WS_at 56 rfl rfl
set_option maxRecDepth 100000 in
theorem q_57 : Cond.selects R_Mdl y_Mdl_pullOf y_Mdl_pullOf ∈ WS := WS_at 57 rfl rfl
set_option maxRecDepth 100000 in
theorem q_58 : Cond.selects R_Mdl y_Mdl_pull y_Mdl_pull ∈ WS := WS_at 58 rfl rfl
set_option maxRecDepth 100000 in
theorem q_59 : Cond.selects R_Mdl y_Mdl_pullWord y_Mdl_pullWord ∈ WS := WS_at 59 rfl rfl
set_option maxRecDepth 100000 in
theorem q_60 : Cond.selects R_Mdl y_Mdl_jump y_Mdl_jump ∈ WS := WS_at 60 rfl rfl
set_option maxRecDepth 100000 in
theorem q_61 : Cond.selects R_Mdl y_Mdl_branch y_Mdl_branch ∈ WS := WS_at 61 rfl rfl
set_option maxRecDepth 100000 in
theorem q_62 : Cond.selects R_Mdl y_Mdl_call y_Mdl_call ∈ WS := WS_at 62 rfl rfl
set_option maxRecDepth 100000 in
theorem q_63 : Cond.selects R_Mdl y_Mdl_longJump y_Mdl_longJump ∈ WS := WS_at 63 rfl rfl
set_option maxRecDepth 100000 in
theorem q_64 : Cond.selects R_Mdl y_Mdl_other y_Mdl_other ∈ WS := WS_at 64 rfl rfl
set_option maxRecDepth 100000 in
theorem q_65 : Cond.selects R_Mdl y_Mdl_moveBlock y_Mdl_moveBlock ∈ WS := WS_at 65 rfl rfl
set_option maxRecDepth 100000 in
theorem q_67 : Cond.initialized R_Wc ∈ WS := WS_at 67 rfl rfl
set_option maxRecDepth 100000 in
theorem q_68 : Cond.initialized R_Bus ∈ WS := WS_at 68 rfl rfl
set_option maxRecDepth 100000 in
theorem q_69 : Cond.initialized R_Reg ∈ WS := WS_at 69 rfl rfl
set_option maxRecDepth 100000 in
theorem q_70 : Cond.initialized R_Prc ∈ WS := WS_at 70 rfl rfl
set_option maxRecDepth 100000 in
theorem q_71 : Cond.initialized R_Opd ∈ WS := WS_at 71 rfl rfl
set_option maxRecDepth 100000 in
theorem q_72 : Cond.initialized R_Stk ∈ WS := WS_at 72 rfl rfl
set_option maxRecDepth 100000 in
theorem q_73 : Cond.initialized R_Mdl ∈ WS := WS_at 73 rfl rfl
set_option maxRecDepth 100000 in
theorem q_79 : Cond.methodLink R_Wc 1 objectInit ∈ WS := WS_at 79 rfl rfl
set_option maxRecDepth 100000 in
theorem q_80 : Cond.instanceMethod objectInit ∈ WS := WS_at 80 rfl rfl
set_option maxRecDepth 100000 in
theorem q_81 : Cond.code objectInit ⟨#[0xb1]⟩ 1 none ∈ WS := WS_at 81 rfl rfl
set_option maxRecDepth 100000 in
theorem q_82 : Cond.classLink R_Wc 7 R_Bus ∈ WS := WS_at 82 rfl rfl
set_option maxRecDepth 100000 in
theorem q_83 : Cond.instantiable R_Bus 3 ∈ WS := WS_at 83 rfl rfl
set_option maxRecDepth 100000 in
theorem q_85 : Cond.instanceMethod y_Bus_init ∈ WS := WS_at 85 rfl rfl
set_option maxRecDepth 100000 in
theorem q_86 : Cond.code y_Bus_init b_Bus_init 1 none ∈ WS := WS_at 86 rfl rfl
set_option maxRecDepth 100000 in
theorem q_87 : Cond.methodLink R_Bus 1 objectInit ∈ WS := WS_at 87 rfl rfl
set_option maxRecDepth 100000 in
theorem q_88 : Cond.fieldLink R_Bus 9 "WideCore$Bus" "cells" "[B" ∈ WS := WS_at 88 rfl rfl
set_option maxRecDepth 100000 in
theorem q_89 : Cond.fieldLink R_Wc 32 "WideCore$Bus" "cells" "[B" ∈ WS := WS_at 89 rfl rfl
set_option maxRecDepth 100000 in
theorem q_90 : Cond.fieldLink R_Bus 13 "WideCore$Bus" "latest" "[I" ∈ WS := WS_at 90 rfl rfl
set_option maxRecDepth 100000 in
theorem q_91 : Cond.fieldLink R_Bus 30 "WideCore$Bus" "touchCount" "I" ∈ WS := WS_at 91 rfl rfl
set_option maxRecDepth 100000 in
theorem q_92 : Cond.fieldLink R_Wc 86 "WideCore$Bus" "touchCount" "I" ∈ WS := WS_at 92 rfl rfl
set_option maxRecDepth 100000 in
theorem q_93 : Cond.laysFinal R_Bus R_Bus "cells" "[B" ∈ WS := WS_at 93 rfl rfl
set_option maxRecDepth 100000 in
theorem q_95 : Cond.laysFinal R_Bus R_Bus "latest" "[I" ∈ WS := WS_at 95 rfl rfl
set_option maxRecDepth 100000 in
theorem q_97 : Cond.lays R_Bus R_Bus "touchCount" "I" ∈ WS := WS_at 97 rfl rfl
set_option maxRecDepth 100000 in
theorem q_100 : Cond.arrayClass .byte ∈ WS := WS_at 100 rfl rfl
set_option maxRecDepth 100000 in
theorem q_101 : Cond.arrayClass .int ∈ WS := WS_at 101 rfl rfl
set_option maxRecDepth 100000 in
theorem q_102 : Cond.classLink R_Wc 16 R_Reg ∈ WS := WS_at 102 rfl rfl
set_option maxRecDepth 100000 in
theorem q_103 : Cond.instantiable R_Reg 9 ∈ WS := WS_at 103 rfl rfl
set_option maxRecDepth 100000 in
theorem q_105 : Cond.instanceMethod y_Reg_init ∈ WS := WS_at 105 rfl rfl
set_option maxRecDepth 100000 in
theorem q_106 : Cond.code y_Reg_init b_Reg_init 1 none ∈ WS := WS_at 106 rfl rfl
set_option maxRecDepth 100000 in
theorem q_107 : Cond.methodLink R_Reg 1 objectInit ∈ WS := WS_at 107 rfl rfl
set_option maxRecDepth 100000 in
theorem q_108 : Cond.fieldLink R_Prc 135 "WideCore$Registers" "c" "I" ∈ WS := WS_at 108 rfl rfl
set_option maxRecDepth 100000 in
theorem q_109 : Cond.fieldLink R_Wc 48 "WideCore$Registers" "c" "I" ∈ WS := WS_at 109 rfl rfl
set_option maxRecDepth 100000 in
theorem q_110 : Cond.fieldLink R_Reg 26 "WideCore$Registers" "c" "I" ∈ WS := WS_at 110 rfl rfl
set_option maxRecDepth 100000 in
theorem q_111 : Cond.fieldLink R_Wc 55 "WideCore$Registers" "x" "I" ∈ WS := WS_at 111 rfl rfl
set_option maxRecDepth 100000 in
theorem q_112 : Cond.fieldLink R_Opd 44 "WideCore$Registers" "x" "I" ∈ WS := WS_at 112 rfl rfl
set_option maxRecDepth 100000 in
theorem q_113 : Cond.fieldLink R_Prc 180 "WideCore$Registers" "x" "I" ∈ WS := WS_at 113 rfl rfl
set_option maxRecDepth 100000 in
theorem q_114 : Cond.fieldLink R_Reg 32 "WideCore$Registers" "x" "I" ∈ WS := WS_at 114 rfl rfl
set_option maxRecDepth 100000 in
theorem q_115 : Cond.fieldLink R_Wc 58 "WideCore$Registers" "y" "I" ∈ WS := WS_at 115 rfl rfl
set_option maxRecDepth 100000 in
theorem q_116 : Cond.fieldLink R_Opd 50 "WideCore$Registers" "y" "I" ∈ WS := WS_at 116 rfl rfl
set_option maxRecDepth 100000 in
theorem q_117 : Cond.fieldLink R_Prc 183 "WideCore$Registers" "y" "I" ∈ WS := WS_at 117 rfl rfl
set_option maxRecDepth 100000 in
theorem q_118 : Cond.fieldLink R_Reg 39 "WideCore$Registers" "y" "I" ∈ WS := WS_at 118 rfl rfl
set_option maxRecDepth 100000 in
theorem q_119 : Cond.fieldLink R_Reg 7 "WideCore$Registers" "s" "I" ∈ WS := WS_at 119 rfl rfl
set_option maxRecDepth 100000 in
theorem q_120 : Cond.fieldLink R_Stk 17 "WideCore$Registers" "s" "I" ∈ WS := WS_at 120 rfl rfl
set_option maxRecDepth 100000 in
theorem q_121 : Cond.fieldLink R_Wc 61 "WideCore$Registers" "s" "I" ∈ WS := WS_at 121 rfl rfl
set_option maxRecDepth 100000 in
theorem q_122 : Cond.fieldLink R_Opd 74 "WideCore$Registers" "s" "I" ∈ WS := WS_at 122 rfl rfl
set_option maxRecDepth 100000 in
theorem q_123 : Cond.fieldLink R_Prc 190 "WideCore$Registers" "s" "I" ∈ WS := WS_at 123 rfl rfl
set_option maxRecDepth 100000 in
theorem q_124 : Cond.fieldLink R_Wc 64 "WideCore$Registers" "d" "I" ∈ WS := WS_at 124 rfl rfl
set_option maxRecDepth 100000 in
theorem q_125 : Cond.fieldLink R_Opd 68 "WideCore$Registers" "d" "I" ∈ WS := WS_at 125 rfl rfl
set_option maxRecDepth 100000 in
theorem q_126 : Cond.fieldLink R_Prc 196 "WideCore$Registers" "d" "I" ∈ WS := WS_at 126 rfl rfl
set_option maxRecDepth 100000 in
theorem q_127 : Cond.fieldLink R_Reg 49 "WideCore$Registers" "d" "I" ∈ WS := WS_at 127 rfl rfl
set_option maxRecDepth 100000 in
theorem q_128 : Cond.fieldLink R_Wc 67 "WideCore$Registers" "dataBank" "I" ∈ WS := WS_at 128 rfl rfl
set_option maxRecDepth 100000 in
theorem q_129 : Cond.fieldLink R_Opd 77 "WideCore$Registers" "dataBank" "I" ∈ WS := WS_at 129 rfl rfl
set_option maxRecDepth 100000 in
theorem q_130 : Cond.fieldLink R_Prc 205 "WideCore$Registers" "dataBank" "I" ∈ WS := WS_at 130 rfl rfl
set_option maxRecDepth 100000 in
theorem q_131 : Cond.fieldLink R_Reg 52 "WideCore$Registers" "dataBank" "I" ∈ WS := WS_at 131 rfl rfl
set_option maxRecDepth 100000 in
theorem q_132 : Cond.fieldLink R_Prc 97 "WideCore$Registers" "programBank" "I" ∈ WS := WS_at 132 rfl rfl
set_option maxRecDepth 100000 in
theorem q_133 : Cond.fieldLink R_Opd 17 "WideCore$Registers" "programBank" "I" ∈ WS := WS_at 133 rfl rfl
set_option maxRecDepth 100000 in
theorem q_134 : Cond.fieldLink R_Wc 37 "WideCore$Registers" "programBank" "I" ∈ WS := WS_at 134 rfl rfl
set_option maxRecDepth 100000 in
theorem q_135 : Cond.fieldLink R_Reg 58 "WideCore$Registers" "programBank" "I" ∈ WS := WS_at 135 rfl rfl
set_option maxRecDepth 100000 in
theorem q_136 : Cond.fieldLink R_Opd 23 "WideCore$Registers" "pc" "I" ∈ WS := WS_at 136 rfl rfl
set_option maxRecDepth 100000 in
theorem q_137 : Cond.fieldLink R_Prc 103 "WideCore$Registers" "pc" "I" ∈ WS := WS_at 137 rfl rfl
set_option maxRecDepth 100000 in
theorem q_138 : Cond.fieldLink R_Wc 41 "WideCore$Registers" "pc" "I" ∈ WS := WS_at 138 rfl rfl
set_option maxRecDepth 100000 in
theorem q_139 : Cond.fieldLink R_Reg 55 "WideCore$Registers" "pc" "I" ∈ WS := WS_at 139 rfl rfl
set_option maxRecDepth 100000 in
theorem q_140 : Cond.fieldLink R_Reg 13 "WideCore$Registers" "p" "I" ∈ WS := WS_at 140 rfl rfl
set_option maxRecDepth 100000 in
theorem q_141 : Cond.fieldLink R_Prc 109 "WideCore$Registers" "p" "I" ∈ WS := WS_at 141 rfl rfl
set_option maxRecDepth 100000 in
theorem q_142 : Cond.fieldLink R_Wc 74 "WideCore$Registers" "p" "I" ∈ WS := WS_at 142 rfl rfl
set_option maxRecDepth 100000 in
theorem q_143 : Cond.lays R_Reg R_Reg "c" "I" ∈ WS := WS_at 143 rfl rfl
set_option maxRecDepth 100000 in
theorem q_145 : Cond.lays R_Reg R_Reg "x" "I" ∈ WS := WS_at 145 rfl rfl
set_option maxRecDepth 100000 in
theorem q_147 : Cond.lays R_Reg R_Reg "y" "I" ∈ WS := WS_at 147 rfl rfl
set_option maxRecDepth 100000 in
theorem q_149 : Cond.lays R_Reg R_Reg "s" "I" ∈ WS := WS_at 149 rfl rfl
set_option maxRecDepth 100000 in
theorem q_151 : Cond.lays R_Reg R_Reg "d" "I" ∈ WS := WS_at 151 rfl rfl
set_option maxRecDepth 100000 in
theorem q_153 : Cond.lays R_Reg R_Reg "dataBank" "I" ∈ WS := WS_at 153 rfl rfl
set_option maxRecDepth 100000 in
theorem q_155 : Cond.lays R_Reg R_Reg "programBank" "I" ∈ WS := WS_at 155 rfl rfl
set_option maxRecDepth 100000 in
theorem q_157 : Cond.lays R_Reg R_Reg "pc" "I" ∈ WS := WS_at 157 rfl rfl
set_option maxRecDepth 100000 in
theorem q_159 : Cond.lays R_Reg R_Reg "p" "I" ∈ WS := WS_at 159 rfl rfl
set_option maxRecDepth 100000 in
theorem q_162 : Cond.classLink R_Wc 23 R_Prc ∈ WS := WS_at 162 rfl rfl
set_option maxRecDepth 100000 in
theorem q_163 : Cond.instantiable R_Prc 8 ∈ WS := WS_at 163 rfl rfl
set_option maxRecDepth 100000 in
theorem q_164 : Cond.methodLink R_Wc 25 y_Prc_init ∈ WS := WS_at 164 rfl rfl
set_option maxRecDepth 100000 in
theorem q_165 : Cond.instanceMethod y_Prc_init ∈ WS := WS_at 165 rfl rfl
set_option maxRecDepth 100000 in
theorem q_166 : Cond.code y_Prc_init b_Prc_init 3 none ∈ WS := WS_at 166 rfl rfl
set_option maxRecDepth 100000 in
theorem q_167 : Cond.methodLink R_Prc 1 objectInit ∈ WS := WS_at 167 rfl rfl
set_option maxRecDepth 100000 in
theorem q_168 : Cond.classLink R_Prc 17 R_Opd ∈ WS := WS_at 168 rfl rfl
set_option maxRecDepth 100000 in
theorem q_169 : Cond.instantiable R_Opd 2 ∈ WS := WS_at 169 rfl rfl
set_option maxRecDepth 100000 in
theorem q_170 : Cond.methodLink R_Prc 19 y_Opd_init ∈ WS := WS_at 170 rfl rfl
set_option maxRecDepth 100000 in
theorem q_171 : Cond.instanceMethod y_Opd_init ∈ WS := WS_at 171 rfl rfl
set_option maxRecDepth 100000 in
theorem q_172 : Cond.code y_Opd_init b_Opd_init 3 none ∈ WS := WS_at 172 rfl rfl
set_option maxRecDepth 100000 in
theorem q_173 : Cond.methodLink R_Opd 1 objectInit ∈ WS := WS_at 173 rfl rfl
set_option maxRecDepth 100000 in
theorem q_174 : Cond.fieldLink R_Opd 7 "WideCore$Operands" "bus" "LWideCore$Bus;" ∈ WS := WS_at 174 rfl rfl
set_option maxRecDepth 100000 in
theorem q_175 : Cond.fieldLink R_Opd 13 "WideCore$Operands" "\x72" "LWideCore$Registers;" ∈ WS := WS_at 175 rfl rfl
set_option maxRecDepth 100000 in
theorem q_176 : Cond.laysFinal R_Opd R_Opd "bus" "LWideCore$Bus;" ∈ WS := WS_at 176 rfl rfl
set_option maxRecDepth 100000 in
theorem q_178 : Cond.laysFinal R_Opd R_Opd "\x72" "LWideCore$Registers;" ∈ WS := WS_at 178 rfl rfl
set_option maxRecDepth 100000 in
theorem q_181 : Cond.classLink R_Prc 26 R_Stk ∈ WS := WS_at 181 rfl rfl
set_option maxRecDepth 100000 in
theorem q_182 : Cond.instantiable R_Stk 2 ∈ WS := WS_at 182 rfl rfl
set_option maxRecDepth 100000 in
theorem q_183 : Cond.methodLink R_Prc 28 y_Stk_init ∈ WS := WS_at 183 rfl rfl
set_option maxRecDepth 100000 in
theorem q_184 : Cond.instanceMethod y_Stk_init ∈ WS := WS_at 184 rfl rfl
set_option maxRecDepth 100000 in
theorem q_185 : Cond.code y_Stk_init b_Stk_init 3 none ∈ WS := WS_at 185 rfl rfl
set_option maxRecDepth 100000 in
theorem q_186 : Cond.methodLink R_Stk 1 objectInit ∈ WS := WS_at 186 rfl rfl
set_option maxRecDepth 100000 in
theorem q_187 : Cond.fieldLink R_Stk 7 "WideCore$Stack" "bus" "LWideCore$Bus;" ∈ WS := WS_at 187 rfl rfl
set_option maxRecDepth 100000 in
theorem q_188 : Cond.fieldLink R_Stk 13 "WideCore$Stack" "\x72" "LWideCore$Registers;" ∈ WS := WS_at 188 rfl rfl
set_option maxRecDepth 100000 in
theorem q_189 : Cond.laysFinal R_Stk R_Stk "bus" "LWideCore$Bus;" ∈ WS := WS_at 189 rfl rfl
set_option maxRecDepth 100000 in
theorem q_191 : Cond.laysFinal R_Stk R_Stk "\x72" "LWideCore$Registers;" ∈ WS := WS_at 191 rfl rfl
set_option maxRecDepth 100000 in
theorem q_194 : Cond.fieldLink R_Prc 7 "WideCore$Processor" "bus" "LWideCore$Bus;" ∈ WS := WS_at 194 rfl rfl
set_option maxRecDepth 100000 in
theorem q_195 : Cond.fieldLink R_Prc 13 "WideCore$Processor" "\x72" "LWideCore$Registers;" ∈ WS := WS_at 195 rfl rfl
set_option maxRecDepth 100000 in
theorem q_196 : Cond.fieldLink R_Prc 22 "WideCore$Processor" "operands" "LWideCore$Operands;" ∈ WS := WS_at 196 rfl rfl
set_option maxRecDepth 100000 in
theorem q_197 : Cond.fieldLink R_Prc 29 "WideCore$Processor" "stack" "LWideCore$Stack;" ∈ WS := WS_at 197 rfl rfl
set_option maxRecDepth 100000 in
theorem q_198 : Cond.fieldLink R_Prc 37 "WideCore$Processor" "nmiCalled" "Z" ∈ WS := WS_at 198 rfl rfl
set_option maxRecDepth 100000 in
theorem q_199 : Cond.fieldLink R_Wc 80 "WideCore$Processor" "nmiCalled" "Z" ∈ WS := WS_at 199 rfl rfl
set_option maxRecDepth 100000 in
theorem q_200 : Cond.fieldLink R_Prc 45 "WideCore$Processor" "irqCalled" "Z" ∈ WS := WS_at 200 rfl rfl
set_option maxRecDepth 100000 in
theorem q_201 : Cond.fieldLink R_Wc 83 "WideCore$Processor" "irqCalled" "Z" ∈ WS := WS_at 201 rfl rfl
set_option maxRecDepth 100000 in
theorem q_202 : Cond.fieldLink R_Prc 94 "WideCore$Processor" "halted" "Z" ∈ WS := WS_at 202 rfl rfl
set_option maxRecDepth 100000 in
theorem q_203 : Cond.fieldLink R_Wc 44 "WideCore$Processor" "halted" "Z" ∈ WS := WS_at 203 rfl rfl
set_option maxRecDepth 100000 in
theorem q_204 : Cond.fieldLink R_Prc 33 "WideCore$Processor" "stepCount" "I" ∈ WS := WS_at 204 rfl rfl
set_option maxRecDepth 100000 in
theorem q_205 : Cond.fieldLink R_Wc 93 "WideCore$Processor" "stepCount" "I" ∈ WS := WS_at 205 rfl rfl
set_option maxRecDepth 100000 in
theorem q_206 : Cond.laysFinal R_Prc R_Prc "bus" "LWideCore$Bus;" ∈ WS := WS_at 206 rfl rfl
set_option maxRecDepth 100000 in
theorem q_208 : Cond.laysFinal R_Prc R_Prc "\x72" "LWideCore$Registers;" ∈ WS := WS_at 208 rfl rfl
set_option maxRecDepth 100000 in
theorem q_210 : Cond.laysFinal R_Prc R_Prc "operands" "LWideCore$Operands;" ∈ WS := WS_at 210 rfl rfl
set_option maxRecDepth 100000 in
theorem q_212 : Cond.laysFinal R_Prc R_Prc "stack" "LWideCore$Stack;" ∈ WS := WS_at 212 rfl rfl
set_option maxRecDepth 100000 in
theorem q_214 : Cond.lays R_Prc R_Prc "nmiCalled" "Z" ∈ WS := WS_at 214 rfl rfl
set_option maxRecDepth 100000 in
theorem q_216 : Cond.lays R_Prc R_Prc "irqCalled" "Z" ∈ WS := WS_at 216 rfl rfl
set_option maxRecDepth 100000 in
theorem q_218 : Cond.lays R_Prc R_Prc "halted" "Z" ∈ WS := WS_at 218 rfl rfl
set_option maxRecDepth 100000 in
theorem q_220 : Cond.lays R_Prc R_Prc "stepCount" "I" ∈ WS := WS_at 220 rfl rfl
set_option maxRecDepth 100000 in
theorem q_223 : Cond.fieldLink R_Wc 10 "WideCore" "bus" "LWideCore$Bus;" ∈ WS := WS_at 223 rfl rfl
set_option maxRecDepth 100000 in
theorem q_224 : Cond.fieldLink R_Wc 19 "WideCore" "registers" "LWideCore$Registers;" ∈ WS := WS_at 224 rfl rfl
set_option maxRecDepth 100000 in
theorem q_225 : Cond.fieldLink R_Wc 28 "WideCore" "processor" "LWideCore$Processor;" ∈ WS := WS_at 225 rfl rfl
set_option maxRecDepth 100000 in
theorem q_226 : Cond.laysFinal R_Wc R_Wc "bus" "LWideCore$Bus;" ∈ WS := WS_at 226 rfl rfl
set_option maxRecDepth 100000 in
theorem q_228 : Cond.laysFinal R_Wc R_Wc "registers" "LWideCore$Registers;" ∈ WS := WS_at 228 rfl rfl
set_option maxRecDepth 100000 in
theorem q_230 : Cond.laysFinal R_Wc R_Wc "processor" "LWideCore$Processor;" ∈ WS := WS_at 230 rfl rfl
set_option maxRecDepth 100000 in
theorem q_234 : Cond.instanceMethod y_Wc_poke ∈ WS := WS_at 234 rfl rfl
set_option maxRecDepth 100000 in
theorem q_235 : Cond.selects R_Wc y_Wc_poke y_Wc_poke ∈ WS := WS_at 235 rfl rfl
set_option maxRecDepth 100000 in
theorem q_236 : Cond.code y_Wc_poke b_Wc_poke 5 (some .boolean) ∈ WS := WS_at 236 rfl rfl
set_option maxRecDepth 100000 in
theorem q_238 : Cond.instanceMethod y_Wc_peek ∈ WS := WS_at 238 rfl rfl
set_option maxRecDepth 100000 in
theorem q_239 : Cond.selects R_Wc y_Wc_peek y_Wc_peek ∈ WS := WS_at 239 rfl rfl
set_option maxRecDepth 100000 in
theorem q_240 : Cond.code y_Wc_peek b_Wc_peek 2 (some .int) ∈ WS := WS_at 240 rfl rfl
set_option maxRecDepth 100000 in
theorem q_242 : Cond.instanceMethod y_Wc_start ∈ WS := WS_at 242 rfl rfl
set_option maxRecDepth 100000 in
theorem q_243 : Cond.selects R_Wc y_Wc_start y_Wc_start ∈ WS := WS_at 243 rfl rfl
set_option maxRecDepth 100000 in
theorem q_244 : Cond.code y_Wc_start b_Wc_start 3 (some .boolean) ∈ WS := WS_at 244 rfl rfl
set_option maxRecDepth 100000 in
theorem q_245 : Cond.constant R_Wc 36 65535 ∈ WS := WS_at 245 rfl rfl
set_option maxRecDepth 100000 in
theorem q_247 : Cond.instanceMethod y_Wc_set ∈ WS := WS_at 247 rfl rfl
set_option maxRecDepth 100000 in
theorem q_248 : Cond.selects R_Wc y_Wc_set y_Wc_set ∈ WS := WS_at 248 rfl rfl
set_option maxRecDepth 100000 in
theorem q_249 : Cond.code y_Wc_set b_Wc_set 3 (some .boolean) ∈ WS := WS_at 249 rfl rfl
set_option maxRecDepth 100000 in
theorem q_250 : Cond.methodLink R_Wc 51 y_Reg_indexMask ∈ WS := WS_at 250 rfl rfl
set_option maxRecDepth 100000 in
theorem q_251 : Cond.instanceMethod y_Reg_indexMask ∈ WS := WS_at 251 rfl rfl
set_option maxRecDepth 100000 in
theorem q_252 : Cond.selects R_Reg y_Reg_indexMask y_Reg_indexMask ∈ WS := WS_at 252 rfl rfl
set_option maxRecDepth 100000 in
theorem q_253 : Cond.code y_Reg_indexMask b_Reg_indexMask 1 (some .int) ∈ WS := WS_at 253 rfl rfl
set_option maxRecDepth 100000 in
theorem q_254 : Cond.methodLink R_Reg 18 y_Reg_wideIndex ∈ WS := WS_at 254 rfl rfl
set_option maxRecDepth 100000 in
theorem q_255 : Cond.instanceMethod y_Reg_wideIndex ∈ WS := WS_at 255 rfl rfl
set_option maxRecDepth 100000 in
theorem q_256 : Cond.selects R_Reg y_Reg_wideIndex y_Reg_wideIndex ∈ WS := WS_at 256 rfl rfl
set_option maxRecDepth 100000 in
theorem q_257 : Cond.code y_Reg_wideIndex b_Reg_wideIndex 1 (some .boolean) ∈ WS := WS_at 257 rfl rfl
set_option maxRecDepth 100000 in
theorem q_258 : Cond.methodLink R_Reg 22 y_Reg_maskOf ∈ WS := WS_at 258 rfl rfl
set_option maxRecDepth 100000 in
theorem q_259 : Cond.static y_Reg_maskOf ∈ WS := WS_at 259 rfl rfl
set_option maxRecDepth 100000 in
theorem q_260 : Cond.code y_Reg_maskOf b_Reg_maskOf 1 (some .int) ∈ WS := WS_at 260 rfl rfl
set_option maxRecDepth 100000 in
theorem q_261 : Cond.constant R_Reg 16 65535 ∈ WS := WS_at 261 rfl rfl
set_option maxRecDepth 100000 in
theorem q_262 : Cond.methodLink R_Wc 70 y_Reg_replaceP ∈ WS := WS_at 262 rfl rfl
set_option maxRecDepth 100000 in
theorem q_263 : Cond.instanceMethod y_Reg_replaceP ∈ WS := WS_at 263 rfl rfl
set_option maxRecDepth 100000 in
theorem q_264 : Cond.selects R_Reg y_Reg_replaceP y_Reg_replaceP ∈ WS := WS_at 264 rfl rfl
set_option maxRecDepth 100000 in
theorem q_265 : Cond.code y_Reg_replaceP b_Reg_replaceP 2 none ∈ WS := WS_at 265 rfl rfl
set_option maxRecDepth 100000 in
theorem q_266 : Cond.methodLink R_Reg 35 y_Reg_indexMask ∈ WS := WS_at 266 rfl rfl
set_option maxRecDepth 100000 in
theorem q_268 : Cond.instanceMethod y_Wc_register ∈ WS := WS_at 268 rfl rfl
set_option maxRecDepth 100000 in
theorem q_269 : Cond.selects R_Wc y_Wc_register y_Wc_register ∈ WS := WS_at 269 rfl rfl
set_option maxRecDepth 100000 in
theorem q_270 : Cond.code y_Wc_register b_Wc_register 2 (some .int) ∈ WS := WS_at 270 rfl rfl
set_option maxRecDepth 100000 in
theorem q_276 : Cond.instanceMethod y_Prc_makeStep ∈ WS := WS_at 276 rfl rfl
set_option maxRecDepth 100000 in
theorem q_277 : Cond.selects R_Prc y_Prc_makeStep y_Prc_makeStep ∈ WS := WS_at 277 rfl rfl
set_option maxRecDepth 100000 in
theorem q_278 : Cond.code y_Prc_makeStep b_Prc_makeStep 3 none ∈ WS := WS_at 278 rfl rfl
set_option maxRecDepth 100000 in
theorem q_279 : Cond.methodLink R_Prc 41 y_Prc_enterInterrupt ∈ WS := WS_at 279 rfl rfl
set_option maxRecDepth 100000 in
theorem q_281 : Cond.instanceMethod y_Prc_enterInterrupt ∈ WS := WS_at 281 rfl rfl
set_option maxRecDepth 100000 in
theorem q_282 : Cond.code y_Prc_enterInterrupt b_Prc_enterInterrupt 2 none ∈ WS := WS_at 282 rfl rfl
set_option maxRecDepth 100000 in
theorem q_283 : Cond.methodLink R_Prc 100 y_Stk_pushByte ∈ WS := WS_at 283 rfl rfl
set_option maxRecDepth 100000 in
theorem q_284 : Cond.instanceMethod y_Stk_pushByte ∈ WS := WS_at 284 rfl rfl
set_option maxRecDepth 100000 in
theorem q_285 : Cond.selects R_Stk y_Stk_pushByte y_Stk_pushByte ∈ WS := WS_at 285 rfl rfl
set_option maxRecDepth 100000 in
theorem q_286 : Cond.code y_Stk_pushByte b_Stk_pushByte 2 none ∈ WS := WS_at 286 rfl rfl
set_option maxRecDepth 100000 in
theorem q_287 : Cond.methodLink R_Stk 23 y_Bus_bank0Place ∈ WS := WS_at 287 rfl rfl
set_option maxRecDepth 100000 in
theorem q_288 : Cond.static y_Bus_bank0Place ∈ WS := WS_at 288 rfl rfl
set_option maxRecDepth 100000 in
theorem q_289 : Cond.code y_Bus_bank0Place b_Bus_bank0Place 1 (some .int) ∈ WS := WS_at 289 rfl rfl
set_option maxRecDepth 100000 in
theorem q_290 : Cond.constant R_Bus 18 16777216 ∈ WS := WS_at 290 rfl rfl
set_option maxRecDepth 100000 in
theorem q_291 : Cond.constant R_Bus 19 65535 ∈ WS := WS_at 291 rfl rfl
set_option maxRecDepth 100000 in
theorem q_292 : Cond.methodLink R_Stk 29 y_Bus_writeByte ∈ WS := WS_at 292 rfl rfl
set_option maxRecDepth 100000 in
theorem q_293 : Cond.instanceMethod y_Bus_writeByte ∈ WS := WS_at 293 rfl rfl
set_option maxRecDepth 100000 in
theorem q_294 : Cond.selects R_Bus y_Bus_writeByte y_Bus_writeByte ∈ WS := WS_at 294 rfl rfl
set_option maxRecDepth 100000 in
theorem q_295 : Cond.code y_Bus_writeByte b_Bus_writeByte 4 none ∈ WS := WS_at 295 rfl rfl
set_option maxRecDepth 100000 in
theorem q_296 : Cond.methodLink R_Bus 27 y_Bus_cellOf ∈ WS := WS_at 296 rfl rfl
set_option maxRecDepth 100000 in
theorem q_297 : Cond.static y_Bus_cellOf ∈ WS := WS_at 297 rfl rfl
set_option maxRecDepth 100000 in
theorem q_298 : Cond.code y_Bus_cellOf b_Bus_cellOf 1 (some .int) ∈ WS := WS_at 298 rfl rfl
set_option maxRecDepth 100000 in
theorem q_299 : Cond.constant R_Stk 33 65535 ∈ WS := WS_at 299 rfl rfl
set_option maxRecDepth 100000 in
theorem q_300 : Cond.methodLink R_Prc 106 y_Stk_pushWord ∈ WS := WS_at 300 rfl rfl
set_option maxRecDepth 100000 in
theorem q_301 : Cond.instanceMethod y_Stk_pushWord ∈ WS := WS_at 301 rfl rfl
set_option maxRecDepth 100000 in
theorem q_302 : Cond.selects R_Stk y_Stk_pushWord y_Stk_pushWord ∈ WS := WS_at 302 rfl rfl
set_option maxRecDepth 100000 in
theorem q_303 : Cond.code y_Stk_pushWord b_Stk_pushWord 2 none ∈ WS := WS_at 303 rfl rfl
set_option maxRecDepth 100000 in
theorem q_304 : Cond.methodLink R_Stk 34 y_Stk_pushByte ∈ WS := WS_at 304 rfl rfl
set_option maxRecDepth 100000 in
theorem q_305 : Cond.methodLink R_Prc 112 y_Reg_putFlag ∈ WS := WS_at 305 rfl rfl
set_option maxRecDepth 100000 in
theorem q_306 : Cond.instanceMethod y_Reg_putFlag ∈ WS := WS_at 306 rfl rfl
set_option maxRecDepth 100000 in
theorem q_307 : Cond.selects R_Reg y_Reg_putFlag y_Reg_putFlag ∈ WS := WS_at 307 rfl rfl
set_option maxRecDepth 100000 in
theorem q_308 : Cond.code y_Reg_putFlag b_Reg_putFlag 3 none ∈ WS := WS_at 308 rfl rfl
set_option maxRecDepth 100000 in
theorem q_309 : Cond.methodLink R_Prc 116 y_Bus_bank0Place ∈ WS := WS_at 309 rfl rfl
set_option maxRecDepth 100000 in
theorem q_310 : Cond.methodLink R_Prc 122 y_Bus_readWord ∈ WS := WS_at 310 rfl rfl
set_option maxRecDepth 100000 in
theorem q_311 : Cond.instanceMethod y_Bus_readWord ∈ WS := WS_at 311 rfl rfl
set_option maxRecDepth 100000 in
theorem q_312 : Cond.selects R_Bus y_Bus_readWord y_Bus_readWord ∈ WS := WS_at 312 rfl rfl
set_option maxRecDepth 100000 in
theorem q_313 : Cond.code y_Bus_readWord b_Bus_readWord 3 (some .int) ∈ WS := WS_at 313 rfl rfl
set_option maxRecDepth 100000 in
theorem q_314 : Cond.methodLink R_Bus 34 y_Bus_readByte ∈ WS := WS_at 314 rfl rfl
set_option maxRecDepth 100000 in
theorem q_315 : Cond.instanceMethod y_Bus_readByte ∈ WS := WS_at 315 rfl rfl
set_option maxRecDepth 100000 in
theorem q_316 : Cond.selects R_Bus y_Bus_readByte y_Bus_readByte ∈ WS := WS_at 316 rfl rfl
set_option maxRecDepth 100000 in
theorem q_317 : Cond.code y_Bus_readByte b_Bus_readByte 3 (some .int) ∈ WS := WS_at 317 rfl rfl
set_option maxRecDepth 100000 in
theorem q_318 : Cond.methodLink R_Bus 37 y_Bus_placeAfter ∈ WS := WS_at 318 rfl rfl
set_option maxRecDepth 100000 in
theorem q_319 : Cond.static y_Bus_placeAfter ∈ WS := WS_at 319 rfl rfl
set_option maxRecDepth 100000 in
theorem q_320 : Cond.code y_Bus_placeAfter b_Bus_placeAfter 1 (some .int) ∈ WS := WS_at 320 rfl rfl
set_option maxRecDepth 100000 in
theorem q_321 : Cond.methodLink R_Bus 20 y_Bus_bank0Place ∈ WS := WS_at 321 rfl rfl
set_option maxRecDepth 100000 in
theorem q_322 : Cond.methodLink R_Bus 24 y_Bus_longPlace ∈ WS := WS_at 322 rfl rfl
set_option maxRecDepth 100000 in
theorem q_323 : Cond.static y_Bus_longPlace ∈ WS := WS_at 323 rfl rfl
set_option maxRecDepth 100000 in
theorem q_324 : Cond.code y_Bus_longPlace b_Bus_longPlace 1 (some .int) ∈ WS := WS_at 324 rfl rfl
set_option maxRecDepth 100000 in
theorem q_325 : Cond.constant R_Bus 17 16777215 ∈ WS := WS_at 325 rfl rfl
set_option maxRecDepth 100000 in
theorem q_326 : Cond.methodLink R_Prc 50 y_Reg_has ∈ WS := WS_at 326 rfl rfl
set_option maxRecDepth 100000 in
theorem q_327 : Cond.instanceMethod y_Reg_has ∈ WS := WS_at 327 rfl rfl
set_option maxRecDepth 100000 in
theorem q_328 : Cond.selects R_Reg y_Reg_has y_Reg_has ∈ WS := WS_at 328 rfl rfl
set_option maxRecDepth 100000 in
theorem q_329 : Cond.code y_Reg_has b_Reg_has 2 (some .boolean) ∈ WS := WS_at 329 rfl rfl
set_option maxRecDepth 100000 in
theorem q_330 : Cond.methodLink R_Prc 54 y_Opd_nextByte ∈ WS := WS_at 330 rfl rfl
set_option maxRecDepth 100000 in
theorem q_331 : Cond.instanceMethod y_Opd_nextByte ∈ WS := WS_at 331 rfl rfl
set_option maxRecDepth 100000 in
theorem q_332 : Cond.selects R_Opd y_Opd_nextByte y_Opd_nextByte ∈ WS := WS_at 332 rfl rfl
set_option maxRecDepth 100000 in
theorem q_333 : Cond.code y_Opd_nextByte b_Opd_nextByte 2 (some .int) ∈ WS := WS_at 333 rfl rfl
set_option maxRecDepth 100000 in
theorem q_334 : Cond.methodLink R_Opd 26 y_Bus_programByte ∈ WS := WS_at 334 rfl rfl
set_option maxRecDepth 100000 in
theorem q_335 : Cond.instanceMethod y_Bus_programByte ∈ WS := WS_at 335 rfl rfl
set_option maxRecDepth 100000 in
theorem q_336 : Cond.selects R_Bus y_Bus_programByte y_Bus_programByte ∈ WS := WS_at 336 rfl rfl
set_option maxRecDepth 100000 in
theorem q_337 : Cond.code y_Bus_programByte b_Bus_programByte 3 (some .int) ∈ WS := WS_at 337 rfl rfl
set_option maxRecDepth 100000 in
theorem q_338 : Cond.constant R_Opd 32 65535 ∈ WS := WS_at 338 rfl rfl
set_option maxRecDepth 100000 in
theorem q_339 : Cond.methodLink R_Prc 58 y_Prc_useAccumulator ∈ WS := WS_at 339 rfl rfl
set_option maxRecDepth 100000 in
theorem q_341 : Cond.instanceMethod y_Prc_useAccumulator ∈ WS := WS_at 341 rfl rfl
set_option maxRecDepth 100000 in
theorem q_342 : Cond.code y_Prc_useAccumulator b_Prc_useAccumulator 6 (some .boolean) ∈ WS := WS_at 342 rfl rfl
set_option maxRecDepth 100000 in
theorem q_343 : Cond.methodLink R_Prc 125 y_Opd_isMode ∈ WS := WS_at 343 rfl rfl
set_option maxRecDepth 100000 in
theorem q_344 : Cond.static y_Opd_isMode ∈ WS := WS_at 344 rfl rfl
set_option maxRecDepth 100000 in
theorem q_345 : Cond.code y_Opd_isMode b_Opd_isMode 1 (some .boolean) ∈ WS := WS_at 345 rfl rfl
set_option maxRecDepth 100000 in
theorem q_346 : Cond.methodLink R_Prc 128 y_Reg_wideA ∈ WS := WS_at 346 rfl rfl
set_option maxRecDepth 100000 in
theorem q_347 : Cond.instanceMethod y_Reg_wideA ∈ WS := WS_at 347 rfl rfl
set_option maxRecDepth 100000 in
theorem q_348 : Cond.selects R_Reg y_Reg_wideA y_Reg_wideA ∈ WS := WS_at 348 rfl rfl
set_option maxRecDepth 100000 in
theorem q_349 : Cond.code y_Reg_wideA b_Reg_wideA 1 (some .boolean) ∈ WS := WS_at 349 rfl rfl
set_option maxRecDepth 100000 in
theorem q_350 : Cond.methodLink R_Prc 132 y_Opd_place ∈ WS := WS_at 350 rfl rfl
set_option maxRecDepth 100000 in
theorem q_351 : Cond.instanceMethod y_Opd_place ∈ WS := WS_at 351 rfl rfl
set_option maxRecDepth 100000 in
theorem q_352 : Cond.selects R_Opd y_Opd_place y_Opd_place ∈ WS := WS_at 352 rfl rfl
set_option maxRecDepth 100000 in
theorem q_353 : Cond.code y_Opd_place b_Opd_place 2 (some .int) ∈ WS := WS_at 353 rfl rfl
set_option maxRecDepth 100000 in
theorem q_354 : Cond.methodLink R_Opd 40 y_Opd_direct ∈ WS := WS_at 354 rfl rfl
set_option maxRecDepth 100000 in
theorem q_356 : Cond.instanceMethod y_Opd_direct ∈ WS := WS_at 356 rfl rfl
set_option maxRecDepth 100000 in
theorem q_357 : Cond.code y_Opd_direct b_Opd_direct 2 (some .int) ∈ WS := WS_at 357 rfl rfl
set_option maxRecDepth 100000 in
theorem q_358 : Cond.methodLink R_Opd 33 y_Opd_nextByte ∈ WS := WS_at 358 rfl rfl
set_option maxRecDepth 100000 in
theorem q_359 : Cond.methodLink R_Opd 71 y_Bus_bank0Place ∈ WS := WS_at 359 rfl rfl
set_option maxRecDepth 100000 in
theorem q_360 : Cond.methodLink R_Opd 37 y_Opd_nextWord ∈ WS := WS_at 360 rfl rfl
set_option maxRecDepth 100000 in
theorem q_361 : Cond.instanceMethod y_Opd_nextWord ∈ WS := WS_at 361 rfl rfl
set_option maxRecDepth 100000 in
theorem q_362 : Cond.selects R_Opd y_Opd_nextWord y_Opd_nextWord ∈ WS := WS_at 362 rfl rfl
set_option maxRecDepth 100000 in
theorem q_363 : Cond.code y_Opd_nextWord b_Opd_nextWord 2 (some .int) ∈ WS := WS_at 363 rfl rfl
set_option maxRecDepth 100000 in
theorem q_364 : Cond.methodLink R_Opd 47 y_Opd_inDataBank ∈ WS := WS_at 364 rfl rfl
set_option maxRecDepth 100000 in
theorem q_366 : Cond.instanceMethod y_Opd_inDataBank ∈ WS := WS_at 366 rfl rfl
set_option maxRecDepth 100000 in
theorem q_367 : Cond.code y_Opd_inDataBank b_Opd_inDataBank 3 (some .int) ∈ WS := WS_at 367 rfl rfl
set_option maxRecDepth 100000 in
theorem q_368 : Cond.methodLink R_Opd 56 y_Bus_longPlace ∈ WS := WS_at 368 rfl rfl
set_option maxRecDepth 100000 in
theorem q_369 : Cond.methodLink R_Opd 53 y_Opd_nextLong ∈ WS := WS_at 369 rfl rfl
set_option maxRecDepth 100000 in
theorem q_370 : Cond.instanceMethod y_Opd_nextLong ∈ WS := WS_at 370 rfl rfl
set_option maxRecDepth 100000 in
theorem q_371 : Cond.selects R_Opd y_Opd_nextLong y_Opd_nextLong ∈ WS := WS_at 371 rfl rfl
set_option maxRecDepth 100000 in
theorem q_372 : Cond.code y_Opd_nextLong b_Opd_nextLong 3 (some .int) ∈ WS := WS_at 372 rfl rfl
set_option maxRecDepth 100000 in
theorem q_373 : Cond.methodLink R_Opd 59 y_Bus_readWord ∈ WS := WS_at 373 rfl rfl
set_option maxRecDepth 100000 in
theorem q_374 : Cond.methodLink R_Opd 62 y_Bus_readLong ∈ WS := WS_at 374 rfl rfl
set_option maxRecDepth 100000 in
theorem q_375 : Cond.instanceMethod y_Bus_readLong ∈ WS := WS_at 375 rfl rfl
set_option maxRecDepth 100000 in
theorem q_376 : Cond.selects R_Bus y_Bus_readLong y_Bus_readLong ∈ WS := WS_at 376 rfl rfl
set_option maxRecDepth 100000 in
theorem q_377 : Cond.code y_Bus_readLong b_Bus_readLong 5 (some .int) ∈ WS := WS_at 377 rfl rfl
set_option maxRecDepth 100000 in
theorem q_378 : Cond.methodLink R_Opd 65 y_Opd_onStack ∈ WS := WS_at 378 rfl rfl
set_option maxRecDepth 100000 in
theorem q_380 : Cond.instanceMethod y_Opd_onStack ∈ WS := WS_at 380 rfl rfl
set_option maxRecDepth 100000 in
theorem q_381 : Cond.code y_Opd_onStack b_Opd_onStack 1 (some .int) ∈ WS := WS_at 381 rfl rfl
set_option maxRecDepth 100000 in
theorem q_382 : Cond.methodLink R_Prc 138 y_Bus_writeValue ∈ WS := WS_at 382 rfl rfl
set_option maxRecDepth 100000 in
theorem q_383 : Cond.instanceMethod y_Bus_writeValue ∈ WS := WS_at 383 rfl rfl
set_option maxRecDepth 100000 in
theorem q_384 : Cond.selects R_Bus y_Bus_writeValue y_Bus_writeValue ∈ WS := WS_at 384 rfl rfl
set_option maxRecDepth 100000 in
theorem q_385 : Cond.code y_Bus_writeValue b_Bus_writeValue 4 none ∈ WS := WS_at 385 rfl rfl
set_option maxRecDepth 100000 in
theorem q_386 : Cond.methodLink R_Bus 43 y_Bus_writeByte ∈ WS := WS_at 386 rfl rfl
set_option maxRecDepth 100000 in
theorem q_387 : Cond.methodLink R_Prc 142 y_Opd_nextValue ∈ WS := WS_at 387 rfl rfl
set_option maxRecDepth 100000 in
theorem q_388 : Cond.instanceMethod y_Opd_nextValue ∈ WS := WS_at 388 rfl rfl
set_option maxRecDepth 100000 in
theorem q_389 : Cond.selects R_Opd y_Opd_nextValue y_Opd_nextValue ∈ WS := WS_at 389 rfl rfl
set_option maxRecDepth 100000 in
theorem q_390 : Cond.code y_Opd_nextValue b_Opd_nextValue 2 (some .int) ∈ WS := WS_at 390 rfl rfl
set_option maxRecDepth 100000 in
theorem q_391 : Cond.methodLink R_Prc 146 y_Bus_readValue ∈ WS := WS_at 391 rfl rfl
set_option maxRecDepth 100000 in
theorem q_392 : Cond.instanceMethod y_Bus_readValue ∈ WS := WS_at 392 rfl rfl
set_option maxRecDepth 100000 in
theorem q_393 : Cond.selects R_Bus y_Bus_readValue y_Bus_readValue ∈ WS := WS_at 393 rfl rfl
set_option maxRecDepth 100000 in
theorem q_394 : Cond.code y_Bus_readValue b_Bus_readValue 3 (some .int) ∈ WS := WS_at 394 rfl rfl
set_option maxRecDepth 100000 in
theorem q_395 : Cond.methodLink R_Bus 40 y_Bus_readWord ∈ WS := WS_at 395 rfl rfl
set_option maxRecDepth 100000 in
theorem q_396 : Cond.methodLink R_Prc 150 y_Reg_a ∈ WS := WS_at 396 rfl rfl
set_option maxRecDepth 100000 in
theorem q_397 : Cond.instanceMethod y_Reg_a ∈ WS := WS_at 397 rfl rfl
set_option maxRecDepth 100000 in
theorem q_398 : Cond.selects R_Reg y_Reg_a y_Reg_a ∈ WS := WS_at 398 rfl rfl
set_option maxRecDepth 100000 in
theorem q_399 : Cond.code y_Reg_a b_Reg_a 1 (some .int) ∈ WS := WS_at 399 rfl rfl
set_option maxRecDepth 100000 in
theorem q_400 : Cond.methodLink R_Reg 29 y_Reg_wideA ∈ WS := WS_at 400 rfl rfl
set_option maxRecDepth 100000 in
theorem q_401 : Cond.methodLink R_Prc 153 y_Reg_loadA ∈ WS := WS_at 401 rfl rfl
set_option maxRecDepth 100000 in
theorem q_402 : Cond.instanceMethod y_Reg_loadA ∈ WS := WS_at 402 rfl rfl
set_option maxRecDepth 100000 in
theorem q_403 : Cond.selects R_Reg y_Reg_loadA y_Reg_loadA ∈ WS := WS_at 403 rfl rfl
set_option maxRecDepth 100000 in
theorem q_404 : Cond.code y_Reg_loadA b_Reg_loadA 3 none ∈ WS := WS_at 404 rfl rfl
set_option maxRecDepth 100000 in
theorem q_405 : Cond.methodLink R_Reg 45 y_Reg_showResult ∈ WS := WS_at 405 rfl rfl
set_option maxRecDepth 100000 in
theorem q_406 : Cond.instanceMethod y_Reg_showResult ∈ WS := WS_at 406 rfl rfl
set_option maxRecDepth 100000 in
theorem q_407 : Cond.selects R_Reg y_Reg_showResult y_Reg_showResult ∈ WS := WS_at 407 rfl rfl
set_option maxRecDepth 100000 in
theorem q_408 : Cond.code y_Reg_showResult b_Reg_showResult 5 none ∈ WS := WS_at 408 rfl rfl
set_option maxRecDepth 100000 in
theorem q_409 : Cond.methodLink R_Reg 42 y_Reg_signOf ∈ WS := WS_at 409 rfl rfl
set_option maxRecDepth 100000 in
theorem q_410 : Cond.static y_Reg_signOf ∈ WS := WS_at 410 rfl rfl
set_option maxRecDepth 100000 in
theorem q_411 : Cond.code y_Reg_signOf b_Reg_signOf 1 (some .int) ∈ WS := WS_at 411 rfl rfl
set_option maxRecDepth 100000 in
theorem q_412 : Cond.constant R_Reg 17 32768 ∈ WS := WS_at 412 rfl rfl
set_option maxRecDepth 100000 in
theorem q_413 : Cond.methodLink R_Prc 156 y_Prc_addToA ∈ WS := WS_at 413 rfl rfl
set_option maxRecDepth 100000 in
theorem q_415 : Cond.instanceMethod y_Prc_addToA ∈ WS := WS_at 415 rfl rfl
set_option maxRecDepth 100000 in
theorem q_416 : Cond.code y_Prc_addToA b_Prc_addToA 6 none ∈ WS := WS_at 416 rfl rfl
set_option maxRecDepth 100000 in
theorem q_417 : Cond.methodLink R_Prc 165 y_Reg_signOf ∈ WS := WS_at 417 rfl rfl
set_option maxRecDepth 100000 in
theorem q_418 : Cond.methodLink R_Prc 162 y_Reg_maskOf ∈ WS := WS_at 418 rfl rfl
set_option maxRecDepth 100000 in
theorem q_419 : Cond.methodLink R_Prc 159 y_Prc_compare ∈ WS := WS_at 419 rfl rfl
set_option maxRecDepth 100000 in
theorem q_421 : Cond.instanceMethod y_Prc_compare ∈ WS := WS_at 421 rfl rfl
set_option maxRecDepth 100000 in
theorem q_422 : Cond.code y_Prc_compare b_Prc_compare 4 none ∈ WS := WS_at 422 rfl rfl
set_option maxRecDepth 100000 in
theorem q_423 : Cond.methodLink R_Prc 168 y_Reg_showResult ∈ WS := WS_at 423 rfl rfl
set_option maxRecDepth 100000 in
theorem q_424 : Cond.methodLink R_Prc 61 y_Prc_useIndex ∈ WS := WS_at 424 rfl rfl
set_option maxRecDepth 100000 in
theorem q_426 : Cond.instanceMethod y_Prc_useIndex ∈ WS := WS_at 426 rfl rfl
set_option maxRecDepth 100000 in
theorem q_427 : Cond.code y_Prc_useIndex b_Prc_useIndex 3 (some .boolean) ∈ WS := WS_at 427 rfl rfl
set_option maxRecDepth 100000 in
theorem q_428 : Cond.methodLink R_Prc 171 y_Reg_wideIndex ∈ WS := WS_at 428 rfl rfl
set_option maxRecDepth 100000 in
theorem q_429 : Cond.methodLink R_Prc 174 y_Reg_loadX ∈ WS := WS_at 429 rfl rfl
set_option maxRecDepth 100000 in
theorem q_430 : Cond.instanceMethod y_Reg_loadX ∈ WS := WS_at 430 rfl rfl
set_option maxRecDepth 100000 in
theorem q_431 : Cond.selects R_Reg y_Reg_loadX y_Reg_loadX ∈ WS := WS_at 431 rfl rfl
set_option maxRecDepth 100000 in
theorem q_432 : Cond.code y_Reg_loadX b_Reg_loadX 2 none ∈ WS := WS_at 432 rfl rfl
set_option maxRecDepth 100000 in
theorem q_433 : Cond.methodLink R_Prc 177 y_Reg_loadY ∈ WS := WS_at 433 rfl rfl
set_option maxRecDepth 100000 in
theorem q_434 : Cond.instanceMethod y_Reg_loadY ∈ WS := WS_at 434 rfl rfl
set_option maxRecDepth 100000 in
theorem q_435 : Cond.selects R_Reg y_Reg_loadY y_Reg_loadY ∈ WS := WS_at 435 rfl rfl
set_option maxRecDepth 100000 in
theorem q_436 : Cond.code y_Reg_loadY b_Reg_loadY 2 none ∈ WS := WS_at 436 rfl rfl
set_option maxRecDepth 100000 in
theorem q_437 : Cond.methodLink R_Prc 64 y_Prc_storeZero ∈ WS := WS_at 437 rfl rfl
set_option maxRecDepth 100000 in
theorem q_439 : Cond.instanceMethod y_Prc_storeZero ∈ WS := WS_at 439 rfl rfl
set_option maxRecDepth 100000 in
theorem q_440 : Cond.code y_Prc_storeZero b_Prc_storeZero 2 (some .boolean) ∈ WS := WS_at 440 rfl rfl
set_option maxRecDepth 100000 in
theorem q_441 : Cond.methodLink R_Prc 67 y_Prc_changeMemory ∈ WS := WS_at 441 rfl rfl
set_option maxRecDepth 100000 in
theorem q_443 : Cond.instanceMethod y_Prc_changeMemory ∈ WS := WS_at 443 rfl rfl
set_option maxRecDepth 100000 in
theorem q_444 : Cond.code y_Prc_changeMemory b_Prc_changeMemory 6 (some .boolean) ∈ WS := WS_at 444 rfl rfl
set_option maxRecDepth 100000 in
theorem q_445 : Cond.methodLink R_Prc 186 y_Prc_changed ∈ WS := WS_at 445 rfl rfl
set_option maxRecDepth 100000 in
theorem q_447 : Cond.instanceMethod y_Prc_changed ∈ WS := WS_at 447 rfl rfl
set_option maxRecDepth 100000 in
theorem q_448 : Cond.code y_Prc_changed b_Prc_changed 7 (some .int) ∈ WS := WS_at 448 rfl rfl
set_option maxRecDepth 100000 in
theorem q_449 : Cond.methodLink R_Prc 70 y_Prc_changeRegister ∈ WS := WS_at 449 rfl rfl
set_option maxRecDepth 100000 in
theorem q_451 : Cond.instanceMethod y_Prc_changeRegister ∈ WS := WS_at 451 rfl rfl
set_option maxRecDepth 100000 in
theorem q_452 : Cond.code y_Prc_changeRegister b_Prc_changeRegister 3 (some .boolean) ∈ WS := WS_at 452 rfl rfl
set_option maxRecDepth 100000 in
theorem q_453 : Cond.methodLink R_Prc 73 y_Prc_transfer ∈ WS := WS_at 453 rfl rfl
set_option maxRecDepth 100000 in
theorem q_455 : Cond.instanceMethod y_Prc_transfer ∈ WS := WS_at 455 rfl rfl
set_option maxRecDepth 100000 in
theorem q_456 : Cond.code y_Prc_transfer b_Prc_transfer 2 (some .boolean) ∈ WS := WS_at 456 rfl rfl
set_option maxRecDepth 100000 in
theorem q_457 : Cond.methodLink R_Prc 193 y_Reg_loadD ∈ WS := WS_at 457 rfl rfl
set_option maxRecDepth 100000 in
theorem q_458 : Cond.instanceMethod y_Reg_loadD ∈ WS := WS_at 458 rfl rfl
set_option maxRecDepth 100000 in
theorem q_459 : Cond.selects R_Reg y_Reg_loadD y_Reg_loadD ∈ WS := WS_at 459 rfl rfl
set_option maxRecDepth 100000 in
theorem q_460 : Cond.code y_Reg_loadD b_Reg_loadD 2 none ∈ WS := WS_at 460 rfl rfl
set_option maxRecDepth 100000 in
theorem q_461 : Cond.methodLink R_Prc 199 y_Reg_loadC ∈ WS := WS_at 461 rfl rfl
set_option maxRecDepth 100000 in
theorem q_462 : Cond.instanceMethod y_Reg_loadC ∈ WS := WS_at 462 rfl rfl
set_option maxRecDepth 100000 in
theorem q_463 : Cond.selects R_Reg y_Reg_loadC y_Reg_loadC ∈ WS := WS_at 463 rfl rfl
set_option maxRecDepth 100000 in
theorem q_464 : Cond.code y_Reg_loadC b_Reg_loadC 2 none ∈ WS := WS_at 464 rfl rfl
set_option maxRecDepth 100000 in
theorem q_465 : Cond.methodLink R_Prc 76 y_Prc_push ∈ WS := WS_at 465 rfl rfl
set_option maxRecDepth 100000 in
theorem q_467 : Cond.instanceMethod y_Prc_push ∈ WS := WS_at 467 rfl rfl
set_option maxRecDepth 100000 in
theorem q_468 : Cond.code y_Prc_push b_Prc_push 2 (some .boolean) ∈ WS := WS_at 468 rfl rfl
set_option maxRecDepth 100000 in
theorem q_469 : Cond.methodLink R_Prc 202 y_Stk_pushValue ∈ WS := WS_at 469 rfl rfl
set_option maxRecDepth 100000 in
theorem q_470 : Cond.instanceMethod y_Stk_pushValue ∈ WS := WS_at 470 rfl rfl
set_option maxRecDepth 100000 in
theorem q_471 : Cond.selects R_Stk y_Stk_pushValue y_Stk_pushValue ∈ WS := WS_at 471 rfl rfl
set_option maxRecDepth 100000 in
theorem q_472 : Cond.code y_Stk_pushValue b_Stk_pushValue 3 none ∈ WS := WS_at 472 rfl rfl
set_option maxRecDepth 100000 in
theorem q_473 : Cond.methodLink R_Prc 208 y_Opd_nextWord ∈ WS := WS_at 473 rfl rfl
set_option maxRecDepth 100000 in
theorem q_474 : Cond.methodLink R_Prc 79 y_Prc_pull ∈ WS := WS_at 474 rfl rfl
set_option maxRecDepth 100000 in
theorem q_476 : Cond.instanceMethod y_Prc_pull ∈ WS := WS_at 476 rfl rfl
set_option maxRecDepth 100000 in
theorem q_477 : Cond.code y_Prc_pull b_Prc_pull 2 (some .boolean) ∈ WS := WS_at 477 rfl rfl
set_option maxRecDepth 100000 in
theorem q_478 : Cond.methodLink R_Prc 211 y_Stk_pullValue ∈ WS := WS_at 478 rfl rfl
set_option maxRecDepth 100000 in
theorem q_479 : Cond.instanceMethod y_Stk_pullValue ∈ WS := WS_at 479 rfl rfl
set_option maxRecDepth 100000 in
theorem q_480 : Cond.selects R_Stk y_Stk_pullValue y_Stk_pullValue ∈ WS := WS_at 480 rfl rfl
set_option maxRecDepth 100000 in
theorem q_481 : Cond.code y_Stk_pullValue b_Stk_pullValue 2 (some .int) ∈ WS := WS_at 481 rfl rfl
set_option maxRecDepth 100000 in
theorem q_482 : Cond.methodLink R_Stk 45 y_Stk_pullWord ∈ WS := WS_at 482 rfl rfl
set_option maxRecDepth 100000 in
theorem q_483 : Cond.instanceMethod y_Stk_pullWord ∈ WS := WS_at 483 rfl rfl
set_option maxRecDepth 100000 in
theorem q_484 : Cond.selects R_Stk y_Stk_pullWord y_Stk_pullWord ∈ WS := WS_at 484 rfl rfl
set_option maxRecDepth 100000 in
theorem q_485 : Cond.code y_Stk_pullWord b_Stk_pullWord 2 (some .int) ∈ WS := WS_at 485 rfl rfl
set_option maxRecDepth 100000 in
theorem q_486 : Cond.methodLink R_Stk 41 y_Stk_pullByte ∈ WS := WS_at 486 rfl rfl
set_option maxRecDepth 100000 in
theorem q_487 : Cond.instanceMethod y_Stk_pullByte ∈ WS := WS_at 487 rfl rfl
set_option maxRecDepth 100000 in
theorem q_488 : Cond.selects R_Stk y_Stk_pullByte y_Stk_pullByte ∈ WS := WS_at 488 rfl rfl
set_option maxRecDepth 100000 in
theorem q_489 : Cond.code y_Stk_pullByte b_Stk_pullByte 1 (some .int) ∈ WS := WS_at 489 rfl rfl
set_option maxRecDepth 100000 in
theorem q_490 : Cond.methodLink R_Stk 38 y_Bus_readByte ∈ WS := WS_at 490 rfl rfl
set_option maxRecDepth 100000 in
theorem q_491 : Cond.methodLink R_Prc 214 y_Stk_pullWord ∈ WS := WS_at 491 rfl rfl
set_option maxRecDepth 100000 in
theorem q_492 : Cond.methodLink R_Prc 217 y_Stk_pullByte ∈ WS := WS_at 492 rfl rfl
set_option maxRecDepth 100000 in
theorem q_493 : Cond.methodLink R_Prc 220 y_Reg_loadDataBank ∈ WS := WS_at 493 rfl rfl
set_option maxRecDepth 100000 in
theorem q_494 : Cond.instanceMethod y_Reg_loadDataBank ∈ WS := WS_at 494 rfl rfl
set_option maxRecDepth 100000 in
theorem q_495 : Cond.selects R_Reg y_Reg_loadDataBank y_Reg_loadDataBank ∈ WS := WS_at 495 rfl rfl
set_option maxRecDepth 100000 in
theorem q_496 : Cond.code y_Reg_loadDataBank b_Reg_loadDataBank 2 none ∈ WS := WS_at 496 rfl rfl
set_option maxRecDepth 100000 in
theorem q_497 : Cond.methodLink R_Prc 223 y_Reg_replaceP ∈ WS := WS_at 497 rfl rfl
set_option maxRecDepth 100000 in
theorem q_498 : Cond.methodLink R_Prc 82 y_Prc_branch ∈ WS := WS_at 498 rfl rfl
set_option maxRecDepth 100000 in
theorem q_500 : Cond.instanceMethod y_Prc_branch ∈ WS := WS_at 500 rfl rfl
set_option maxRecDepth 100000 in
theorem q_501 : Cond.code y_Prc_branch b_Prc_branch 4 (some .boolean) ∈ WS := WS_at 501 rfl rfl
set_option maxRecDepth 100000 in
theorem q_502 : Cond.methodLink R_Prc 226 y_Reg_jumpTo ∈ WS := WS_at 502 rfl rfl
set_option maxRecDepth 100000 in
theorem q_503 : Cond.instanceMethod y_Reg_jumpTo ∈ WS := WS_at 503 rfl rfl
set_option maxRecDepth 100000 in
theorem q_504 : Cond.selects R_Reg y_Reg_jumpTo y_Reg_jumpTo ∈ WS := WS_at 504 rfl rfl
set_option maxRecDepth 100000 in
theorem q_505 : Cond.code y_Reg_jumpTo b_Reg_jumpTo 2 none ∈ WS := WS_at 505 rfl rfl
set_option maxRecDepth 100000 in
theorem q_506 : Cond.fieldLink R_Prc 229 "WideCore$Processor" "BRANCH_FLAGS" "[I" ∈ WS := WS_at 506 rfl rfl
set_option maxRecDepth 100000 in
theorem q_508 : Cond.methodLink R_Prc 85 y_Prc_jump ∈ WS := WS_at 508 rfl rfl
set_option maxRecDepth 100000 in
theorem q_510 : Cond.instanceMethod y_Prc_jump ∈ WS := WS_at 510 rfl rfl
set_option maxRecDepth 100000 in
theorem q_511 : Cond.code y_Prc_jump b_Prc_jump 3 (some .boolean) ∈ WS := WS_at 511 rfl rfl
set_option maxRecDepth 100000 in
theorem q_512 : Cond.methodLink R_Prc 233 y_Opd_nextLong ∈ WS := WS_at 512 rfl rfl
set_option maxRecDepth 100000 in
theorem q_513 : Cond.methodLink R_Prc 236 y_Reg_jumpLong ∈ WS := WS_at 513 rfl rfl
set_option maxRecDepth 100000 in
theorem q_514 : Cond.instanceMethod y_Reg_jumpLong ∈ WS := WS_at 514 rfl rfl
set_option maxRecDepth 100000 in
theorem q_515 : Cond.selects R_Reg y_Reg_jumpLong y_Reg_jumpLong ∈ WS := WS_at 515 rfl rfl
set_option maxRecDepth 100000 in
theorem q_516 : Cond.code y_Reg_jumpLong b_Reg_jumpLong 2 none ∈ WS := WS_at 516 rfl rfl
set_option maxRecDepth 100000 in
theorem q_517 : Cond.constant R_Prc 239 65535 ∈ WS := WS_at 517 rfl rfl
set_option maxRecDepth 100000 in
theorem q_518 : Cond.methodLink R_Prc 88 y_Prc_changeFlags ∈ WS := WS_at 518 rfl rfl
set_option maxRecDepth 100000 in
theorem q_520 : Cond.instanceMethod y_Prc_changeFlags ∈ WS := WS_at 520 rfl rfl
set_option maxRecDepth 100000 in
theorem q_521 : Cond.code y_Prc_changeFlags b_Prc_changeFlags 2 (some .boolean) ∈ WS := WS_at 521 rfl rfl
set_option maxRecDepth 100000 in
theorem q_522 : Cond.methodLink R_Prc 91 y_Prc_moveBlock ∈ WS := WS_at 522 rfl rfl
set_option maxRecDepth 100000 in
theorem q_524 : Cond.instanceMethod y_Prc_moveBlock ∈ WS := WS_at 524 rfl rfl
set_option maxRecDepth 100000 in
theorem q_525 : Cond.code y_Prc_moveBlock b_Prc_moveBlock 6 (some .boolean) ∈ WS := WS_at 525 rfl rfl
set_option maxRecDepth 100000 in
theorem q_526 : Cond.methodLink R_Prc 240 y_Bus_readByte ∈ WS := WS_at 526 rfl rfl
set_option maxRecDepth 100000 in
theorem q_527 : Cond.methodLink R_Prc 243 y_Bus_writeByte ∈ WS := WS_at 527 rfl rfl
set_option maxRecDepth 100000 in
theorem q_528 : Cond.methodLink R_Prc 247 y_Reg_indexMask ∈ WS := WS_at 528 rfl rfl
set_option maxRecDepth 100000 in
theorem q_530 : Cond.instanceMethod y_Wc_stopped ∈ WS := WS_at 530 rfl rfl
set_option maxRecDepth 100000 in
theorem q_531 : Cond.selects R_Wc y_Wc_stopped y_Wc_stopped ∈ WS := WS_at 531 rfl rfl
set_option maxRecDepth 100000 in
theorem q_532 : Cond.code y_Wc_stopped b_Wc_stopped 1 (some .boolean) ∈ WS := WS_at 532 rfl rfl
set_option maxRecDepth 100000 in
theorem q_534 : Cond.instanceMethod y_Wc_interrupt ∈ WS := WS_at 534 rfl rfl
set_option maxRecDepth 100000 in
theorem q_535 : Cond.selects R_Wc y_Wc_interrupt y_Wc_interrupt ∈ WS := WS_at 535 rfl rfl
set_option maxRecDepth 100000 in
theorem q_536 : Cond.code y_Wc_interrupt b_Wc_interrupt 1 (some .boolean) ∈ WS := WS_at 536 rfl rfl
set_option maxRecDepth 100000 in
theorem q_538 : Cond.instanceMethod y_Wc_line ∈ WS := WS_at 538 rfl rfl
set_option maxRecDepth 100000 in
theorem q_539 : Cond.selects R_Wc y_Wc_line y_Wc_line ∈ WS := WS_at 539 rfl rfl
set_option maxRecDepth 100000 in
theorem q_540 : Cond.code y_Wc_line b_Wc_line 2 none ∈ WS := WS_at 540 rfl rfl
set_option maxRecDepth 100000 in
theorem q_542 : Cond.instanceMethod y_Wc_touches ∈ WS := WS_at 542 rfl rfl
set_option maxRecDepth 100000 in
theorem q_543 : Cond.selects R_Wc y_Wc_touches y_Wc_touches ∈ WS := WS_at 543 rfl rfl
set_option maxRecDepth 100000 in
theorem q_544 : Cond.code y_Wc_touches b_Wc_touches 1 (some .int) ∈ WS := WS_at 544 rfl rfl
set_option maxRecDepth 100000 in
theorem q_546 : Cond.instanceMethod y_Wc_touched ∈ WS := WS_at 546 rfl rfl
set_option maxRecDepth 100000 in
theorem q_547 : Cond.selects R_Wc y_Wc_touched y_Wc_touched ∈ WS := WS_at 547 rfl rfl
set_option maxRecDepth 100000 in
theorem q_548 : Cond.code y_Wc_touched b_Wc_touched 2 (some .int) ∈ WS := WS_at 548 rfl rfl
set_option maxRecDepth 100000 in
theorem q_549 : Cond.methodLink R_Wc 89 y_Bus_latestTouch ∈ WS := WS_at 549 rfl rfl
set_option maxRecDepth 100000 in
theorem q_550 : Cond.instanceMethod y_Bus_latestTouch ∈ WS := WS_at 550 rfl rfl
set_option maxRecDepth 100000 in
theorem q_551 : Cond.selects R_Bus y_Bus_latestTouch y_Bus_latestTouch ∈ WS := WS_at 551 rfl rfl
set_option maxRecDepth 100000 in
theorem q_552 : Cond.code y_Bus_latestTouch b_Bus_latestTouch 2 (some .int) ∈ WS := WS_at 552 rfl rfl
set_option maxRecDepth 100000 in
theorem q_554 : Cond.instanceMethod y_Wc_steps ∈ WS := WS_at 554 rfl rfl
set_option maxRecDepth 100000 in
theorem q_555 : Cond.selects R_Wc y_Wc_steps y_Wc_steps ∈ WS := WS_at 555 rfl rfl
set_option maxRecDepth 100000 in
theorem q_556 : Cond.code y_Wc_steps b_Wc_steps 1 (some .int) ∈ WS := WS_at 556 rfl rfl
set_option maxRecDepth 100000 in
theorem q_562 : Cond.methodLink R_Mdl 1 objectInit ∈ WS := WS_at 562 rfl rfl
set_option maxRecDepth 100000 in
theorem q_563 : Cond.fieldLink R_Mdl 7 "WideCoreModel" "memory" "[I" ∈ WS := WS_at 563 rfl rfl
set_option maxRecDepth 100000 in
theorem q_564 : Cond.fieldLink R_Mdl 71 "WideCoreModel" "c" "I" ∈ WS := WS_at 564 rfl rfl
set_option maxRecDepth 100000 in
theorem q_565 : Cond.fieldLink R_Mdl 83 "WideCoreModel" "x" "I" ∈ WS := WS_at 565 rfl rfl
set_option maxRecDepth 100000 in
theorem q_566 : Cond.fieldLink R_Mdl 86 "WideCoreModel" "y" "I" ∈ WS := WS_at 566 rfl rfl
set_option maxRecDepth 100000 in
theorem q_567 : Cond.fieldLink R_Mdl 13 "WideCoreModel" "s" "I" ∈ WS := WS_at 567 rfl rfl
set_option maxRecDepth 100000 in
theorem q_568 : Cond.fieldLink R_Mdl 89 "WideCoreModel" "d" "I" ∈ WS := WS_at 568 rfl rfl
set_option maxRecDepth 100000 in
theorem q_569 : Cond.fieldLink R_Mdl 102 "WideCoreModel" "db" "I" ∈ WS := WS_at 569 rfl rfl
set_option maxRecDepth 100000 in
theorem q_570 : Cond.fieldLink R_Mdl 17 "WideCoreModel" "p" "I" ∈ WS := WS_at 570 rfl rfl
set_option maxRecDepth 100000 in
theorem q_571 : Cond.fieldLink R_Mdl 55 "WideCoreModel" "pb" "I" ∈ WS := WS_at 571 rfl rfl
set_option maxRecDepth 100000 in
theorem q_572 : Cond.fieldLink R_Mdl 58 "WideCoreModel" "pc" "I" ∈ WS := WS_at 572 rfl rfl
set_option maxRecDepth 100000 in
theorem q_573 : Cond.fieldLink R_Mdl 221 "WideCoreModel" "stopped" "Z" ∈ WS := WS_at 573 rfl rfl
set_option maxRecDepth 100000 in
theorem q_574 : Cond.fieldLink R_Mdl 194 "WideCoreModel" "nmi" "Z" ∈ WS := WS_at 574 rfl rfl
set_option maxRecDepth 100000 in
theorem q_575 : Cond.fieldLink R_Mdl 197 "WideCoreModel" "irq" "Z" ∈ WS := WS_at 575 rfl rfl
set_option maxRecDepth 100000 in
theorem q_576 : Cond.fieldLink R_Mdl 191 "WideCoreModel" "steps" "I" ∈ WS := WS_at 576 rfl rfl
set_option maxRecDepth 100000 in
theorem q_577 : Cond.fieldLink R_Mdl 23 "WideCoreModel" "touches" "I" ∈ WS := WS_at 577 rfl rfl
set_option maxRecDepth 100000 in
theorem q_578 : Cond.fieldLink R_Mdl 20 "WideCoreModel" "latest" "[I" ∈ WS := WS_at 578 rfl rfl
set_option maxRecDepth 100000 in
theorem q_579 : Cond.fieldLink R_Mdl 92 "WideCoreModel" "place" "I" ∈ WS := WS_at 579 rfl rfl
set_option maxRecDepth 100000 in
theorem q_580 : Cond.fieldLink R_Mdl 95 "WideCoreModel" "near" "Z" ∈ WS := WS_at 580 rfl rfl
set_option maxRecDepth 100000 in
theorem q_581 : Cond.laysFinal R_Mdl R_Mdl "memory" "[I" ∈ WS := WS_at 581 rfl rfl
set_option maxRecDepth 100000 in
theorem q_583 : Cond.lays R_Mdl R_Mdl "c" "I" ∈ WS := WS_at 583 rfl rfl
set_option maxRecDepth 100000 in
theorem q_585 : Cond.lays R_Mdl R_Mdl "x" "I" ∈ WS := WS_at 585 rfl rfl
set_option maxRecDepth 100000 in
theorem q_587 : Cond.lays R_Mdl R_Mdl "y" "I" ∈ WS := WS_at 587 rfl rfl
set_option maxRecDepth 100000 in
theorem q_589 : Cond.lays R_Mdl R_Mdl "s" "I" ∈ WS := WS_at 589 rfl rfl
set_option maxRecDepth 100000 in
theorem q_591 : Cond.lays R_Mdl R_Mdl "d" "I" ∈ WS := WS_at 591 rfl rfl
set_option maxRecDepth 100000 in
theorem q_593 : Cond.lays R_Mdl R_Mdl "db" "I" ∈ WS := WS_at 593 rfl rfl
set_option maxRecDepth 100000 in
theorem q_595 : Cond.lays R_Mdl R_Mdl "p" "I" ∈ WS := WS_at 595 rfl rfl
set_option maxRecDepth 100000 in
theorem q_597 : Cond.lays R_Mdl R_Mdl "pb" "I" ∈ WS := WS_at 597 rfl rfl
set_option maxRecDepth 100000 in
theorem q_599 : Cond.lays R_Mdl R_Mdl "pc" "I" ∈ WS := WS_at 599 rfl rfl
set_option maxRecDepth 100000 in
theorem q_601 : Cond.lays R_Mdl R_Mdl "stopped" "Z" ∈ WS := WS_at 601 rfl rfl
set_option maxRecDepth 100000 in
theorem q_603 : Cond.lays R_Mdl R_Mdl "nmi" "Z" ∈ WS := WS_at 603 rfl rfl
set_option maxRecDepth 100000 in
theorem q_605 : Cond.lays R_Mdl R_Mdl "irq" "Z" ∈ WS := WS_at 605 rfl rfl
set_option maxRecDepth 100000 in
theorem q_607 : Cond.lays R_Mdl R_Mdl "steps" "I" ∈ WS := WS_at 607 rfl rfl
set_option maxRecDepth 100000 in
theorem q_609 : Cond.lays R_Mdl R_Mdl "touches" "I" ∈ WS := WS_at 609 rfl rfl
set_option maxRecDepth 100000 in
theorem q_611 : Cond.laysFinal R_Mdl R_Mdl "latest" "[I" ∈ WS := WS_at 611 rfl rfl
set_option maxRecDepth 100000 in
theorem q_613 : Cond.lays R_Mdl R_Mdl "place" "I" ∈ WS := WS_at 613 rfl rfl
set_option maxRecDepth 100000 in
theorem q_615 : Cond.lays R_Mdl R_Mdl "near" "Z" ∈ WS := WS_at 615 rfl rfl
set_option maxRecDepth 100000 in
theorem q_619 : Cond.instanceMethod y_Mdl_poke ∈ WS := WS_at 619 rfl rfl
set_option maxRecDepth 100000 in
theorem q_620 : Cond.selects R_Mdl y_Mdl_poke y_Mdl_poke ∈ WS := WS_at 620 rfl rfl
set_option maxRecDepth 100000 in
theorem q_621 : Cond.code y_Mdl_poke b_Mdl_poke 5 (some .boolean) ∈ WS := WS_at 621 rfl rfl
set_option maxRecDepth 100000 in
theorem q_623 : Cond.instanceMethod y_Mdl_peek ∈ WS := WS_at 623 rfl rfl
set_option maxRecDepth 100000 in
theorem q_624 : Cond.selects R_Mdl y_Mdl_peek y_Mdl_peek ∈ WS := WS_at 624 rfl rfl
set_option maxRecDepth 100000 in
theorem q_625 : Cond.code y_Mdl_peek b_Mdl_peek 2 (some .int) ∈ WS := WS_at 625 rfl rfl
set_option maxRecDepth 100000 in
theorem q_627 : Cond.instanceMethod y_Mdl_start ∈ WS := WS_at 627 rfl rfl
set_option maxRecDepth 100000 in
theorem q_628 : Cond.selects R_Mdl y_Mdl_start y_Mdl_start ∈ WS := WS_at 628 rfl rfl
set_option maxRecDepth 100000 in
theorem q_629 : Cond.code y_Mdl_start b_Mdl_start 3 (some .boolean) ∈ WS := WS_at 629 rfl rfl
set_option maxRecDepth 100000 in
theorem q_630 : Cond.constant R_Mdl 35 65535 ∈ WS := WS_at 630 rfl rfl
set_option maxRecDepth 100000 in
theorem q_632 : Cond.instanceMethod y_Mdl_set ∈ WS := WS_at 632 rfl rfl
set_option maxRecDepth 100000 in
theorem q_633 : Cond.selects R_Mdl y_Mdl_set y_Mdl_set ∈ WS := WS_at 633 rfl rfl
set_option maxRecDepth 100000 in
theorem q_634 : Cond.code y_Mdl_set b_Mdl_set 3 (some .boolean) ∈ WS := WS_at 634 rfl rfl
set_option maxRecDepth 100000 in
theorem q_635 : Cond.methodLink R_Mdl 67 y_Mdl_is ∈ WS := WS_at 635 rfl rfl
set_option maxRecDepth 100000 in
theorem q_637 : Cond.instanceMethod y_Mdl_is ∈ WS := WS_at 637 rfl rfl
set_option maxRecDepth 100000 in
theorem q_638 : Cond.code y_Mdl_is b_Mdl_is 2 (some .boolean) ∈ WS := WS_at 638 rfl rfl
set_option maxRecDepth 100000 in
theorem q_639 : Cond.methodLink R_Mdl 75 y_Mdl_cut ∈ WS := WS_at 639 rfl rfl
set_option maxRecDepth 100000 in
theorem q_641 : Cond.instanceMethod y_Mdl_cut ∈ WS := WS_at 641 rfl rfl
set_option maxRecDepth 100000 in
theorem q_642 : Cond.code y_Mdl_cut b_Mdl_cut 3 (some .int) ∈ WS := WS_at 642 rfl rfl
set_option maxRecDepth 100000 in
theorem q_643 : Cond.methodLink R_Mdl 173 y_Mdl_setFlags ∈ WS := WS_at 643 rfl rfl
set_option maxRecDepth 100000 in
theorem q_645 : Cond.instanceMethod y_Mdl_setFlags ∈ WS := WS_at 645 rfl rfl
set_option maxRecDepth 100000 in
theorem q_646 : Cond.code y_Mdl_setFlags b_Mdl_setFlags 2 none ∈ WS := WS_at 646 rfl rfl
set_option maxRecDepth 100000 in
theorem q_648 : Cond.instanceMethod y_Mdl_register ∈ WS := WS_at 648 rfl rfl
set_option maxRecDepth 100000 in
theorem q_649 : Cond.selects R_Mdl y_Mdl_register y_Mdl_register ∈ WS := WS_at 649 rfl rfl
set_option maxRecDepth 100000 in
theorem q_650 : Cond.code y_Mdl_register b_Mdl_register 2 (some .int) ∈ WS := WS_at 650 rfl rfl
set_option maxRecDepth 100000 in
theorem q_657 : Cond.instanceMethod y_Mdl_step ∈ WS := WS_at 657 rfl rfl
set_option maxRecDepth 100000 in
theorem q_658 : Cond.code y_Mdl_step b_Mdl_step 5 none ∈ WS := WS_at 658 rfl rfl
set_option maxRecDepth 100000 in
theorem q_659 : Cond.methodLink R_Mdl 185 y_Mdl_interruptFrom ∈ WS := WS_at 659 rfl rfl
set_option maxRecDepth 100000 in
theorem q_661 : Cond.instanceMethod y_Mdl_interruptFrom ∈ WS := WS_at 661 rfl rfl
set_option maxRecDepth 100000 in
theorem q_662 : Cond.code y_Mdl_interruptFrom b_Mdl_interruptFrom 2 none ∈ WS := WS_at 662 rfl rfl
set_option maxRecDepth 100000 in
theorem q_663 : Cond.methodLink R_Mdl 48 y_Mdl_push ∈ WS := WS_at 663 rfl rfl
set_option maxRecDepth 100000 in
theorem q_665 : Cond.instanceMethod y_Mdl_push ∈ WS := WS_at 665 rfl rfl
set_option maxRecDepth 100000 in
theorem q_666 : Cond.code y_Mdl_push b_Mdl_push 2 none ∈ WS := WS_at 666 rfl rfl
set_option maxRecDepth 100000 in
theorem q_667 : Cond.methodLink R_Mdl 44 y_Mdl_write ∈ WS := WS_at 667 rfl rfl
set_option maxRecDepth 100000 in
theorem q_669 : Cond.instanceMethod y_Mdl_write ∈ WS := WS_at 669 rfl rfl
set_option maxRecDepth 100000 in
theorem q_670 : Cond.code y_Mdl_write b_Mdl_write 3 none ∈ WS := WS_at 670 rfl rfl
set_option maxRecDepth 100000 in
theorem q_671 : Cond.methodLink R_Mdl 26 y_Mdl_cell ∈ WS := WS_at 671 rfl rfl
set_option maxRecDepth 100000 in
theorem q_672 : Cond.static y_Mdl_cell ∈ WS := WS_at 672 rfl rfl
set_option maxRecDepth 100000 in
theorem q_673 : Cond.code y_Mdl_cell b_Mdl_cell 1 (some .int) ∈ WS := WS_at 673 rfl rfl
set_option maxRecDepth 100000 in
theorem q_674 : Cond.methodLink R_Mdl 30 y_Mdl_touch ∈ WS := WS_at 674 rfl rfl
set_option maxRecDepth 100000 in
theorem q_676 : Cond.instanceMethod y_Mdl_touch ∈ WS := WS_at 676 rfl rfl
set_option maxRecDepth 100000 in
theorem q_677 : Cond.code y_Mdl_touch b_Mdl_touch 3 none ∈ WS := WS_at 677 rfl rfl
set_option maxRecDepth 100000 in
theorem q_678 : Cond.methodLink R_Mdl 161 y_Mdl_pushWord ∈ WS := WS_at 678 rfl rfl
set_option maxRecDepth 100000 in
theorem q_680 : Cond.instanceMethod y_Mdl_pushWord ∈ WS := WS_at 680 rfl rfl
set_option maxRecDepth 100000 in
theorem q_681 : Cond.code y_Mdl_pushWord b_Mdl_pushWord 2 none ∈ WS := WS_at 681 rfl rfl
set_option maxRecDepth 100000 in
theorem q_682 : Cond.methodLink R_Mdl 79 y_Mdl_flag ∈ WS := WS_at 682 rfl rfl
set_option maxRecDepth 100000 in
theorem q_684 : Cond.instanceMethod y_Mdl_flag ∈ WS := WS_at 684 rfl rfl
set_option maxRecDepth 100000 in
theorem q_685 : Cond.code y_Mdl_flag b_Mdl_flag 3 none ∈ WS := WS_at 685 rfl rfl
set_option maxRecDepth 100000 in
theorem q_686 : Cond.methodLink R_Mdl 111 y_Mdl_readWord ∈ WS := WS_at 686 rfl rfl
set_option maxRecDepth 100000 in
theorem q_688 : Cond.instanceMethod y_Mdl_readWord ∈ WS := WS_at 688 rfl rfl
set_option maxRecDepth 100000 in
theorem q_689 : Cond.code y_Mdl_readWord b_Mdl_readWord 4 (some .int) ∈ WS := WS_at 689 rfl rfl
set_option maxRecDepth 100000 in
theorem q_690 : Cond.methodLink R_Mdl 37 y_Mdl_read ∈ WS := WS_at 690 rfl rfl
set_option maxRecDepth 100000 in
theorem q_692 : Cond.instanceMethod y_Mdl_read ∈ WS := WS_at 692 rfl rfl
set_option maxRecDepth 100000 in
theorem q_693 : Cond.code y_Mdl_read b_Mdl_read 2 (some .int) ∈ WS := WS_at 693 rfl rfl
set_option maxRecDepth 100000 in
theorem q_694 : Cond.methodLink R_Mdl 40 y_Mdl_after ∈ WS := WS_at 694 rfl rfl
set_option maxRecDepth 100000 in
theorem q_696 : Cond.instanceMethod y_Mdl_after ∈ WS := WS_at 696 rfl rfl
set_option maxRecDepth 100000 in
theorem q_697 : Cond.code y_Mdl_after b_Mdl_after 3 (some .int) ∈ WS := WS_at 697 rfl rfl
set_option maxRecDepth 100000 in
theorem q_698 : Cond.constant R_Mdl 34 16711680 ∈ WS := WS_at 698 rfl rfl
set_option maxRecDepth 100000 in
theorem q_699 : Cond.constant R_Mdl 36 16777215 ∈ WS := WS_at 699 rfl rfl
set_option maxRecDepth 100000 in
theorem q_700 : Cond.methodLink R_Mdl 61 y_Mdl_next ∈ WS := WS_at 700 rfl rfl
set_option maxRecDepth 100000 in
theorem q_702 : Cond.instanceMethod y_Mdl_next ∈ WS := WS_at 702 rfl rfl
set_option maxRecDepth 100000 in
theorem q_703 : Cond.code y_Mdl_next b_Mdl_next 2 (some .int) ∈ WS := WS_at 703 rfl rfl
set_option maxRecDepth 100000 in
theorem q_704 : Cond.methodLink R_Mdl 200 y_Mdl_arithmetic ∈ WS := WS_at 704 rfl rfl
set_option maxRecDepth 100000 in
theorem q_706 : Cond.instanceMethod y_Mdl_arithmetic ∈ WS := WS_at 706 rfl rfl
set_option maxRecDepth 100000 in
theorem q_707 : Cond.code y_Mdl_arithmetic b_Mdl_arithmetic 8 (some .boolean) ∈ WS := WS_at 707 rfl rfl
set_option maxRecDepth 100000 in
theorem q_708 : Cond.methodLink R_Mdl 123 y_Mdl_find ∈ WS := WS_at 708 rfl rfl
set_option maxRecDepth 100000 in
theorem q_710 : Cond.instanceMethod y_Mdl_find ∈ WS := WS_at 710 rfl rfl
set_option maxRecDepth 100000 in
theorem q_711 : Cond.code y_Mdl_find b_Mdl_find 4 (some .boolean) ∈ WS := WS_at 711 rfl rfl
set_option maxRecDepth 100000 in
theorem q_712 : Cond.methodLink R_Mdl 99 y_Mdl_direct ∈ WS := WS_at 712 rfl rfl
set_option maxRecDepth 100000 in
theorem q_714 : Cond.instanceMethod y_Mdl_direct ∈ WS := WS_at 714 rfl rfl
set_option maxRecDepth 100000 in
theorem q_715 : Cond.code y_Mdl_direct b_Mdl_direct 2 none ∈ WS := WS_at 715 rfl rfl
set_option maxRecDepth 100000 in
theorem q_716 : Cond.methodLink R_Mdl 64 y_Mdl_nextWord ∈ WS := WS_at 716 rfl rfl
set_option maxRecDepth 100000 in
theorem q_718 : Cond.instanceMethod y_Mdl_nextWord ∈ WS := WS_at 718 rfl rfl
set_option maxRecDepth 100000 in
theorem q_719 : Cond.code y_Mdl_nextWord b_Mdl_nextWord 2 (some .int) ∈ WS := WS_at 719 rfl rfl
set_option maxRecDepth 100000 in
theorem q_720 : Cond.methodLink R_Mdl 105 y_Mdl_far ∈ WS := WS_at 720 rfl rfl
set_option maxRecDepth 100000 in
theorem q_722 : Cond.instanceMethod y_Mdl_far ∈ WS := WS_at 722 rfl rfl
set_option maxRecDepth 100000 in
theorem q_723 : Cond.code y_Mdl_far b_Mdl_far 2 none ∈ WS := WS_at 723 rfl rfl
set_option maxRecDepth 100000 in
theorem q_724 : Cond.methodLink R_Mdl 108 y_Mdl_nextLong ∈ WS := WS_at 724 rfl rfl
set_option maxRecDepth 100000 in
theorem q_726 : Cond.instanceMethod y_Mdl_nextLong ∈ WS := WS_at 726 rfl rfl
set_option maxRecDepth 100000 in
theorem q_727 : Cond.code y_Mdl_nextLong b_Mdl_nextLong 2 (some .int) ∈ WS := WS_at 727 rfl rfl
set_option maxRecDepth 100000 in
theorem q_728 : Cond.methodLink R_Mdl 114 y_Mdl_accumulator ∈ WS := WS_at 728 rfl rfl
set_option maxRecDepth 100000 in
theorem q_730 : Cond.instanceMethod y_Mdl_accumulator ∈ WS := WS_at 730 rfl rfl
set_option maxRecDepth 100000 in
theorem q_731 : Cond.code y_Mdl_accumulator b_Mdl_accumulator 1 (some .int) ∈ WS := WS_at 731 rfl rfl
set_option maxRecDepth 100000 in
theorem q_732 : Cond.methodLink R_Mdl 126 y_Mdl_store ∈ WS := WS_at 732 rfl rfl
set_option maxRecDepth 100000 in
theorem q_734 : Cond.instanceMethod y_Mdl_store ∈ WS := WS_at 734 rfl rfl
set_option maxRecDepth 100000 in
theorem q_735 : Cond.code y_Mdl_store b_Mdl_store 3 none ∈ WS := WS_at 735 rfl rfl
set_option maxRecDepth 100000 in
theorem q_736 : Cond.methodLink R_Mdl 129 y_Mdl_immediate ∈ WS := WS_at 736 rfl rfl
set_option maxRecDepth 100000 in
theorem q_738 : Cond.instanceMethod y_Mdl_immediate ∈ WS := WS_at 738 rfl rfl
set_option maxRecDepth 100000 in
theorem q_739 : Cond.code y_Mdl_immediate b_Mdl_immediate 2 (some .int) ∈ WS := WS_at 739 rfl rfl
set_option maxRecDepth 100000 in
theorem q_740 : Cond.methodLink R_Mdl 133 y_Mdl_load ∈ WS := WS_at 740 rfl rfl
set_option maxRecDepth 100000 in
theorem q_742 : Cond.instanceMethod y_Mdl_load ∈ WS := WS_at 742 rfl rfl
set_option maxRecDepth 100000 in
theorem q_743 : Cond.code y_Mdl_load b_Mdl_load 2 (some .int) ∈ WS := WS_at 743 rfl rfl
set_option maxRecDepth 100000 in
theorem q_744 : Cond.methodLink R_Mdl 136 y_Mdl_add ∈ WS := WS_at 744 rfl rfl
set_option maxRecDepth 100000 in
theorem q_746 : Cond.instanceMethod y_Mdl_add ∈ WS := WS_at 746 rfl rfl
set_option maxRecDepth 100000 in
theorem q_747 : Cond.code y_Mdl_add b_Mdl_add 6 none ∈ WS := WS_at 747 rfl rfl
set_option maxRecDepth 100000 in
theorem q_748 : Cond.constant R_Mdl 78 32768 ∈ WS := WS_at 748 rfl rfl
set_option maxRecDepth 100000 in
theorem q_749 : Cond.methodLink R_Mdl 117 y_Mdl_result ∈ WS := WS_at 749 rfl rfl
set_option maxRecDepth 100000 in
theorem q_751 : Cond.instanceMethod y_Mdl_result ∈ WS := WS_at 751 rfl rfl
set_option maxRecDepth 100000 in
theorem q_752 : Cond.code y_Mdl_result b_Mdl_result 4 (some .int) ∈ WS := WS_at 752 rfl rfl
set_option maxRecDepth 100000 in
theorem q_753 : Cond.methodLink R_Mdl 120 y_Mdl_setAccumulator ∈ WS := WS_at 753 rfl rfl
set_option maxRecDepth 100000 in
theorem q_755 : Cond.instanceMethod y_Mdl_setAccumulator ∈ WS := WS_at 755 rfl rfl
set_option maxRecDepth 100000 in
theorem q_756 : Cond.code y_Mdl_setAccumulator b_Mdl_setAccumulator 2 none ∈ WS := WS_at 756 rfl rfl
set_option maxRecDepth 100000 in
theorem q_757 : Cond.constant R_Mdl 74 65280 ∈ WS := WS_at 757 rfl rfl
set_option maxRecDepth 100000 in
theorem q_758 : Cond.methodLink R_Mdl 139 y_Mdl_compare ∈ WS := WS_at 758 rfl rfl
set_option maxRecDepth 100000 in
theorem q_760 : Cond.instanceMethod y_Mdl_compare ∈ WS := WS_at 760 rfl rfl
set_option maxRecDepth 100000 in
theorem q_761 : Cond.code y_Mdl_compare b_Mdl_compare 5 none ∈ WS := WS_at 761 rfl rfl
set_option maxRecDepth 100000 in
theorem q_762 : Cond.methodLink R_Mdl 203 y_Mdl_change ∈ WS := WS_at 762 rfl rfl
set_option maxRecDepth 100000 in
theorem q_764 : Cond.instanceMethod y_Mdl_change ∈ WS := WS_at 764 rfl rfl
set_option maxRecDepth 100000 in
theorem q_765 : Cond.code y_Mdl_change b_Mdl_change 2 (some .boolean) ∈ WS := WS_at 765 rfl rfl
set_option maxRecDepth 100000 in
theorem q_766 : Cond.methodLink R_Mdl 147 y_Mdl_changeMemory ∈ WS := WS_at 766 rfl rfl
set_option maxRecDepth 100000 in
theorem q_768 : Cond.instanceMethod y_Mdl_changeMemory ∈ WS := WS_at 768 rfl rfl
set_option maxRecDepth 100000 in
theorem q_769 : Cond.code y_Mdl_changeMemory b_Mdl_changeMemory 4 none ∈ WS := WS_at 769 rfl rfl
set_option maxRecDepth 100000 in
theorem q_770 : Cond.methodLink R_Mdl 143 y_Mdl_changed ∈ WS := WS_at 770 rfl rfl
set_option maxRecDepth 100000 in
theorem q_772 : Cond.instanceMethod y_Mdl_changed ∈ WS := WS_at 772 rfl rfl
set_option maxRecDepth 100000 in
theorem q_773 : Cond.code y_Mdl_changed b_Mdl_changed 6 (some .int) ∈ WS := WS_at 773 rfl rfl
set_option maxRecDepth 100000 in
theorem q_774 : Cond.methodLink R_Mdl 206 y_Mdl_index ∈ WS := WS_at 774 rfl rfl
set_option maxRecDepth 100000 in
theorem q_776 : Cond.instanceMethod y_Mdl_index ∈ WS := WS_at 776 rfl rfl
set_option maxRecDepth 100000 in
theorem q_777 : Cond.code y_Mdl_index b_Mdl_index 3 (some .boolean) ∈ WS := WS_at 777 rfl rfl
set_option maxRecDepth 100000 in
theorem q_778 : Cond.methodLink R_Mdl 154 y_Mdl_indexOperand ∈ WS := WS_at 778 rfl rfl
set_option maxRecDepth 100000 in
theorem q_780 : Cond.instanceMethod y_Mdl_indexOperand ∈ WS := WS_at 780 rfl rfl
set_option maxRecDepth 100000 in
theorem q_781 : Cond.code y_Mdl_indexOperand b_Mdl_indexOperand 2 (some .int) ∈ WS := WS_at 781 rfl rfl
set_option maxRecDepth 100000 in
theorem q_782 : Cond.methodLink R_Mdl 150 y_Mdl_findIndex ∈ WS := WS_at 782 rfl rfl
set_option maxRecDepth 100000 in
theorem q_784 : Cond.instanceMethod y_Mdl_findIndex ∈ WS := WS_at 784 rfl rfl
set_option maxRecDepth 100000 in
theorem q_785 : Cond.code y_Mdl_findIndex b_Mdl_findIndex 2 none ∈ WS := WS_at 785 rfl rfl
set_option maxRecDepth 100000 in
theorem q_786 : Cond.methodLink R_Mdl 157 y_Mdl_storeAt ∈ WS := WS_at 786 rfl rfl
set_option maxRecDepth 100000 in
theorem q_788 : Cond.instanceMethod y_Mdl_storeAt ∈ WS := WS_at 788 rfl rfl
set_option maxRecDepth 100000 in
theorem q_789 : Cond.code y_Mdl_storeAt b_Mdl_storeAt 4 none ∈ WS := WS_at 789 rfl rfl
set_option maxRecDepth 100000 in
theorem q_790 : Cond.methodLink R_Mdl 209 y_Mdl_transfer ∈ WS := WS_at 790 rfl rfl
set_option maxRecDepth 100000 in
theorem q_792 : Cond.instanceMethod y_Mdl_transfer ∈ WS := WS_at 792 rfl rfl
set_option maxRecDepth 100000 in
theorem q_793 : Cond.code y_Mdl_transfer b_Mdl_transfer 4 (some .boolean) ∈ WS := WS_at 793 rfl rfl
set_option maxRecDepth 100000 in
theorem q_794 : Cond.methodLink R_Mdl 212 y_Mdl_stack ∈ WS := WS_at 794 rfl rfl
set_option maxRecDepth 100000 in
theorem q_796 : Cond.instanceMethod y_Mdl_stack ∈ WS := WS_at 796 rfl rfl
set_option maxRecDepth 100000 in
theorem q_797 : Cond.code y_Mdl_stack b_Mdl_stack 2 (some .boolean) ∈ WS := WS_at 797 rfl rfl
set_option maxRecDepth 100000 in
theorem q_798 : Cond.methodLink R_Mdl 167 y_Mdl_pushOf ∈ WS := WS_at 798 rfl rfl
set_option maxRecDepth 100000 in
theorem q_800 : Cond.instanceMethod y_Mdl_pushOf ∈ WS := WS_at 800 rfl rfl
set_option maxRecDepth 100000 in
theorem q_801 : Cond.code y_Mdl_pushOf b_Mdl_pushOf 3 none ∈ WS := WS_at 801 rfl rfl
set_option maxRecDepth 100000 in
theorem q_802 : Cond.methodLink R_Mdl 170 y_Mdl_pullOf ∈ WS := WS_at 802 rfl rfl
set_option maxRecDepth 100000 in
theorem q_804 : Cond.instanceMethod y_Mdl_pullOf ∈ WS := WS_at 804 rfl rfl
set_option maxRecDepth 100000 in
theorem q_805 : Cond.code y_Mdl_pullOf b_Mdl_pullOf 2 (some .int) ∈ WS := WS_at 805 rfl rfl
set_option maxRecDepth 100000 in
theorem q_806 : Cond.methodLink R_Mdl 51 y_Mdl_pull ∈ WS := WS_at 806 rfl rfl
set_option maxRecDepth 100000 in
theorem q_808 : Cond.instanceMethod y_Mdl_pull ∈ WS := WS_at 808 rfl rfl
set_option maxRecDepth 100000 in
theorem q_809 : Cond.code y_Mdl_pull b_Mdl_pull 1 (some .int) ∈ WS := WS_at 809 rfl rfl
set_option maxRecDepth 100000 in
theorem q_810 : Cond.methodLink R_Mdl 164 y_Mdl_pullWord ∈ WS := WS_at 810 rfl rfl
set_option maxRecDepth 100000 in
theorem q_812 : Cond.instanceMethod y_Mdl_pullWord ∈ WS := WS_at 812 rfl rfl
set_option maxRecDepth 100000 in
theorem q_813 : Cond.code y_Mdl_pullWord b_Mdl_pullWord 2 (some .int) ∈ WS := WS_at 813 rfl rfl
set_option maxRecDepth 100000 in
theorem q_814 : Cond.methodLink R_Mdl 215 y_Mdl_jump ∈ WS := WS_at 814 rfl rfl
set_option maxRecDepth 100000 in
theorem q_816 : Cond.instanceMethod y_Mdl_jump ∈ WS := WS_at 816 rfl rfl
set_option maxRecDepth 100000 in
theorem q_817 : Cond.code y_Mdl_jump b_Mdl_jump 3 (some .boolean) ∈ WS := WS_at 817 rfl rfl
set_option maxRecDepth 100000 in
theorem q_818 : Cond.methodLink R_Mdl 176 y_Mdl_branch ∈ WS := WS_at 818 rfl rfl
set_option maxRecDepth 100000 in
theorem q_820 : Cond.instanceMethod y_Mdl_branch ∈ WS := WS_at 820 rfl rfl
set_option maxRecDepth 100000 in
theorem q_821 : Cond.code y_Mdl_branch b_Mdl_branch 3 none ∈ WS := WS_at 821 rfl rfl
set_option maxRecDepth 100000 in
theorem q_822 : Cond.methodLink R_Mdl 179 y_Mdl_call ∈ WS := WS_at 822 rfl rfl
set_option maxRecDepth 100000 in
theorem q_824 : Cond.instanceMethod y_Mdl_call ∈ WS := WS_at 824 rfl rfl
set_option maxRecDepth 100000 in
theorem q_825 : Cond.code y_Mdl_call b_Mdl_call 2 none ∈ WS := WS_at 825 rfl rfl
set_option maxRecDepth 100000 in
theorem q_826 : Cond.methodLink R_Mdl 182 y_Mdl_longJump ∈ WS := WS_at 826 rfl rfl
set_option maxRecDepth 100000 in
theorem q_828 : Cond.instanceMethod y_Mdl_longJump ∈ WS := WS_at 828 rfl rfl
set_option maxRecDepth 100000 in
theorem q_829 : Cond.code y_Mdl_longJump b_Mdl_longJump 3 (some .boolean) ∈ WS := WS_at 829 rfl rfl
set_option maxRecDepth 100000 in
theorem q_830 : Cond.methodLink R_Mdl 218 y_Mdl_other ∈ WS := WS_at 830 rfl rfl
set_option maxRecDepth 100000 in
theorem q_832 : Cond.instanceMethod y_Mdl_other ∈ WS := WS_at 832 rfl rfl
set_option maxRecDepth 100000 in
theorem q_833 : Cond.code y_Mdl_other b_Mdl_other 2 (some .boolean) ∈ WS := WS_at 833 rfl rfl
set_option maxRecDepth 100000 in
theorem q_834 : Cond.methodLink R_Mdl 188 y_Mdl_moveBlock ∈ WS := WS_at 834 rfl rfl
set_option maxRecDepth 100000 in
theorem q_836 : Cond.instanceMethod y_Mdl_moveBlock ∈ WS := WS_at 836 rfl rfl
set_option maxRecDepth 100000 in
theorem q_837 : Cond.code y_Mdl_moveBlock b_Mdl_moveBlock 6 none ∈ WS := WS_at 837 rfl rfl
set_option maxRecDepth 100000 in
theorem q_839 : Cond.instanceMethod y_Mdl_stopped ∈ WS := WS_at 839 rfl rfl
set_option maxRecDepth 100000 in
theorem q_840 : Cond.selects R_Mdl y_Mdl_stopped y_Mdl_stopped ∈ WS := WS_at 840 rfl rfl
set_option maxRecDepth 100000 in
theorem q_841 : Cond.code y_Mdl_stopped b_Mdl_stopped 1 (some .boolean) ∈ WS := WS_at 841 rfl rfl
set_option maxRecDepth 100000 in
theorem q_843 : Cond.instanceMethod y_Mdl_interrupt ∈ WS := WS_at 843 rfl rfl
set_option maxRecDepth 100000 in
theorem q_844 : Cond.selects R_Mdl y_Mdl_interrupt y_Mdl_interrupt ∈ WS := WS_at 844 rfl rfl
set_option maxRecDepth 100000 in
theorem q_845 : Cond.code y_Mdl_interrupt b_Mdl_interrupt 2 (some .boolean) ∈ WS := WS_at 845 rfl rfl
set_option maxRecDepth 100000 in
theorem q_847 : Cond.instanceMethod y_Mdl_line ∈ WS := WS_at 847 rfl rfl
set_option maxRecDepth 100000 in
theorem q_848 : Cond.selects R_Mdl y_Mdl_line y_Mdl_line ∈ WS := WS_at 848 rfl rfl
set_option maxRecDepth 100000 in
theorem q_849 : Cond.code y_Mdl_line b_Mdl_line 2 none ∈ WS := WS_at 849 rfl rfl
set_option maxRecDepth 100000 in
theorem q_851 : Cond.instanceMethod y_Mdl_touches ∈ WS := WS_at 851 rfl rfl
set_option maxRecDepth 100000 in
theorem q_852 : Cond.selects R_Mdl y_Mdl_touches y_Mdl_touches ∈ WS := WS_at 852 rfl rfl
set_option maxRecDepth 100000 in
theorem q_853 : Cond.code y_Mdl_touches b_Mdl_touches 1 (some .int) ∈ WS := WS_at 853 rfl rfl
set_option maxRecDepth 100000 in
theorem q_855 : Cond.instanceMethod y_Mdl_touched ∈ WS := WS_at 855 rfl rfl
set_option maxRecDepth 100000 in
theorem q_856 : Cond.selects R_Mdl y_Mdl_touched y_Mdl_touched ∈ WS := WS_at 856 rfl rfl
set_option maxRecDepth 100000 in
theorem q_857 : Cond.code y_Mdl_touched b_Mdl_touched 2 (some .int) ∈ WS := WS_at 857 rfl rfl
set_option maxRecDepth 100000 in
theorem q_859 : Cond.instanceMethod y_Mdl_steps ∈ WS := WS_at 859 rfl rfl
set_option maxRecDepth 100000 in
theorem q_860 : Cond.selects R_Mdl y_Mdl_steps y_Mdl_steps ∈ WS := WS_at 860 rfl rfl
set_option maxRecDepth 100000 in
theorem q_861 : Cond.code y_Mdl_steps b_Mdl_steps 1 (some .int) ∈ WS := WS_at 861 rfl rfl
end
section
theorem d_Bus_init_0 : decode b_Bus_init 0 = .ok (.aload_n 0, 1) := by decide +kernel
theorem d_Bus_init_1 : decode b_Bus_init 1 = .ok (.invokespecial 1, 3) := by decide +kernel
theorem d_Bus_init_4 : decode b_Bus_init 4 = .ok (.aload_n 0, 1) := by decide +kernel
theorem d_Bus_init_5 : decode b_Bus_init 5 = .ok (.sipush 1024, 3) := by decide +kernel
theorem d_Bus_init_8 : decode b_Bus_init 8 = .ok (.newarray .byte, 2) := by decide +kernel
theorem d_Bus_init_10 : decode b_Bus_init 10 = .ok (.putfield 9, 3) := by decide +kernel
theorem d_Bus_init_13 : decode b_Bus_init 13 = .ok (.aload_n 0, 1) := by decide +kernel
theorem d_Bus_init_14 : decode b_Bus_init 14 = .ok (.bipush 8, 2) := by decide +kernel
theorem d_Bus_init_16 : decode b_Bus_init 16 = .ok (.newarray .int, 2) := by decide +kernel
theorem d_Bus_init_18 : decode b_Bus_init 18 = .ok (.putfield 13, 3) := by decide +kernel
theorem d_Bus_init_21 : decode b_Bus_init 21 = .ok (.return_, 1) := by decide +kernel
theorem d_Bus_longPlace_0 : decode b_Bus_longPlace 0 = .ok (.iload_n 0, 1) := by decide +kernel
theorem d_Bus_longPlace_1 : decode b_Bus_longPlace 1 = .ok (.ldc 17, 2) := by decide +kernel
theorem d_Bus_longPlace_3 : decode b_Bus_longPlace 3 = .ok (.iand, 1) := by decide +kernel
theorem d_Bus_longPlace_4 : decode b_Bus_longPlace 4 = .ok (.ireturn, 1) := by decide +kernel
theorem d_Bus_bank0Place_0 : decode b_Bus_bank0Place 0 = .ok (.ldc 18, 2) := by decide +kernel
theorem d_Bus_bank0Place_2 : decode b_Bus_bank0Place 2 = .ok (.iload_n 0, 1) := by decide +kernel
theorem d_Bus_bank0Place_3 : decode b_Bus_bank0Place 3 = .ok (.ldc 19, 2) := by decide +kernel
theorem d_Bus_bank0Place_5 : decode b_Bus_bank0Place 5 = .ok (.iand, 1) := by decide +kernel
theorem d_Bus_bank0Place_6 : decode b_Bus_bank0Place 6 = .ok (.ior, 1) := by decide +kernel
theorem d_Bus_bank0Place_7 : decode b_Bus_bank0Place 7 = .ok (.ireturn, 1) := by decide +kernel
theorem d_Bus_placeAfter_0 : decode b_Bus_placeAfter 0 = .ok (.iload_n 0, 1) := by decide +kernel
theorem d_Bus_placeAfter_1 : decode b_Bus_placeAfter 1 = .ok (.ldc 18, 2) := by decide +kernel
theorem d_Bus_placeAfter_3 : decode b_Bus_placeAfter 3 = .ok (.iand, 1) := by decide +kernel
theorem d_Bus_placeAfter_4 : decode b_Bus_placeAfter 4 = .ok (.ifCond .eq 12, 3) := by decide +kernel
theorem d_Bus_placeAfter_7 : decode b_Bus_placeAfter 7 = .ok (.iload_n 0, 1) := by decide +kernel
theorem d_Bus_placeAfter_8 : decode b_Bus_placeAfter 8 = .ok (.iconst 1, 1) := by decide +kernel
theorem d_Bus_placeAfter_9 : decode b_Bus_placeAfter 9 = .ok (.iadd, 1) := by decide +kernel
theorem d_Bus_placeAfter_10 : decode b_Bus_placeAfter 10 = .ok (.invokestatic 20, 3) := by decide +kernel
theorem d_Bus_placeAfter_13 : decode b_Bus_placeAfter 13 = .ok (.goto 9, 3) := by decide +kernel
theorem d_Bus_placeAfter_16 : decode b_Bus_placeAfter 16 = .ok (.iload_n 0, 1) := by decide +kernel
theorem d_Bus_placeAfter_17 : decode b_Bus_placeAfter 17 = .ok (.iconst 1, 1) := by decide +kernel
theorem d_Bus_placeAfter_18 : decode b_Bus_placeAfter 18 = .ok (.iadd, 1) := by decide +kernel
theorem d_Bus_placeAfter_19 : decode b_Bus_placeAfter 19 = .ok (.invokestatic 24, 3) := by decide +kernel
theorem d_Bus_placeAfter_22 : decode b_Bus_placeAfter 22 = .ok (.ireturn, 1) := by decide +kernel
theorem d_Bus_cellOf_0 : decode b_Bus_cellOf 0 = .ok (.iload_n 0, 1) := by decide +kernel
theorem d_Bus_cellOf_1 : decode b_Bus_cellOf 1 = .ok (.bipush 7, 2) := by decide +kernel
theorem d_Bus_cellOf_3 : decode b_Bus_cellOf 3 = .ok (.ishr, 1) := by decide +kernel
theorem d_Bus_cellOf_4 : decode b_Bus_cellOf 4 = .ok (.sipush 512, 3) := by decide +kernel
theorem d_Bus_cellOf_7 : decode b_Bus_cellOf 7 = .ok (.iand, 1) := by decide +kernel
theorem d_Bus_cellOf_8 : decode b_Bus_cellOf 8 = .ok (.iload_n 0, 1) := by decide +kernel
theorem d_Bus_cellOf_9 : decode b_Bus_cellOf 9 = .ok (.sipush 511, 3) := by decide +kernel
theorem d_Bus_cellOf_12 : decode b_Bus_cellOf 12 = .ok (.iand, 1) := by decide +kernel
theorem d_Bus_cellOf_13 : decode b_Bus_cellOf 13 = .ok (.ior, 1) := by decide +kernel
theorem d_Bus_cellOf_14 : decode b_Bus_cellOf 14 = .ok (.ireturn, 1) := by decide +kernel
theorem d_Bus_programByte_0 : decode b_Bus_programByte 0 = .ok (.aload_n 0, 1) := by decide +kernel
theorem d_Bus_programByte_1 : decode b_Bus_programByte 1 = .ok (.getfield 9, 3) := by decide +kernel
theorem d_Bus_programByte_4 : decode b_Bus_programByte 4 = .ok (.sipush 512, 3) := by decide +kernel
theorem d_Bus_programByte_7 : decode b_Bus_programByte 7 = .ok (.iload_n 1, 1) := by decide +kernel
theorem d_Bus_programByte_8 : decode b_Bus_programByte 8 = .ok (.iconst 1, 1) := by decide +kernel
theorem d_Bus_programByte_9 : decode b_Bus_programByte 9 = .ok (.iand, 1) := by decide +kernel
theorem d_Bus_programByte_10 : decode b_Bus_programByte 10 = .ok (.imul, 1) := by decide +kernel
theorem d_Bus_programByte_11 : decode b_Bus_programByte 11 = .ok (.iload_n 2, 1) := by decide +kernel
theorem d_Bus_programByte_12 : decode b_Bus_programByte 12 = .ok (.sipush 511, 3) := by decide +kernel
theorem d_Bus_programByte_15 : decode b_Bus_programByte 15 = .ok (.iand, 1) := by decide +kernel
theorem d_Bus_programByte_16 : decode b_Bus_programByte 16 = .ok (.iadd, 1) := by decide +kernel
theorem d_Bus_programByte_17 : decode b_Bus_programByte 17 = .ok (.baload, 1) := by decide +kernel
theorem d_Bus_programByte_18 : decode b_Bus_programByte 18 = .ok (.sipush 255, 3) := by decide +kernel
theorem d_Bus_programByte_21 : decode b_Bus_programByte 21 = .ok (.iand, 1) := by decide +kernel
theorem d_Bus_programByte_22 : decode b_Bus_programByte 22 = .ok (.ireturn, 1) := by decide +kernel
theorem d_Bus_readByte_0 : decode b_Bus_readByte 0 = .ok (.iload_n 1, 1) := by decide +kernel
theorem d_Bus_readByte_1 : decode b_Bus_readByte 1 = .ok (.invokestatic 27, 3) := by decide +kernel
theorem d_Bus_readByte_4 : decode b_Bus_readByte 4 = .ok (.istore_n 2, 1) := by decide +kernel
theorem d_Bus_readByte_5 : decode b_Bus_readByte 5 = .ok (.aload_n 0, 1) := by decide +kernel
theorem d_Bus_readByte_6 : decode b_Bus_readByte 6 = .ok (.getfield 13, 3) := by decide +kernel
theorem d_Bus_readByte_9 : decode b_Bus_readByte 9 = .ok (.aload_n 0, 1) := by decide +kernel
theorem d_Bus_readByte_10 : decode b_Bus_readByte 10 = .ok (.getfield 30, 3) := by decide +kernel
theorem d_Bus_readByte_13 : decode b_Bus_readByte 13 = .ok (.bipush 7, 2) := by decide +kernel
theorem d_Bus_readByte_15 : decode b_Bus_readByte 15 = .ok (.iand, 1) := by decide +kernel
theorem d_Bus_readByte_16 : decode b_Bus_readByte 16 = .ok (.iload_n 2, 1) := by decide +kernel
theorem d_Bus_readByte_17 : decode b_Bus_readByte 17 = .ok (.iastore, 1) := by decide +kernel
theorem d_Bus_readByte_18 : decode b_Bus_readByte 18 = .ok (.aload_n 0, 1) := by decide +kernel
theorem d_Bus_readByte_19 : decode b_Bus_readByte 19 = .ok (.dup, 1) := by decide +kernel
theorem d_Bus_readByte_20 : decode b_Bus_readByte 20 = .ok (.getfield 30, 3) := by decide +kernel
theorem d_Bus_readByte_23 : decode b_Bus_readByte 23 = .ok (.iconst 1, 1) := by decide +kernel
theorem d_Bus_readByte_24 : decode b_Bus_readByte 24 = .ok (.iadd, 1) := by decide +kernel
theorem d_Bus_readByte_25 : decode b_Bus_readByte 25 = .ok (.putfield 30, 3) := by decide +kernel
theorem d_Bus_readByte_28 : decode b_Bus_readByte 28 = .ok (.aload_n 0, 1) := by decide +kernel
theorem d_Bus_readByte_29 : decode b_Bus_readByte 29 = .ok (.getfield 9, 3) := by decide +kernel
theorem d_Bus_readByte_32 : decode b_Bus_readByte 32 = .ok (.iload_n 2, 1) := by decide +kernel
theorem d_Bus_readByte_33 : decode b_Bus_readByte 33 = .ok (.baload, 1) := by decide +kernel
theorem d_Bus_readByte_34 : decode b_Bus_readByte 34 = .ok (.sipush 255, 3) := by decide +kernel
theorem d_Bus_readByte_37 : decode b_Bus_readByte 37 = .ok (.iand, 1) := by decide +kernel
theorem d_Bus_readByte_38 : decode b_Bus_readByte 38 = .ok (.ireturn, 1) := by decide +kernel
theorem d_Bus_writeByte_0 : decode b_Bus_writeByte 0 = .ok (.iload_n 1, 1) := by decide +kernel
theorem d_Bus_writeByte_1 : decode b_Bus_writeByte 1 = .ok (.invokestatic 27, 3) := by decide +kernel
theorem d_Bus_writeByte_4 : decode b_Bus_writeByte 4 = .ok (.istore_n 3, 1) := by decide +kernel
theorem d_Bus_writeByte_5 : decode b_Bus_writeByte 5 = .ok (.aload_n 0, 1) := by decide +kernel
theorem d_Bus_writeByte_6 : decode b_Bus_writeByte 6 = .ok (.getfield 13, 3) := by decide +kernel
theorem d_Bus_writeByte_9 : decode b_Bus_writeByte 9 = .ok (.aload_n 0, 1) := by decide +kernel
theorem d_Bus_writeByte_10 : decode b_Bus_writeByte 10 = .ok (.getfield 30, 3) := by decide +kernel
theorem d_Bus_writeByte_13 : decode b_Bus_writeByte 13 = .ok (.bipush 7, 2) := by decide +kernel
theorem d_Bus_writeByte_15 : decode b_Bus_writeByte 15 = .ok (.iand, 1) := by decide +kernel
theorem d_Bus_writeByte_16 : decode b_Bus_writeByte 16 = .ok (.iload_n 3, 1) := by decide +kernel
theorem d_Bus_writeByte_17 : decode b_Bus_writeByte 17 = .ok (.sipush 1024, 3) := by decide +kernel
theorem d_Bus_writeByte_20 : decode b_Bus_writeByte 20 = .ok (.iadd, 1) := by decide +kernel
theorem d_Bus_writeByte_21 : decode b_Bus_writeByte 21 = .ok (.iastore, 1) := by decide +kernel
theorem d_Bus_writeByte_22 : decode b_Bus_writeByte 22 = .ok (.aload_n 0, 1) := by decide +kernel
theorem d_Bus_writeByte_23 : decode b_Bus_writeByte 23 = .ok (.dup, 1) := by decide +kernel
theorem d_Bus_writeByte_24 : decode b_Bus_writeByte 24 = .ok (.getfield 30, 3) := by decide +kernel
theorem d_Bus_writeByte_27 : decode b_Bus_writeByte 27 = .ok (.iconst 1, 1) := by decide +kernel
theorem d_Bus_writeByte_28 : decode b_Bus_writeByte 28 = .ok (.iadd, 1) := by decide +kernel
theorem d_Bus_writeByte_29 : decode b_Bus_writeByte 29 = .ok (.putfield 30, 3) := by decide +kernel
theorem d_Bus_writeByte_32 : decode b_Bus_writeByte 32 = .ok (.aload_n 0, 1) := by decide +kernel
theorem d_Bus_writeByte_33 : decode b_Bus_writeByte 33 = .ok (.getfield 9, 3) := by decide +kernel
theorem d_Bus_writeByte_36 : decode b_Bus_writeByte 36 = .ok (.iload_n 3, 1) := by decide +kernel
theorem d_Bus_writeByte_37 : decode b_Bus_writeByte 37 = .ok (.iload_n 2, 1) := by decide +kernel
theorem d_Bus_writeByte_38 : decode b_Bus_writeByte 38 = .ok (.i2b, 1) := by decide +kernel
theorem d_Bus_writeByte_39 : decode b_Bus_writeByte 39 = .ok (.bastore, 1) := by decide +kernel
theorem d_Bus_writeByte_40 : decode b_Bus_writeByte 40 = .ok (.return_, 1) := by decide +kernel
theorem d_Bus_readWord_0 : decode b_Bus_readWord 0 = .ok (.aload_n 0, 1) := by decide +kernel
theorem d_Bus_readWord_1 : decode b_Bus_readWord 1 = .ok (.iload_n 1, 1) := by decide +kernel
theorem d_Bus_readWord_2 : decode b_Bus_readWord 2 = .ok (.invokevirtual 34, 3) := by decide +kernel
theorem d_Bus_readWord_5 : decode b_Bus_readWord 5 = .ok (.istore_n 2, 1) := by decide +kernel
theorem d_Bus_readWord_6 : decode b_Bus_readWord 6 = .ok (.iload_n 2, 1) := by decide +kernel
theorem d_Bus_readWord_7 : decode b_Bus_readWord 7 = .ok (.aload_n 0, 1) := by decide +kernel
theorem d_Bus_readWord_8 : decode b_Bus_readWord 8 = .ok (.iload_n 1, 1) := by decide +kernel
theorem d_Bus_readWord_9 : decode b_Bus_readWord 9 = .ok (.invokestatic 37, 3) := by decide +kernel
theorem d_Bus_readWord_12 : decode b_Bus_readWord 12 = .ok (.invokevirtual 34, 3) := by decide +kernel
theorem d_Bus_readWord_15 : decode b_Bus_readWord 15 = .ok (.bipush 8, 2) := by decide +kernel
theorem d_Bus_readWord_17 : decode b_Bus_readWord 17 = .ok (.ishl, 1) := by decide +kernel
theorem d_Bus_readWord_18 : decode b_Bus_readWord 18 = .ok (.ior, 1) := by decide +kernel
theorem d_Bus_readWord_19 : decode b_Bus_readWord 19 = .ok (.ireturn, 1) := by decide +kernel
theorem d_Bus_readLong_0 : decode b_Bus_readLong 0 = .ok (.iload_n 1, 1) := by decide +kernel
theorem d_Bus_readLong_1 : decode b_Bus_readLong 1 = .ok (.invokestatic 37, 3) := by decide +kernel
theorem d_Bus_readLong_4 : decode b_Bus_readLong 4 = .ok (.istore_n 2, 1) := by decide +kernel
theorem d_Bus_readLong_5 : decode b_Bus_readLong 5 = .ok (.aload_n 0, 1) := by decide +kernel
theorem d_Bus_readLong_6 : decode b_Bus_readLong 6 = .ok (.iload_n 1, 1) := by decide +kernel
theorem d_Bus_readLong_7 : decode b_Bus_readLong 7 = .ok (.invokevirtual 34, 3) := by decide +kernel
theorem d_Bus_readLong_10 : decode b_Bus_readLong 10 = .ok (.istore_n 3, 1) := by decide +kernel
theorem d_Bus_readLong_11 : decode b_Bus_readLong 11 = .ok (.aload_n 0, 1) := by decide +kernel
theorem d_Bus_readLong_12 : decode b_Bus_readLong 12 = .ok (.iload_n 2, 1) := by decide +kernel
theorem d_Bus_readLong_13 : decode b_Bus_readLong 13 = .ok (.invokevirtual 34, 3) := by decide +kernel
theorem d_Bus_readLong_16 : decode b_Bus_readLong 16 = .ok (.istore 4, 2) := by decide +kernel
theorem d_Bus_readLong_18 : decode b_Bus_readLong 18 = .ok (.iload_n 3, 1) := by decide +kernel
theorem d_Bus_readLong_19 : decode b_Bus_readLong 19 = .ok (.iload 4, 2) := by decide +kernel
theorem d_Bus_readLong_21 : decode b_Bus_readLong 21 = .ok (.bipush 8, 2) := by decide +kernel
theorem d_Bus_readLong_23 : decode b_Bus_readLong 23 = .ok (.ishl, 1) := by decide +kernel
theorem d_Bus_readLong_24 : decode b_Bus_readLong 24 = .ok (.ior, 1) := by decide +kernel
theorem d_Bus_readLong_25 : decode b_Bus_readLong 25 = .ok (.aload_n 0, 1) := by decide +kernel
theorem d_Bus_readLong_26 : decode b_Bus_readLong 26 = .ok (.iload_n 2, 1) := by decide +kernel
theorem d_Bus_readLong_27 : decode b_Bus_readLong 27 = .ok (.invokestatic 37, 3) := by decide +kernel
theorem d_Bus_readLong_30 : decode b_Bus_readLong 30 = .ok (.invokevirtual 34, 3) := by decide +kernel
theorem d_Bus_readLong_33 : decode b_Bus_readLong 33 = .ok (.bipush 16, 2) := by decide +kernel
theorem d_Bus_readLong_35 : decode b_Bus_readLong 35 = .ok (.ishl, 1) := by decide +kernel
theorem d_Bus_readLong_36 : decode b_Bus_readLong 36 = .ok (.ior, 1) := by decide +kernel
theorem d_Bus_readLong_37 : decode b_Bus_readLong 37 = .ok (.ireturn, 1) := by decide +kernel
theorem d_Bus_readValue_0 : decode b_Bus_readValue 0 = .ok (.iload_n 2, 1) := by decide +kernel
theorem d_Bus_readValue_1 : decode b_Bus_readValue 1 = .ok (.ifCond .eq 11, 3) := by decide +kernel
theorem d_Bus_readValue_4 : decode b_Bus_readValue 4 = .ok (.aload_n 0, 1) := by decide +kernel
theorem d_Bus_readValue_5 : decode b_Bus_readValue 5 = .ok (.iload_n 1, 1) := by decide +kernel
theorem d_Bus_readValue_6 : decode b_Bus_readValue 6 = .ok (.invokevirtual 40, 3) := by decide +kernel
theorem d_Bus_readValue_9 : decode b_Bus_readValue 9 = .ok (.goto 8, 3) := by decide +kernel
theorem d_Bus_readValue_12 : decode b_Bus_readValue 12 = .ok (.aload_n 0, 1) := by decide +kernel
theorem d_Bus_readValue_13 : decode b_Bus_readValue 13 = .ok (.iload_n 1, 1) := by decide +kernel
theorem d_Bus_readValue_14 : decode b_Bus_readValue 14 = .ok (.invokevirtual 34, 3) := by decide +kernel
theorem d_Bus_readValue_17 : decode b_Bus_readValue 17 = .ok (.ireturn, 1) := by decide +kernel
theorem d_Bus_writeValue_0 : decode b_Bus_writeValue 0 = .ok (.aload_n 0, 1) := by decide +kernel
theorem d_Bus_writeValue_1 : decode b_Bus_writeValue 1 = .ok (.iload_n 1, 1) := by decide +kernel
theorem d_Bus_writeValue_2 : decode b_Bus_writeValue 2 = .ok (.iload_n 2, 1) := by decide +kernel
theorem d_Bus_writeValue_3 : decode b_Bus_writeValue 3 = .ok (.invokevirtual 43, 3) := by decide +kernel
theorem d_Bus_writeValue_6 : decode b_Bus_writeValue 6 = .ok (.iload_n 3, 1) := by decide +kernel
theorem d_Bus_writeValue_7 : decode b_Bus_writeValue 7 = .ok (.ifCond .eq 15, 3) := by decide +kernel
theorem d_Bus_writeValue_10 : decode b_Bus_writeValue 10 = .ok (.aload_n 0, 1) := by decide +kernel
theorem d_Bus_writeValue_11 : decode b_Bus_writeValue 11 = .ok (.iload_n 1, 1) := by decide +kernel
theorem d_Bus_writeValue_12 : decode b_Bus_writeValue 12 = .ok (.invokestatic 37, 3) := by decide +kernel
theorem d_Bus_writeValue_15 : decode b_Bus_writeValue 15 = .ok (.iload_n 2, 1) := by decide +kernel
theorem d_Bus_writeValue_16 : decode b_Bus_writeValue 16 = .ok (.bipush 8, 2) := by decide +kernel
theorem d_Bus_writeValue_18 : decode b_Bus_writeValue 18 = .ok (.ishr, 1) := by decide +kernel
theorem d_Bus_writeValue_19 : decode b_Bus_writeValue 19 = .ok (.invokevirtual 43, 3) := by decide +kernel
theorem d_Bus_writeValue_22 : decode b_Bus_writeValue 22 = .ok (.return_, 1) := by decide +kernel
theorem d_Bus_latestTouch_0 : decode b_Bus_latestTouch 0 = .ok (.aload_n 0, 1) := by decide +kernel
theorem d_Bus_latestTouch_1 : decode b_Bus_latestTouch 1 = .ok (.getfield 13, 3) := by decide +kernel
theorem d_Bus_latestTouch_4 : decode b_Bus_latestTouch 4 = .ok (.aload_n 0, 1) := by decide +kernel
theorem d_Bus_latestTouch_5 : decode b_Bus_latestTouch 5 = .ok (.getfield 30, 3) := by decide +kernel
theorem d_Bus_latestTouch_8 : decode b_Bus_latestTouch 8 = .ok (.iconst 1, 1) := by decide +kernel
theorem d_Bus_latestTouch_9 : decode b_Bus_latestTouch 9 = .ok (.isub, 1) := by decide +kernel
theorem d_Bus_latestTouch_10 : decode b_Bus_latestTouch 10 = .ok (.iload_n 1, 1) := by decide +kernel
theorem d_Bus_latestTouch_11 : decode b_Bus_latestTouch 11 = .ok (.isub, 1) := by decide +kernel
theorem d_Bus_latestTouch_12 : decode b_Bus_latestTouch 12 = .ok (.bipush 7, 2) := by decide +kernel
theorem d_Bus_latestTouch_14 : decode b_Bus_latestTouch 14 = .ok (.iand, 1) := by decide +kernel
theorem d_Bus_latestTouch_15 : decode b_Bus_latestTouch 15 = .ok (.iaload, 1) := by decide +kernel
theorem d_Bus_latestTouch_16 : decode b_Bus_latestTouch 16 = .ok (.ireturn, 1) := by decide +kernel
end
section
abbrev Sc : Type := (Nat → Int32) × (Nat → Int32) × (Nat → Int32)
def pr (S : Sc) (k : Nat) (v : Int32) : Sc := (upd S.1 k v, S.2)
def pm (S : Sc) (k : Nat) (v : Int32) : Sc := (S.1, upd S.2.1 k v, S.2.2)
def pl (S : Sc) (k : Nat) (v : Int32) : Sc := (S.1, S.2.1, upd S.2.2 k v)
def bn {α : Type} (x : Int32 × Sc) (F : Int32 → Sc → α) : α := F x.1 x.2
def bs {α : Type} (x : Sc) (F : Sc → α) : α := F x
theorem bn_eq {α : Type} {x : Int32 × Sc} {r : Int32} {S : Sc} (e : x = (r, S)) {F : Int32 → Sc → α} : bn x F = F r S := by subst e; rfl
theorem bs_eq {α : Type} {x S : Sc} (e : x = S) {F : Sc → α} : bs x F = F S := by subst e; rfl
def bf : Nat → Int32 := fun k => match k with
  | 0 => 128
  | 1 => 64
  | 2 => 1
  | _ => 2
end
section
abbrev tysB (cB cI : ClassId) : List (ClassId × FieldType) := [(cB, .byte), (cI, .int)]
abbrev fs_Wc (a : Nat → Nat) : List Value := [.ref (a 1), .ref (a 2), .ref (a 3)]
abbrev fs_Bus (a : Nat → Nat) (S : Sc) : List Value := [.ref (a 6), .ref (a 7), .int (S.1 9)]
abbrev fs_Reg (S : Sc) : List Value := [.int (S.1 0), .int (S.1 1), .int (S.1 2), .int (S.1 3), .int (S.1 4), .int (S.1 5), .int (S.1 6), .int (S.1 7), .int (S.1 8)]
abbrev fs_Prc (a : Nat → Nat) (S : Sc) : List Value := [.ref (a 1), .ref (a 2), .ref (a 4), .ref (a 5), .int (S.1 10), .int (S.1 11), .int (S.1 12), .int (S.1 13)]
abbrev fs_Opd (a : Nat → Nat) : List Value := [.ref (a 1), .ref (a 2)]
abbrev fs_Mdl (a : Nat → Nat) (S : Sc) : List Value := [.ref (a 1), .int (S.1 0), .int (S.1 1), .int (S.1 2), .int (S.1 3), .int (S.1 4), .int (S.1 5), .int (S.1 6), .int (S.1 7), .int (S.1 8), .int (S.1 9), .int (S.1 10), .int (S.1 11), .int (S.1 12), .int (S.1 13), .ref (a 2), .int (S.1 14), .int (S.1 15)]
def wdC (cB cI : ClassId) (a : Nat → Nat) (S : Sc) : va_W := [(a 0, .inr (0, fs_Wc a)), (a 1, .inr (1, fs_Bus a S)), (a 2, .inr (2, fs_Reg S)), (a 3, .inr (3, fs_Prc a S)), (a 4, .inr (4, fs_Opd a)), (a 5, .inr (5, fs_Opd a)), (a 6, .inl (cB, 1024, .inl S.2.1)), (a 7, .inl (cI, 8, .inl S.2.2))]
def wdT (cI : ClassId) (a : Nat → Nat) (S : Sc) : va_W := [(a 0, .inr (6, fs_Mdl a S)), (a 1, .inl (cI, 1024, .inl S.2.1)), (a 2, .inl (cI, 8, .inl S.2.2))]
def ow (a : Nat → Nat) (n : Nat) : Nat → Prop := fun q => ∃ k, k < n ∧ q = a k
def ap (a : Nat → Nat) (n : Nat) : Prop := ∀ i j, i < n → j < n → a i = a j → i = j
theorem wdC_at {cB cI : ClassId} {a : Nat → Nat} {S : Sc} {i : Nat} {q : Nat × va_E} (h : (wdC cB cI a S)[i]? = some q) : i < 8 ∧ q.1 = a i := by
  match i, h with
  | 0, h => cases h; exact ⟨by decide, rfl⟩
  | 1, h => cases h; exact ⟨by decide, rfl⟩
  | 2, h => cases h; exact ⟨by decide, rfl⟩
  | 3, h => cases h; exact ⟨by decide, rfl⟩
  | 4, h => cases h; exact ⟨by decide, rfl⟩
  | 5, h => cases h; exact ⟨by decide, rfl⟩
  | 6, h => cases h; exact ⟨by decide, rfl⟩
  | 7, h => cases h; exact ⟨by decide, rfl⟩
  | n + 8, h => cases h
theorem wdT_at {cI : ClassId} {a : Nat → Nat} {S : Sc} {i : Nat} {q : Nat × va_E} (h : (wdT cI a S)[i]? = some q) : i < 3 ∧ q.1 = a i := by
  match i, h with
  | 0, h => cases h; exact ⟨by decide, rfl⟩
  | 1, h => cases h; exact ⟨by decide, rfl⟩
  | 2, h => cases h; exact ⟨by decide, rfl⟩
  | n + 3, h => cases h
theorem wdC_D {a : Nat → Nat} (ha : ap a 8) (cB cI : ClassId) (S : Sc) : va_D (ow a 8) (wdC cB cI a S) :=
  ⟨fun i j _ _ hi hj e => ha i j (wdC_at hi).1 (wdC_at hj).1 (by rw [← (wdC_at hi).2, ← (wdC_at hj).2]; exact e), fun k _ h => ⟨k, (wdC_at h).1, (wdC_at h).2⟩⟩
theorem wdT_D {a : Nat → Nat} (ha : ap a 3) (cI : ClassId) (S : Sc) : va_D (ow a 3) (wdT cI a S) :=
  ⟨fun i j _ _ hi hj e => ha i j (wdT_at hi).1 (wdT_at hj).1 (by rw [← (wdT_at hi).2, ← (wdT_at hj).2]; exact e), fun k _ h => ⟨k, (wdT_at h).1, (wdT_at h).2⟩⟩
def PX (D : va_G) (cB cI : ClassId) (w : Sc → va_W) (A : Nat → Prop) (bz : Nat) (S : Sc) (U : State) : Prop :=
  va_K D classes (tysB cB cI) U ∧ va_P D classes (w S) U.heap ∧ va_Z R_Prc "BRANCH_FLAGS" "[I" (.ref bz) A U U.heap ∧ va_T .int bz 4 (fun j => .int (bf j)) A U U.heap
def CX (p : Program) (m : MethodId) (c : Code) (cc : ByteArray) (nL : Nat) (s : State) (args : Array Value) (own : String) (D : va_G) (cB cI : ClassId) (w : Sc → va_W) (A : Nat → Prop) (bz : Nat) : Prop :=
  CallFix p m c cc nL s args WS own ∧ va_K D classes (tysB cB cI) s ∧ (∀ S, va_D A (w S)) ∧ va_Z R_Prc "BRANCH_FLAGS" "[I" (.ref bz) A s s.heap ∧ va_T .int bz 4 (fun j => .int (bf j)) A s s.heap
abbrev QI (D : va_G) (w : Sc → va_W) (A : Nat → Prop) (F : Int32 × Sc) : Array Value → State → Outcome → State → Prop := va_Qi (S := Sc) (fun r u => F = (r, u)) (fun u t => va_P D classes (w u) t.heap) A
abbrev QV (D : va_G) (w : Sc → va_W) (A : Nat → Prop) (F : Sc) : Array Value → State → Outcome → State → Prop := va_Qv (S := Sc) (fun u => F = u) (fun u t => va_P D classes (w u) t.heap) A
abbrev MI (l : Launch) (y : MethodName) (bytes : ByteArray) (maxL : Nat) (ret : Option FieldType) (rm : Room) (av : List Value) (D : va_G) (cB cI : ClassId) (w : Sc → va_W) (A : Nat → Prop) (bz : Nat) (S : Sc) (F : Int32 × Sc) : Prop :=
  Met l y (Cond.code y bytes maxL ret :: WS) rm (va_Pc av (PX D cB cI w A bz S)) (QI D w A F) 0 0 A
abbrev MV (l : Launch) (y : MethodName) (bytes : ByteArray) (maxL : Nat) (rm : Room) (av : List Value) (D : va_G) (cB cI : ClassId) (w : Sc → va_W) (A : Nat → Prop) (bz : Nat) (S : Sc) (F : Sc) : Prop :=
  Met l y (Cond.code y bytes maxL none :: WS) rm (va_Pc av (PX D cB cI w A bz S)) (QV D w A F) 0 0 A
section MineA
variable {p : Program} {l : Launch} {e : Env} {R : Room} {s : State} {m : MethodId} {args : Array Value} {below : List Frame} {meth : Method} {c : Code} {H : Heap} {locs : List Loc} {Q : State → Prop}
variable {cc : ByteArray} {pc nL : Nat} {ls : Array Slot} {rest : List Value} {D : va_G} {cB cI : ClassId} {w : Sc → va_W} {A : Nat → Prop} {bz : Nat} {own : String} {S : Sc}
theorem PX_blind {av : List Value} : FrameBlind (va_Pc av (PX D cB cI w A bz S)) := fun a U g mk q => by
  obtain ⟨q0, qK, qP, qZ, qT⟩ := q
  exact ⟨q0, va_K.moved (u := U) (U := U.calling g mk a) (Vm.Alike.refl U.vm) qK, qP, va_Z.moved (u := U) (U := U.calling g mk a) (Vm.Alike.refl U.vm) qZ, va_T.moved (u := U) (U := U.calling g mk a) (Vm.Alike.refl U.vm) qT⟩
theorem PX_in (X : CX p m c cc nL s args own D cB cI w A bz) (hP : va_P D classes (w S) H) (hS : va_S A s.heap H locs) {U : State} (hU : U.heap = H) (hW : s.WarmedH U.vm) : PX D cB cI w A bz S U := by
  obtain ⟨-, hK, -, hZ, hT⟩ := X
  exact ⟨va_K.moved hW.alike hK, by rw [hU]; exact hP, by rw [hU]; exact (va_Z.moved hW.alike hZ).kept hS.2.1, by rw [hU]; exact (va_T.moved hW.alike hT).kept hS.2.1⟩
theorem met_in {y : MethodName} {maxL : Nat} {ret : Option FieldType} {rm : Room} {av : List Value} {Qc : Array Value → State → Outcome → State → Prop} (own : String) (hy : plainName y.cls = true) (ho : y.cls = own) (hav : (lg_sl av).length ≤ maxL) (hD : ∀ S, va_D A (w S))
    (body : ∀ (p : Program) (e : Env) (s : State) (m : MethodId) (below : List Frame) (meth : Method) (c : Code) (ls : Array Slot), CX p m c cc maxL s av.toArray own D cB cI w A bz → meth.sig.returnType = ret → meth.locks = false → lv_has ls maxL (lv_args 0 av) → va_P D classes (w S) s.heap → va_S A s.heap s.heap [] →
      W p l e rm s m av.toArray below meth c s.heap [] 0 0 (MQ below Qc av.toArray s 0 0 A) (F0 m 0 ls [])) : Met l y (Cond.code y cc maxL ret :: WS) rm (va_Pc av (PX D cB cI w A bz S)) Qc 0 0 A := by
  refine Met.ofW (cc := cc) (maxL := maxL) (ret := ret) hy rfl ?_
  intro p e s m args below meth c s₁ B hml hv
  obtain ⟨rfl, hK, hP, hZ, hT⟩ := hv
  have hts := atoms_spec (ws := Cond.code y cc maxL ret :: WS) B.pre
  have hown : s.vm.findClass own = some m.cls := ho ▸ findClass_of_methodNamed B.named
  have hl := lv_entry av hav
  rw [lg_entry_eq]
  exact body p e s m below meth c _ ⟨⟨B.exec, B.bytes, hml, hown, fun w h => hts w (List.mem_cons_of_mem _ h)⟩, hK, hD, hZ, hT⟩ B.returns B.notSynchronized hl hP va_S.rf
theorem gt_ (X : CX p m c cc nL s args own D cB cI w A bz) (hP : va_P D classes (w S) H) (q0 : Nat) {b ci : Nat} {fs : List Value} {C : String} {T : u_T} {N : Nat} (he : (w S)[q0]? = some (b, .inr (ci, fs))) (hc : classes[ci]? = some (C, T, N)) (hin : ∀ x ∈ u_ws C T N, x ∈ WS) (hT : ∀ k, k < N → (T k).1 = C) (k : Nat) (hk : k < N) {index : Nat} (hlink : Cond.fieldLink own index C (T k).2.1 (T k).2.2.1 ∈ WS) {v : Value} (hv : fs[k]? = some v) (hd : decode cc pc = .ok (.getfield index, 3))
    (kk : W p l e R s m args below meth c H locs 0 0 Q (F0 m (pc + 3) ls (v :: rest))) : W p l e R s m args below meth c H locs 0 0 Q (F0 m pc ls (.ref b :: rest)) :=
  va_get X.1.1 X.1.2.1 X.1.2.2.2.2 hin X.1.2.2.2.1 X.2.1 hP q0 he hc k hk (X.1.2.2.2.2 _ hlink) (fun x h => by rw [hT k hk] at h; exact h) hv hd kk
theorem pt_ (X : CX p m c cc nL s args own D cB cI w A bz) (hP : va_P D classes (w S) H) (hS : va_S A s.heap H locs) (q0 : Nat) {b ci : Nat} {fs : List Value} {C : String} {T : u_T} {N : Nat} (he : (w S)[q0]? = some (b, .inr (ci, fs))) (hc : classes[ci]? = some (C, T, N)) (hin : ∀ x ∈ u_ws C T N, x ∈ WS) (hT : ∀ k, k < N → (T k).1 = C) (ty : Nat → FieldType) (hty : ∀ k, k < N → parseFieldDescriptor (T k).2.2.1 = some (ty k)) (hnm : ∀ a, a < N → ∀ b, b < N → a ≠ b → (T a).2.1 ≠ (T b).2.1) (hlen : fs.length = N)
    (k : Nat) (hk : k < N) {index : Nat} (hlink : Cond.fieldLink own index C (T k).2.1 (T k).2.2.1 ∈ WS) {v : Int32} {S1 : Sc} (hfin : (T k).2.2.2 = false) (hn : narrow (ty k) (.int v) = .int v) (hfit : fits (ty k) (.int v) = true) (hset : (w S).set q0 (b, .inr (ci, fs.set k (.int v))) = w S1) (hd : decode cc pc = .ok (.putfield index, 3))
    (kk : ∀ (H1 : Heap) (locs1 : List Loc), va_P D classes (w S1) H1 → va_S A s.heap H1 locs1 → W p l e R s m args below meth c H1 locs1 0 0 Q (F0 m (pc + 3) ls rest)) : W p l e R s m args below meth c H locs 0 0 Q (F0 m pc ls (.int v :: .ref b :: rest)) :=
  va_put X.1.1 X.1.2.1 X.1.2.2.2.2 hin ty hty hnm X.1.2.2.2.1 X.2.1 hP (X.2.2.1 S) hS q0 he hc k hk (X.1.2.2.2.2 _ hlink) (fun x h => by rw [hT k hk] at h; exact h) hfin (hty k hk) hn hfit (by rw [hlen]; exact hk) hd (fun H1 locs1 h1 _ h3 => kk H1 locs1 (hset ▸ h1) h3)
theorem rdb_ (X : CX p m c cc nL s args own D cB cI w A bz) (hP : va_P D classes (w S) H) (q0 : Nat) {b n : Nat} {f : Nat → Int32} (he : (w S)[q0]? = some (b, .inl (cB, n, .inl f))) {i v : Int32} (hi : vp_in i n) (hv : f i.toNatClampNeg = v) (hd : decode cc pc = .ok (.baload, 1))
    (kk : W p l e R s m args below meth c H locs 0 0 Q (F0 m (pc + 1) ls (.int v :: rest))) : W p l e R s m args below meth c H locs 0 0 Q (F0 m pc ls (.int i :: .ref b :: rest)) :=
  va_bald X.1.1 X.1.2.1 X.2.1 hP q0 0 he rfl hi hd (by rw [hv]; exact kk)
theorem rdi_ (X : CX p m c cc nL s args own D cB cI w A bz) (hP : va_P D classes (w S) H) (q0 : Nat) {b n : Nat} {f : Nat → Int32} (he : (w S)[q0]? = some (b, .inl (cI, n, .inl f))) {i v : Int32} (hi : vp_in i n) (hv : f i.toNatClampNeg = v) (hd : decode cc pc = .ok (.iaload, 1))
    (kk : W p l e R s m args below meth c H locs 0 0 Q (F0 m (pc + 1) ls (.int v :: rest))) : W p l e R s m args below meth c H locs 0 0 Q (F0 m pc ls (.int i :: .ref b :: rest)) :=
  va_iald X.1.1 X.1.2.1 X.2.1 hP q0 1 he rfl hi hd (by rw [hv]; exact kk)
theorem wrb_ (X : CX p m c cc nL s args own D cB cI w A bz) (hP : va_P D classes (w S) H) (hS : va_S A s.heap H locs) (q0 : Nat) {b n : Nat} {f : Nat → Int32} (he : (w S)[q0]? = some (b, .inl (cB, n, .inl f))) {i x : Int32} {S1 : Sc} (hi : vp_in i n) (hset : (w S).set q0 (b, .inl (cB, n, .inl (upd f i.toNatClampNeg (vp_nar .byte x)))) = w S1) (hd : decode cc pc = .ok (.bastore, 1))
    (kk : ∀ (H1 : Heap) (locs1 : List Loc), va_P D classes (w S1) H1 → va_S A s.heap H1 locs1 → W p l e R s m args below meth c H1 locs1 0 0 Q (F0 m (pc + 1) ls rest)) : W p l e R s m args below meth c H locs 0 0 Q (F0 m pc ls (.int x :: .int i :: .ref b :: rest)) :=
  va_bast X.1.1 X.1.2.1 X.2.1 hP (X.2.2.1 S) hS q0 0 he rfl hi hd (fun H1 locs1 h1 _ h3 => kk H1 locs1 (hset ▸ h1) h3)
theorem wri_ (X : CX p m c cc nL s args own D cB cI w A bz) (hP : va_P D classes (w S) H) (hS : va_S A s.heap H locs) (q0 : Nat) {b n : Nat} {f : Nat → Int32} (he : (w S)[q0]? = some (b, .inl (cI, n, .inl f))) {i x : Int32} {S1 : Sc} (hi : vp_in i n) (hset : (w S).set q0 (b, .inl (cI, n, .inl (upd f i.toNatClampNeg x))) = w S1) (hd : decode cc pc = .ok (.iastore, 1))
    (kk : ∀ (H1 : Heap) (locs1 : List Loc), va_P D classes (w S1) H1 → va_S A s.heap H1 locs1 → W p l e R s m args below meth c H1 locs1 0 0 Q (F0 m (pc + 1) ls rest)) : W p l e R s m args below meth c H locs 0 0 Q (F0 m pc ls (.int x :: .int i :: .ref b :: rest)) :=
  va_iast X.1.1 X.1.2.1 X.2.1 hP (X.2.2.1 S) hS q0 1 he rfl hi hd (fun H1 locs1 h1 _ h3 => kk H1 locs1 (hset ▸ h1) h3)
theorem gs_BRANCH_FLAGS (X : CX p m c cc nL s args own D cB cI w A bz) (hS : va_S A s.heap H locs) {index : Nat} (hlink : Cond.fieldLink own index R_Prc "BRANCH_FLAGS" "[I" ∈ WS) (hd : decode cc pc = .ok (.getstatic index, 3))
    (kk : W p l e R s m args below meth c H locs 0 0 Q (F0 m (pc + 3) ls (.ref bz :: rest))) : W p l e R s m args below meth c H locs 0 0 Q (F0 m pc ls rest) :=
  va_gets X.1.1 X.1.2.1 X.2.2.2.1 hS X.1.2.2.2.1 (X.1.2.2.2.2 _ hlink) (fun _ h => h) hd kk
theorem rs_flags (X : CX p m c cc nL s args own D cB cI w A bz) (hS : va_S A s.heap H locs) {i : Int32} (hi : vp_in i 4) (hd : decode cc pc = .ok (.iaload, 1))
    (kk : W p l e R s m args below meth c H locs 0 0 Q (F0 m (pc + 1) ls (.int (bf i.toNatClampNeg) :: rest))) : W p l e R s m args below meth c H locs 0 0 Q (F0 m pc ls (.int i :: .ref bz :: rest)) :=
  va_ti X.1.1 X.1.2.1 X.2.2.2.2 hS hi rfl hd kk
end MineA
section MineB
variable {p : Program} {l : Launch} {e : Env} {R : Room} {s : State} {m : MethodId} {args : Array Value} {below : List Frame} {meth : Method} {c : Code} {H : Heap} {locs : List Loc} {Q : State → Prop}
variable {cc : ByteArray} {pc nL : Nat} {ls : Array Slot} {rest stk As : List Value} {D : va_G} {cB cI : ClassId} {w : Sc → va_W} {A : Nat → Prop} {bz : Nat} {own C : String} {S : Sc}
variable {y : MethodName} {bytes : ByteArray} {maxL n index b ci : Nat} {ret : Option FieldType} {rm : Room} {fs : List Value} {T : u_T} {N : Nat}
theorem kwV (n : Nat) (hts : ∀ x ∈ WS, x.before args s = true) (hl : Cond.methodLink own index y ∈ WS) (hi : Cond.instanceMethod y ∈ WS) (hs : Cond.selects C y y ∈ WS) (hn : Cond.initialized C ∈ WS) (hc : Cond.code y bytes maxL ret ∈ WS) (hrc : rm.cells = 0) (hrs : rm.slots = 0)
    (hd : y.cls = C ∧ y.cls ≠ "java/lang/invoke/MethodHandle" ∧ y.cls ≠ "java/lang/invoke/VarHandle" ∧ (parseMethodDescriptor y.desc).map (fun d => d.parameters.length) = some n) (hR : rm.frames + 1 ≤ R.frames ∧ 8 + (maxL + 11) + rm.locals ≤ R.locals) :
    CallW R s args own C index y bytes maxL ret (Cond.code y bytes maxL ret :: WS) rm 0 0 n := by
  refine cwV n hts ?_ rfl hrc hrs hd hR
  intro x hx
  have key : x ∈ WS := by
    rcases List.mem_append.mp (show x ∈ ([.methodLink own index y, .instanceMethod y, .selects C y y, .initialized C] : List Cond) ++ (Cond.code y bytes maxL ret :: WS) from hx) with h | h
    · simp only [List.mem_cons, List.not_mem_nil, or_false] at h
      rcases h with rfl | rfl | rfl | rfl
      · exact hl
      · exact hi
      · exact hs
      · exact hn
    · rcases List.mem_cons.mp h with rfl | h
      · exact hc
      · exact h
  exact ⟨key, good_of_word (WS_good key)⟩
theorem kwS (n : Nat) (hts : ∀ x ∈ WS, x.before args s = true) (hl : Cond.methodLink own index y ∈ WS) (hi : Cond.static y ∈ WS) (hn : Cond.initialized y.cls ∈ WS) (hc : Cond.code y bytes maxL ret ∈ WS) (hrc : rm.cells = 0) (hrs : rm.slots = 0)
    (hd : y.cls ≠ "java/lang/invoke/MethodHandle" ∧ y.cls ≠ "java/lang/invoke/VarHandle" ∧ (parseMethodDescriptor y.desc).map (fun d => d.parameters.length) = some n) (hR : rm.frames + 1 ≤ R.frames ∧ 8 + (maxL + 11) + rm.locals ≤ R.locals) :
    CallB R s args own index y bytes maxL ret (Cond.code y bytes maxL ret :: WS) rm 0 0 n ∧ (Cond.static y).before args s = true := by
  refine va_cwS n hts ?_ rfl hrc hrs hd hR
  intro x hx
  have key : x ∈ WS := by
    rcases List.mem_append.mp (show x ∈ ([.methodLink own index y, .static y, .initialized y.cls] : List Cond) ++ (Cond.code y bytes maxL ret :: WS) from hx) with h | h
    · simp only [List.mem_cons, List.not_mem_nil, or_false] at h
      rcases h with rfl | rfl | rfl
      · exact hl
      · exact hi
      · exact hn
    · rcases List.mem_cons.mp h with rfl | h
      · exact hc
      · exact h
  exact ⟨key, good_of_word (WS_good key)⟩
theorem kv_vs (X : CX p m c cc nL s args own D cB cI w A bz) (hP : va_P D classes (w S) H) (hS : va_S A s.heap H locs) {F : Int32 × Sc} (hM : MI l y bytes maxL ret rm (.ref b :: As) D cB cI w A bz S F) (cw : CallW R s args own C index y bytes maxL ret (Cond.code y bytes maxL ret :: WS) rm 0 0 n) (q0 : Nat) (he : (w S)[q0]? = some (b, .inr (ci, fs))) (hc : classes[ci]? = some (C, T, N)) (hn : As.length = n) (hsz : ls.size = nL) (hst : stk = As.reverse ++ .ref b :: rest) (hrm : 2 * (F0 m pc ls stk).monitorRoom + (rest.map fun v => v.category).sum ≤ 8) (hd : decode cc pc = .ok (.invokevirtual index, 3))
    (kk : ∀ (r : Int32) (u : Sc) (H1 : Heap) (locs1 : List Loc), F = (r, u) → va_P D classes (w u) H1 → va_S A s.heap H1 locs1 → W p l e R s m args below meth c H1 locs1 0 0 Q (F0 m (pc + 3) ls (.int r :: rest))) : W p l e R s m args below meth c H locs 0 0 Q (F0 m pc ls stk) :=
  va_calli (va_runV X.1 hM cw ⟨PX_blind, va_recv X.2.1 hP hc he, fun U hU hW => ⟨rfl, PX_in X hP hS hU hW⟩⟩ rfl hn hsz hst hrm hd ⟨Nat.zero_le _, Nat.zero_le _⟩) hS (fun q _ h => h) (fun q h => h) (fun r u t H1 locs1 ht _ hp hb _ _ hS1 => kk r u H1 locs1 hp (by rw [← ht]; exact hb) hS1)
theorem kv_v (X : CX p m c cc nL s args own D cB cI w A bz) (hP : va_P D classes (w S) H) (hS : va_S A s.heap H locs) {f : Int32} (hM : MI l y bytes maxL ret rm (.ref b :: As) D cB cI w A bz S (f, S)) (cw : CallW R s args own C index y bytes maxL ret (Cond.code y bytes maxL ret :: WS) rm 0 0 n) (q0 : Nat) (he : (w S)[q0]? = some (b, .inr (ci, fs))) (hc : classes[ci]? = some (C, T, N)) (hn : As.length = n) (hsz : ls.size = nL) (hst : stk = As.reverse ++ .ref b :: rest) (hrm : 2 * (F0 m pc ls stk).monitorRoom + (rest.map fun v => v.category).sum ≤ 8) (hd : decode cc pc = .ok (.invokevirtual index, 3))
    (kk : ∀ (H1 : Heap) (locs1 : List Loc), va_P D classes (w S) H1 → va_S A s.heap H1 locs1 → W p l e R s m args below meth c H1 locs1 0 0 Q (F0 m (pc + 3) ls (.int f :: rest))) : W p l e R s m args below meth c H locs 0 0 Q (F0 m pc ls stk) :=
  kv_vs X hP hS hM cw q0 he hc hn hsz hst hrm hd (fun r u H1 locs1 hF hP1 hS1 => by cases hF; exact kk H1 locs1 hP1 hS1)
theorem kv_s (X : CX p m c cc nL s args own D cB cI w A bz) (hP : va_P D classes (w S) H) (hS : va_S A s.heap H locs) {F : Sc} (hM : MV l y bytes maxL rm (.ref b :: As) D cB cI w A bz S F) (cw : CallW R s args own C index y bytes maxL none (Cond.code y bytes maxL none :: WS) rm 0 0 n) (q0 : Nat) (he : (w S)[q0]? = some (b, .inr (ci, fs))) (hc : classes[ci]? = some (C, T, N)) (hn : As.length = n) (hsz : ls.size = nL) (hst : stk = As.reverse ++ .ref b :: rest) (hrm : 2 * (F0 m pc ls stk).monitorRoom + (rest.map fun v => v.category).sum ≤ 8) (hd : decode cc pc = .ok (.invokevirtual index, 3))
    (kk : ∀ (u : Sc) (H1 : Heap) (locs1 : List Loc), F = u → va_P D classes (w u) H1 → va_S A s.heap H1 locs1 → W p l e R s m args below meth c H1 locs1 0 0 Q (F0 m (pc + 3) ls rest)) : W p l e R s m args below meth c H locs 0 0 Q (F0 m pc ls stk) :=
  va_callv (va_runV X.1 hM cw ⟨PX_blind, va_recv X.2.1 hP hc he, fun U hU hW => ⟨rfl, PX_in X hP hS hU hW⟩⟩ rfl hn hsz hst hrm hd ⟨Nat.zero_le _, Nat.zero_le _⟩) hS (fun q _ h => h) (fun q h => h) (fun u t H1 locs1 ht _ hp hb _ _ hS1 => kk u H1 locs1 hp (by rw [← ht]; exact hb) hS1)
theorem ks_v (X : CX p m c cc nL s args own D cB cI w A bz) (hP : va_P D classes (w S) H) (hS : va_S A s.heap H locs) {f : Int32} (hM : MI l y bytes maxL ret rm As D cB cI w A bz S (f, S)) (cw : CallB R s args own index y bytes maxL ret (Cond.code y bytes maxL ret :: WS) rm 0 0 n ∧ (Cond.static y).before args s = true) (hn : As.length = n) (hsz : ls.size = nL) (hst : stk = As.reverse ++ rest) (hrm : 2 * (F0 m pc ls stk).monitorRoom + (rest.map fun v => v.category).sum ≤ 8) (hd : decode cc pc = .ok (.invokestatic index, 3))
    (kk : ∀ (H1 : Heap) (locs1 : List Loc), va_P D classes (w S) H1 → va_S A s.heap H1 locs1 → W p l e R s m args below meth c H1 locs1 0 0 Q (F0 m (pc + 3) ls (.int f :: rest))) : W p l e R s m args below meth c H locs 0 0 Q (F0 m pc ls stk) :=
  va_calli (va_runS X.1 hM cw ⟨PX_blind, fun U hU hW => ⟨rfl, PX_in X hP hS hU hW⟩⟩ rfl hn hsz hst hrm hd ⟨Nat.zero_le _, Nat.zero_le _⟩) hS (fun q _ h => h) (fun q h => h) (fun r u t H1 locs1 ht _ hp hb _ _ hS1 => by cases hp; exact kk H1 locs1 (by rw [← ht]; exact hb) hS1)
theorem rt_vs (X : CX p m c cc nL s args own D cB cI w A bz) (hr : meth.sig.returnType = some .int) (hk : meth.locks = false) (hP : va_P D classes (w S) H) (hS : va_S A s.heap H locs) {r : Int32} {F : Int32 × Sc} (hf : F = (r, S)) (hd : decode cc pc = .ok (.ireturn, 1)) : W p l e R s m args below meth c H locs 0 0 (MQ below (QI D w A F) args s 0 0 A) (F0 m pc ls [.int r]) :=
  W.iret X.1.1 X.1.2.1 hr (fun t ht _ => ⟨⟨r, S, rfl, hf, show va_P D classes (w S) t.heap by rw [ht]; exact hP⟩, hS.F ht⟩) hS.2.2 hd hk
theorem rt_z (X : CX p m c cc nL s args own D cB cI w A bz) (hr : meth.sig.returnType = some .boolean) (hk : meth.locks = false) (hP : va_P D classes (w S) H) (hS : va_S A s.heap H locs) {r : Int32} {F : Int32 × Sc} (hz : narrow .boolean (.int r) = .int r) (hf : F = (r, S)) (hd : decode cc pc = .ok (.ireturn, 1)) : W p l e R s m args below meth c H locs 0 0 (MQ below (QI D w A F) args s 0 0 A) (F0 m pc ls [.int r]) :=
  W.zret X.1.1 X.1.2.1 hr hz (fun t ht _ => ⟨⟨r, S, rfl, hf, show va_P D classes (w S) t.heap by rw [ht]; exact hP⟩, hS.F ht⟩) hS.2.2 hd hk
theorem rt_s (X : CX p m c cc nL s args own D cB cI w A bz) (hr : meth.sig.returnType = none) (hk : meth.locks = false) (hP : va_P D classes (w S) H) (hS : va_S A s.heap H locs) {F : Sc} (hf : F = S) (hd : decode cc pc = .ok (.return_, 1)) : W p l e R s m args below meth c H locs 0 0 (MQ below (QV D w A F) args s 0 0 A) (F0 m pc ls []) :=
  W.vret X.1.1 X.1.2.1 hr (fun t ht _ => ⟨⟨S, rfl, hf, show va_P D classes (w S) t.heap by rw [ht]; exact hP⟩, hS.F ht⟩) hS.2.2 hd hk
def swT (dflt lo hi : Int) (offs : Array Int) (k : Int) (pc tgt : Nat) : Bool := if k < lo ∨ hi < k then decide ((pc : Int) + dflt = (tgt : Int)) else match offs[(k - lo).toNat]? with
  | some off => decide ((pc : Int) + off = (tgt : Int))
  | none => false
def swL (dflt : Int) (ps : List (Int × Int)) (k : Int) (pc tgt : Nat) : Bool := (ps.zip (ps.drop 1)).all (fun (a, next) => a.1 < next.1) && decide ((pc : Int) + Op.lookupswitch.offset ps dflt k = (tgt : Int))
theorem sw_t (hx : p.tables.exec = Jvm.exec) (hb : c.code = cc) {dflt lo hi : Int} {offs : Array Int} {len : Nat} {x k : Int32} {tgt : Nat} (hd : decode cc pc = .ok (.tableswitch dflt lo hi offs, len)) (h : x = k) (hs : swT dflt lo hi offs k.toInt pc tgt = true)
    (kk : W p l e R s m args below meth c H locs 0 0 Q (F0 m tgt ls rest)) : W p l e R s m args below meth c H locs 0 0 Q (F0 m pc ls (.int x :: rest)) := by
  subst h
  unfold swT at hs
  split at hs
  · rename_i h
    exact lv_tableOut hx hb hd h (of_decide_eq_true hs) kk
  · rename_i h
    split at hs
    · rename_i off ho
      exact lv_tableIn hx hb hd (fun q => h (Or.inl q)) (fun q => h (Or.inr q)) ho (of_decide_eq_true hs) kk
    · cases hs
theorem sn_t (hx : p.tables.exec = Jvm.exec) (hb : c.code = cc) {dflt lo hi : Int} {offs : Array Int} {len : Nat} {x : Int32} {tgt : Nat} (hd : decode cc pc = .ok (.tableswitch dflt lo hi offs, len)) (h : x.toInt < lo ∨ hi < x.toInt) (ht : (pc : Int) + dflt = (tgt : Int))
    (kk : W p l e R s m args below meth c H locs 0 0 Q (F0 m tgt ls rest)) : W p l e R s m args below meth c H locs 0 0 Q (F0 m pc ls (.int x :: rest)) := lv_tableOut hx hb hd h ht kk
theorem sw_l (hx : p.tables.exec = Jvm.exec) (hb : c.code = cc) {dflt : Int} {ps : Array (Int × Int)} {len : Nat} {x k : Int32} {tgt : Nat} (hd : decode cc pc = .ok (.lookupswitch dflt ps, len)) (h : x = k) (hs : swL dflt ps.toList k.toInt pc tgt = true)
    (kk : W p l e R s m args below meth c H locs 0 0 Q (F0 m tgt ls rest)) : W p l e R s m args below meth c H locs 0 0 Q (F0 m pc ls (.int x :: rest)) := by
  subst h
  unfold swL at hs
  rw [Bool.and_eq_true] at hs
  exact lv_lookup hx hb hd hs.1 rfl (of_decide_eq_true hs.2) kk
def NK (x : Int32) : List (Int × Int) → Prop
  | [] => True
  | q :: L => ¬ x.toInt = q.1 ∧ NK x L
theorem off_none {x : Int32} {d : Int} : ∀ {L : List (Int × Int)}, NK x L → Op.lookupswitch.offset L d x.toInt = d
  | [], _ => rfl
  | (a, o) :: L, h => by
    rw [Op.lookupswitch.offset_cons, if_neg (fun q => h.1 q.symm)]
    exact off_none h.2
theorem sn_l (hx : p.tables.exec = Jvm.exec) (hb : c.code = cc) {dflt : Int} {ps : Array (Int × Int)} {len : Nat} {x : Int32} {tgt : Nat} (hd : decode cc pc = .ok (.lookupswitch dflt ps, len)) (hs : (ps.toList.zip (ps.toList.drop 1)).all (fun (a, next) => a.1 < next.1) = true) (h : NK x ps.toList) (ht : (pc : Int) + dflt = (tgt : Int))
    (kk : W p l e R s m args below meth c H locs 0 0 Q (F0 m tgt ls rest)) : W p l e R s m args below meth c H locs 0 0 Q (F0 m pc ls (.int x :: rest)) := lv_lookup hx hb hd hs (off_none h) ht kk
end MineB
theorem one_Wc : ∀ k, k < 3 → (F_Wc k).1 = R_Wc := by decide
theorem in_Wc : ∀ x ∈ u_ws R_Wc F_Wc 3, x ∈ WS := by
  intro x hx
  obtain ⟨k, hk, rfl⟩ := List.mem_map.mp hx
  have hk := List.mem_range.mp hk
  match k, hk with
  | 0, _ => exact q_226
  | 1, _ => exact q_228
  | 2, _ => exact q_230
  | k + 3, h => exact absurd h (by omega)
theorem one_Bus : ∀ k, k < 3 → (F_Bus k).1 = R_Bus := by decide
theorem in_Bus : ∀ x ∈ u_ws R_Bus F_Bus 3, x ∈ WS := by
  intro x hx
  obtain ⟨k, hk, rfl⟩ := List.mem_map.mp hx
  have hk := List.mem_range.mp hk
  match k, hk with
  | 0, _ => exact q_93
  | 1, _ => exact q_95
  | 2, _ => exact q_97
  | k + 3, h => exact absurd h (by omega)
theorem one_Reg : ∀ k, k < 9 → (F_Reg k).1 = R_Reg := by decide
theorem in_Reg : ∀ x ∈ u_ws R_Reg F_Reg 9, x ∈ WS := by
  intro x hx
  obtain ⟨k, hk, rfl⟩ := List.mem_map.mp hx
  have hk := List.mem_range.mp hk
  match k, hk with
  | 0, _ => exact q_143
  | 1, _ => exact q_145
  | 2, _ => exact q_147
  | 3, _ => exact q_149
  | 4, _ => exact q_151
  | 5, _ => exact q_153
  | 6, _ => exact q_155
  | 7, _ => exact q_157
  | 8, _ => exact q_159
  | k + 9, h => exact absurd h (by omega)
theorem one_Prc : ∀ k, k < 8 → (F_Prc k).1 = R_Prc := by decide
theorem in_Prc : ∀ x ∈ u_ws R_Prc F_Prc 8, x ∈ WS := by
  intro x hx
  obtain ⟨k, hk, rfl⟩ := List.mem_map.mp hx
  have hk := List.mem_range.mp hk
  match k, hk with
  | 0, _ => exact q_206
  | 1, _ => exact q_208
  | 2, _ => exact q_210
  | 3, _ => exact q_212
  | 4, _ => exact q_214
  | 5, _ => exact q_216
  | 6, _ => exact q_218
  | 7, _ => exact q_220
  | k + 8, h => exact absurd h (by omega)
theorem one_Opd : ∀ k, k < 2 → (F_Opd k).1 = R_Opd := by decide
theorem in_Opd : ∀ x ∈ u_ws R_Opd F_Opd 2, x ∈ WS := by
  intro x hx
  obtain ⟨k, hk, rfl⟩ := List.mem_map.mp hx
  have hk := List.mem_range.mp hk
  match k, hk with
  | 0, _ => exact q_176
  | 1, _ => exact q_178
  | k + 2, h => exact absurd h (by omega)
theorem one_Stk : ∀ k, k < 2 → (F_Stk k).1 = R_Stk := by decide
theorem in_Stk : ∀ x ∈ u_ws R_Stk F_Stk 2, x ∈ WS := by
  intro x hx
  obtain ⟨k, hk, rfl⟩ := List.mem_map.mp hx
  have hk := List.mem_range.mp hk
  match k, hk with
  | 0, _ => exact q_189
  | 1, _ => exact q_191
  | k + 2, h => exact absurd h (by omega)
theorem one_Mdl : ∀ k, k < 18 → (F_Mdl k).1 = R_Mdl := by decide
theorem in_Mdl : ∀ x ∈ u_ws R_Mdl F_Mdl 18, x ∈ WS := by
  intro x hx
  obtain ⟨k, hk, rfl⟩ := List.mem_map.mp hx
  have hk := List.mem_range.mp hk
  match k, hk with
  | 0, _ => exact q_581
  | 1, _ => exact q_583
  | 2, _ => exact q_585
  | 3, _ => exact q_587
  | 4, _ => exact q_589
  | 5, _ => exact q_591
  | 6, _ => exact q_593
  | 7, _ => exact q_595
  | 8, _ => exact q_597
  | 9, _ => exact q_599
  | 10, _ => exact q_601
  | 11, _ => exact q_603
  | 12, _ => exact q_605
  | 13, _ => exact q_607
  | 14, _ => exact q_609
  | 15, _ => exact q_611
  | 16, _ => exact q_613
  | 17, _ => exact q_615
  | k + 18, h => exact absurd h (by omega)
section MineC
variable {p : Program} {l : Launch} {e : Env} {R : Room} {s : State} {m : MethodId} {args : Array Value} {below : List Frame} {meth : Method} {c : Code} {H : Heap} {locs : List Loc} {Q : State → Prop}
variable {cc : ByteArray} {pc nL : Nat} {ls : Array Slot} {rest : List Value} {D : va_G} {cB cI : ClassId} {A : Nat → Prop} {bz : Nat} {own : String} {S : Sc} {a : Nat → Nat}
theorem gt_Wc (X : CX p m c cc nL s args own D cB cI (wdC cB cI a) A bz) (hP : va_P D classes (wdC cB cI a S) H) (k : Nat) (hk : k < 3) {index : Nat} {v : Value} (hlink : Cond.fieldLink own index R_Wc (F_Wc k).2.1 (F_Wc k).2.2.1 ∈ WS) (hv : (fs_Wc a)[k]? = some v) (hd : decode cc pc = .ok (.getfield index, 3)) (kk : W p l e R s m args below meth c H locs 0 0 Q (F0 m (pc + 3) ls (v :: rest))) : W p l e R s m args below meth c H locs 0 0 Q (F0 m pc ls (.ref (a 0) :: rest)) := gt_ X hP 0 rfl rfl in_Wc one_Wc k hk hlink hv hd kk
theorem gt_Bus (X : CX p m c cc nL s args own D cB cI (wdC cB cI a) A bz) (hP : va_P D classes (wdC cB cI a S) H) (k : Nat) (hk : k < 3) {index : Nat} {v : Value} (hlink : Cond.fieldLink own index R_Bus (F_Bus k).2.1 (F_Bus k).2.2.1 ∈ WS) (hv : (fs_Bus a S)[k]? = some v) (hd : decode cc pc = .ok (.getfield index, 3)) (kk : W p l e R s m args below meth c H locs 0 0 Q (F0 m (pc + 3) ls (v :: rest))) : W p l e R s m args below meth c H locs 0 0 Q (F0 m pc ls (.ref (a 1) :: rest)) := gt_ X hP 1 rfl rfl in_Bus one_Bus k hk hlink hv hd kk
theorem pt_Bus (X : CX p m c cc nL s args own D cB cI (wdC cB cI a) A bz) (hP : va_P D classes (wdC cB cI a S) H) (hS : va_S A s.heap H locs) (k : Nat) (hk : k < 3) {index : Nat} {v : Int32} {S1 : Sc} (hlink : Cond.fieldLink own index R_Bus (F_Bus k).2.1 (F_Bus k).2.2.1 ∈ WS) (hfin : (F_Bus k).2.2.2 = false) (hn : narrow (t_Bus k) (.int v) = .int v) (hfit : fits (t_Bus k) (.int v) = true) (hset : (wdC cB cI a S).set 1 (a 1, .inr (1, (fs_Bus a S).set k (.int v))) = wdC cB cI a S1) (hd : decode cc pc = .ok (.putfield index, 3)) (kk : ∀ (H1 : Heap) (locs1 : List Loc), va_P D classes (wdC cB cI a S1) H1 → va_S A s.heap H1 locs1 → W p l e R s m args below meth c H1 locs1 0 0 Q (F0 m (pc + 3) ls rest)) : W p l e R s m args below meth c H locs 0 0 Q (F0 m pc ls (.int v :: .ref (a 1) :: rest)) := pt_ X hP hS 1 rfl rfl in_Bus one_Bus t_Bus t_Bus_ok n_Bus rfl k hk hlink hfin hn hfit hset hd kk
theorem gt_Reg (X : CX p m c cc nL s args own D cB cI (wdC cB cI a) A bz) (hP : va_P D classes (wdC cB cI a S) H) (k : Nat) (hk : k < 9) {index : Nat} {v : Value} (hlink : Cond.fieldLink own index R_Reg (F_Reg k).2.1 (F_Reg k).2.2.1 ∈ WS) (hv : (fs_Reg S)[k]? = some v) (hd : decode cc pc = .ok (.getfield index, 3)) (kk : W p l e R s m args below meth c H locs 0 0 Q (F0 m (pc + 3) ls (v :: rest))) : W p l e R s m args below meth c H locs 0 0 Q (F0 m pc ls (.ref (a 2) :: rest)) := gt_ X hP 2 rfl rfl in_Reg one_Reg k hk hlink hv hd kk
theorem pt_Reg (X : CX p m c cc nL s args own D cB cI (wdC cB cI a) A bz) (hP : va_P D classes (wdC cB cI a S) H) (hS : va_S A s.heap H locs) (k : Nat) (hk : k < 9) {index : Nat} {v : Int32} {S1 : Sc} (hlink : Cond.fieldLink own index R_Reg (F_Reg k).2.1 (F_Reg k).2.2.1 ∈ WS) (hfin : (F_Reg k).2.2.2 = false) (hn : narrow (t_Reg k) (.int v) = .int v) (hfit : fits (t_Reg k) (.int v) = true) (hset : (wdC cB cI a S).set 2 (a 2, .inr (2, (fs_Reg S).set k (.int v))) = wdC cB cI a S1) (hd : decode cc pc = .ok (.putfield index, 3)) (kk : ∀ (H1 : Heap) (locs1 : List Loc), va_P D classes (wdC cB cI a S1) H1 → va_S A s.heap H1 locs1 → W p l e R s m args below meth c H1 locs1 0 0 Q (F0 m (pc + 3) ls rest)) : W p l e R s m args below meth c H locs 0 0 Q (F0 m pc ls (.int v :: .ref (a 2) :: rest)) := pt_ X hP hS 2 rfl rfl in_Reg one_Reg t_Reg t_Reg_ok n_Reg rfl k hk hlink hfin hn hfit hset hd kk
theorem gt_Prc (X : CX p m c cc nL s args own D cB cI (wdC cB cI a) A bz) (hP : va_P D classes (wdC cB cI a S) H) (k : Nat) (hk : k < 8) {index : Nat} {v : Value} (hlink : Cond.fieldLink own index R_Prc (F_Prc k).2.1 (F_Prc k).2.2.1 ∈ WS) (hv : (fs_Prc a S)[k]? = some v) (hd : decode cc pc = .ok (.getfield index, 3)) (kk : W p l e R s m args below meth c H locs 0 0 Q (F0 m (pc + 3) ls (v :: rest))) : W p l e R s m args below meth c H locs 0 0 Q (F0 m pc ls (.ref (a 3) :: rest)) := gt_ X hP 3 rfl rfl in_Prc one_Prc k hk hlink hv hd kk
theorem pt_Prc (X : CX p m c cc nL s args own D cB cI (wdC cB cI a) A bz) (hP : va_P D classes (wdC cB cI a S) H) (hS : va_S A s.heap H locs) (k : Nat) (hk : k < 8) {index : Nat} {v : Int32} {S1 : Sc} (hlink : Cond.fieldLink own index R_Prc (F_Prc k).2.1 (F_Prc k).2.2.1 ∈ WS) (hfin : (F_Prc k).2.2.2 = false) (hn : narrow (t_Prc k) (.int v) = .int v) (hfit : fits (t_Prc k) (.int v) = true) (hset : (wdC cB cI a S).set 3 (a 3, .inr (3, (fs_Prc a S).set k (.int v))) = wdC cB cI a S1) (hd : decode cc pc = .ok (.putfield index, 3)) (kk : ∀ (H1 : Heap) (locs1 : List Loc), va_P D classes (wdC cB cI a S1) H1 → va_S A s.heap H1 locs1 → W p l e R s m args below meth c H1 locs1 0 0 Q (F0 m (pc + 3) ls rest)) : W p l e R s m args below meth c H locs 0 0 Q (F0 m pc ls (.int v :: .ref (a 3) :: rest)) := pt_ X hP hS 3 rfl rfl in_Prc one_Prc t_Prc t_Prc_ok n_Prc rfl k hk hlink hfin hn hfit hset hd kk
theorem gt_Opd (X : CX p m c cc nL s args own D cB cI (wdC cB cI a) A bz) (hP : va_P D classes (wdC cB cI a S) H) (k : Nat) (hk : k < 2) {index : Nat} {v : Value} (hlink : Cond.fieldLink own index R_Opd (F_Opd k).2.1 (F_Opd k).2.2.1 ∈ WS) (hv : (fs_Opd a)[k]? = some v) (hd : decode cc pc = .ok (.getfield index, 3)) (kk : W p l e R s m args below meth c H locs 0 0 Q (F0 m (pc + 3) ls (v :: rest))) : W p l e R s m args below meth c H locs 0 0 Q (F0 m pc ls (.ref (a 4) :: rest)) := gt_ X hP 4 rfl rfl in_Opd one_Opd k hk hlink hv hd kk
theorem gt_Stk (X : CX p m c cc nL s args own D cB cI (wdC cB cI a) A bz) (hP : va_P D classes (wdC cB cI a S) H) (k : Nat) (hk : k < 2) {index : Nat} {v : Value} (hlink : Cond.fieldLink own index R_Stk (F_Stk k).2.1 (F_Stk k).2.2.1 ∈ WS) (hv : (fs_Opd a)[k]? = some v) (hd : decode cc pc = .ok (.getfield index, 3)) (kk : W p l e R s m args below meth c H locs 0 0 Q (F0 m (pc + 3) ls (v :: rest))) : W p l e R s m args below meth c H locs 0 0 Q (F0 m pc ls (.ref (a 5) :: rest)) := gt_ X hP 5 rfl rfl in_Stk one_Stk k hk hlink hv hd kk
theorem gt_Mdl (X : CX p m c cc nL s args own D cB cI (wdT cI a) A bz) (hP : va_P D classes (wdT cI a S) H) (k : Nat) (hk : k < 18) {index : Nat} {v : Value} (hlink : Cond.fieldLink own index R_Mdl (F_Mdl k).2.1 (F_Mdl k).2.2.1 ∈ WS) (hv : (fs_Mdl a S)[k]? = some v) (hd : decode cc pc = .ok (.getfield index, 3)) (kk : W p l e R s m args below meth c H locs 0 0 Q (F0 m (pc + 3) ls (v :: rest))) : W p l e R s m args below meth c H locs 0 0 Q (F0 m pc ls (.ref (a 0) :: rest)) := gt_ X hP 0 rfl rfl in_Mdl one_Mdl k hk hlink hv hd kk
theorem pt_Mdl (X : CX p m c cc nL s args own D cB cI (wdT cI a) A bz) (hP : va_P D classes (wdT cI a S) H) (hS : va_S A s.heap H locs) (k : Nat) (hk : k < 18) {index : Nat} {v : Int32} {S1 : Sc} (hlink : Cond.fieldLink own index R_Mdl (F_Mdl k).2.1 (F_Mdl k).2.2.1 ∈ WS) (hfin : (F_Mdl k).2.2.2 = false) (hn : narrow (t_Mdl k) (.int v) = .int v) (hfit : fits (t_Mdl k) (.int v) = true) (hset : (wdT cI a S).set 0 (a 0, .inr (6, (fs_Mdl a S).set k (.int v))) = wdT cI a S1) (hd : decode cc pc = .ok (.putfield index, 3)) (kk : ∀ (H1 : Heap) (locs1 : List Loc), va_P D classes (wdT cI a S1) H1 → va_S A s.heap H1 locs1 → W p l e R s m args below meth c H1 locs1 0 0 Q (F0 m (pc + 3) ls rest)) : W p l e R s m args below meth c H locs 0 0 Q (F0 m pc ls (.int v :: .ref (a 0) :: rest)) := pt_ X hP hS 0 rfl rfl in_Mdl one_Mdl t_Mdl t_Mdl_ok n_Mdl rfl k hk hlink hfin hn hfit hset hd kk
end MineC
abbrev rm_Wc_poke : Room := { frames := 0, cells := 0, slots := 0, locals := 0 }
abbrev rm_Wc_peek : Room := { frames := 0, cells := 0, slots := 0, locals := 0 }
abbrev rm_Wc_start : Room := { frames := 0, cells := 0, slots := 0, locals := 0 }
abbrev rm_Reg_wideIndex : Room := { frames := 0, cells := 0, slots := 0, locals := 0 }
abbrev rm_Reg_maskOf : Room := { frames := 0, cells := 0, slots := 0, locals := 0 }
abbrev rm_Reg_indexMask : Room := { frames := 1, cells := 0, slots := 0, locals := 20 }
abbrev rm_Reg_replaceP : Room := { frames := 2, cells := 0, slots := 0, locals := 40 }
abbrev rm_Wc_set : Room := { frames := 3, cells := 0, slots := 0, locals := 61 }
abbrev rm_Wc_register : Room := { frames := 0, cells := 0, slots := 0, locals := 0 }
abbrev rm_Bus_bank0Place : Room := { frames := 0, cells := 0, slots := 0, locals := 0 }
abbrev rm_Bus_cellOf : Room := { frames := 0, cells := 0, slots := 0, locals := 0 }
abbrev rm_Bus_writeByte : Room := { frames := 1, cells := 0, slots := 0, locals := 20 }
abbrev rm_Stk_pushByte : Room := { frames := 2, cells := 0, slots := 0, locals := 43 }
abbrev rm_Stk_pushWord : Room := { frames := 3, cells := 0, slots := 0, locals := 64 }
abbrev rm_Reg_putFlag : Room := { frames := 0, cells := 0, slots := 0, locals := 0 }
abbrev rm_Bus_readByte : Room := { frames := 1, cells := 0, slots := 0, locals := 20 }
abbrev rm_Bus_longPlace : Room := { frames := 0, cells := 0, slots := 0, locals := 0 }
abbrev rm_Bus_placeAfter : Room := { frames := 1, cells := 0, slots := 0, locals := 20 }
abbrev rm_Bus_readWord : Room := { frames := 2, cells := 0, slots := 0, locals := 42 }
abbrev rm_Prc_enterInterrupt : Room := { frames := 4, cells := 0, slots := 0, locals := 85 }
abbrev rm_Reg_has : Room := { frames := 0, cells := 0, slots := 0, locals := 0 }
abbrev rm_Bus_programByte : Room := { frames := 0, cells := 0, slots := 0, locals := 0 }
abbrev rm_Opd_nextByte : Room := { frames := 1, cells := 0, slots := 0, locals := 22 }
abbrev rm_Opd_isMode : Room := { frames := 0, cells := 0, slots := 0, locals := 0 }
abbrev rm_Reg_wideA : Room := { frames := 0, cells := 0, slots := 0, locals := 0 }
abbrev rm_Opd_direct : Room := { frames := 2, cells := 0, slots := 0, locals := 43 }
abbrev rm_Opd_nextWord : Room := { frames := 2, cells := 0, slots := 0, locals := 43 }
abbrev rm_Opd_inDataBank : Room := { frames := 1, cells := 0, slots := 0, locals := 20 }
abbrev rm_Opd_nextLong : Room := { frames := 2, cells := 0, slots := 0, locals := 43 }
abbrev rm_Bus_readLong : Room := { frames := 2, cells := 0, slots := 0, locals := 42 }
abbrev rm_Opd_onStack : Room := { frames := 2, cells := 0, slots := 0, locals := 43 }
abbrev rm_Opd_place : Room := { frames := 3, cells := 0, slots := 0, locals := 66 }
abbrev rm_Bus_writeValue : Room := { frames := 2, cells := 0, slots := 0, locals := 43 }
abbrev rm_Opd_nextValue : Room := { frames := 3, cells := 0, slots := 0, locals := 64 }
abbrev rm_Bus_readValue : Room := { frames := 3, cells := 0, slots := 0, locals := 64 }
abbrev rm_Reg_a : Room := { frames := 1, cells := 0, slots := 0, locals := 20 }
abbrev rm_Reg_signOf : Room := { frames := 0, cells := 0, slots := 0, locals := 0 }
abbrev rm_Reg_showResult : Room := { frames := 1, cells := 0, slots := 0, locals := 20 }
abbrev rm_Reg_loadA : Room := { frames := 2, cells := 0, slots := 0, locals := 44 }
abbrev rm_Prc_addToA : Room := { frames := 3, cells := 0, slots := 0, locals := 66 }
abbrev rm_Prc_compare : Room := { frames := 2, cells := 0, slots := 0, locals := 44 }
abbrev rm_Prc_useAccumulator : Room := { frames := 4, cells := 0, slots := 0, locals := 91 }
abbrev rm_Reg_loadX : Room := { frames := 2, cells := 0, slots := 0, locals := 44 }
abbrev rm_Reg_loadY : Room := { frames := 2, cells := 0, slots := 0, locals := 44 }
abbrev rm_Prc_useIndex : Room := { frames := 4, cells := 0, slots := 0, locals := 87 }
abbrev rm_Prc_storeZero : Room := { frames := 4, cells := 0, slots := 0, locals := 87 }
abbrev rm_Prc_changed : Room := { frames := 1, cells := 0, slots := 0, locals := 22 }
abbrev rm_Prc_changeMemory : Room := { frames := 4, cells := 0, slots := 0, locals := 87 }
abbrev rm_Prc_changeRegister : Room := { frames := 3, cells := 0, slots := 0, locals := 66 }
abbrev rm_Reg_loadD : Room := { frames := 2, cells := 0, slots := 0, locals := 44 }
abbrev rm_Reg_loadC : Room := { frames := 2, cells := 0, slots := 0, locals := 44 }
abbrev rm_Prc_transfer : Room := { frames := 3, cells := 0, slots := 0, locals := 66 }
abbrev rm_Stk_pushValue : Room := { frames := 3, cells := 0, slots := 0, locals := 64 }
abbrev rm_Prc_push : Room := { frames := 4, cells := 0, slots := 0, locals := 86 }
abbrev rm_Stk_pullByte : Room := { frames := 2, cells := 0, slots := 0, locals := 42 }
abbrev rm_Stk_pullWord : Room := { frames := 3, cells := 0, slots := 0, locals := 62 }
abbrev rm_Stk_pullValue : Room := { frames := 4, cells := 0, slots := 0, locals := 83 }
abbrev rm_Reg_loadDataBank : Room := { frames := 2, cells := 0, slots := 0, locals := 44 }
abbrev rm_Prc_pull : Room := { frames := 5, cells := 0, slots := 0, locals := 104 }
abbrev rm_Reg_jumpTo : Room := { frames := 0, cells := 0, slots := 0, locals := 0 }
abbrev rm_Prc_branch : Room := { frames := 3, cells := 0, slots := 0, locals := 64 }
abbrev rm_Reg_jumpLong : Room := { frames := 0, cells := 0, slots := 0, locals := 0 }
abbrev rm_Prc_jump : Room := { frames := 4, cells := 0, slots := 0, locals := 85 }
abbrev rm_Prc_changeFlags : Room := { frames := 3, cells := 0, slots := 0, locals := 61 }
abbrev rm_Prc_moveBlock : Room := { frames := 2, cells := 0, slots := 0, locals := 43 }
abbrev rm_Prc_makeStep : Room := { frames := 6, cells := 0, slots := 0, locals := 125 }
abbrev rm_Wc_stopped : Room := { frames := 0, cells := 0, slots := 0, locals := 0 }
abbrev rm_Wc_interrupt : Room := { frames := 0, cells := 0, slots := 0, locals := 0 }
abbrev rm_Wc_line : Room := { frames := 0, cells := 0, slots := 0, locals := 0 }
abbrev rm_Wc_touches : Room := { frames := 0, cells := 0, slots := 0, locals := 0 }
abbrev rm_Bus_latestTouch : Room := { frames := 0, cells := 0, slots := 0, locals := 0 }
abbrev rm_Wc_touched : Room := { frames := 1, cells := 0, slots := 0, locals := 21 }
abbrev rm_Wc_steps : Room := { frames := 0, cells := 0, slots := 0, locals := 0 }
abbrev rm_Mdl_is : Room := { frames := 0, cells := 0, slots := 0, locals := 0 }
abbrev rm_Mdl_flag : Room := { frames := 0, cells := 0, slots := 0, locals := 0 }
abbrev rm_Mdl_cell : Room := { frames := 0, cells := 0, slots := 0, locals := 0 }
abbrev rm_Mdl_touch : Room := { frames := 0, cells := 0, slots := 0, locals := 0 }
abbrev rm_Mdl_read : Room := { frames := 1, cells := 0, slots := 0, locals := 22 }
abbrev rm_Mdl_write : Room := { frames := 1, cells := 0, slots := 0, locals := 22 }
abbrev rm_Mdl_after : Room := { frames := 0, cells := 0, slots := 0, locals := 0 }
abbrev rm_Mdl_readWord : Room := { frames := 2, cells := 0, slots := 0, locals := 43 }
abbrev rm_Mdl_push : Room := { frames := 2, cells := 0, slots := 0, locals := 44 }
abbrev rm_Mdl_pushWord : Room := { frames := 3, cells := 0, slots := 0, locals := 65 }
abbrev rm_Mdl_pull : Room := { frames := 2, cells := 0, slots := 0, locals := 43 }
abbrev rm_Mdl_pullWord : Room := { frames := 3, cells := 0, slots := 0, locals := 63 }
abbrev rm_Mdl_next : Room := { frames := 1, cells := 0, slots := 0, locals := 20 }
abbrev rm_Mdl_nextWord : Room := { frames := 2, cells := 0, slots := 0, locals := 41 }
abbrev rm_Mdl_nextLong : Room := { frames := 3, cells := 0, slots := 0, locals := 62 }
abbrev rm_Mdl_accumulator : Room := { frames := 1, cells := 0, slots := 0, locals := 21 }
abbrev rm_Mdl_setAccumulator : Room := { frames := 1, cells := 0, slots := 0, locals := 21 }
abbrev rm_Mdl_cut : Room := { frames := 0, cells := 0, slots := 0, locals := 0 }
abbrev rm_Mdl_result : Room := { frames := 1, cells := 0, slots := 0, locals := 22 }
abbrev rm_Mdl_setFlags : Room := { frames := 1, cells := 0, slots := 0, locals := 21 }
abbrev rm_Mdl_direct : Room := { frames := 2, cells := 0, slots := 0, locals := 41 }
abbrev rm_Mdl_far : Room := { frames := 0, cells := 0, slots := 0, locals := 0 }
abbrev rm_Mdl_find : Room := { frames := 4, cells := 0, slots := 0, locals := 83 }
abbrev rm_Mdl_load : Room := { frames := 3, cells := 0, slots := 0, locals := 66 }
abbrev rm_Mdl_store : Room := { frames := 2, cells := 0, slots := 0, locals := 44 }
abbrev rm_Mdl_immediate : Room := { frames := 3, cells := 0, slots := 0, locals := 62 }
abbrev rm_Mdl_add : Room := { frames := 2, cells := 0, slots := 0, locals := 45 }
abbrev rm_Mdl_compare : Room := { frames := 2, cells := 0, slots := 0, locals := 45 }
abbrev rm_Mdl_arithmetic : Room := { frames := 5, cells := 0, slots := 0, locals := 106 }
abbrev rm_Mdl_changed : Room := { frames := 2, cells := 0, slots := 0, locals := 45 }
abbrev rm_Mdl_changeMemory : Room := { frames := 4, cells := 0, slots := 0, locals := 87 }
abbrev rm_Mdl_change : Room := { frames := 5, cells := 0, slots := 0, locals := 110 }
abbrev rm_Mdl_findIndex : Room := { frames := 3, cells := 0, slots := 0, locals := 62 }
abbrev rm_Mdl_indexOperand : Room := { frames := 4, cells := 0, slots := 0, locals := 87 }
abbrev rm_Mdl_storeAt : Room := { frames := 4, cells := 0, slots := 0, locals := 83 }
abbrev rm_Mdl_index : Room := { frames := 5, cells := 0, slots := 0, locals := 108 }
abbrev rm_Mdl_transfer : Room := { frames := 2, cells := 0, slots := 0, locals := 45 }
abbrev rm_Mdl_pushOf : Room := { frames := 4, cells := 0, slots := 0, locals := 86 }
abbrev rm_Mdl_pullOf : Room := { frames := 4, cells := 0, slots := 0, locals := 84 }
abbrev rm_Mdl_stack : Room := { frames := 5, cells := 0, slots := 0, locals := 108 }
abbrev rm_Mdl_branch : Room := { frames := 2, cells := 0, slots := 0, locals := 41 }
abbrev rm_Mdl_call : Room := { frames := 4, cells := 0, slots := 0, locals := 86 }
abbrev rm_Mdl_interruptFrom : Room := { frames := 4, cells := 0, slots := 0, locals := 86 }
abbrev rm_Mdl_longJump : Room := { frames := 5, cells := 0, slots := 0, locals := 107 }
abbrev rm_Mdl_jump : Room := { frames := 6, cells := 0, slots := 0, locals := 129 }
abbrev rm_Mdl_moveBlock : Room := { frames := 2, cells := 0, slots := 0, locals := 44 }
abbrev rm_Mdl_other : Room := { frames := 3, cells := 0, slots := 0, locals := 69 }
abbrev rm_Mdl_step : Room := { frames := 7, cells := 0, slots := 0, locals := 151 }
abbrev rm_Mdl_poke : Room := { frames := 0, cells := 0, slots := 0, locals := 0 }
abbrev rm_Mdl_peek : Room := { frames := 0, cells := 0, slots := 0, locals := 0 }
abbrev rm_Mdl_start : Room := { frames := 0, cells := 0, slots := 0, locals := 0 }
abbrev rm_Mdl_set : Room := { frames := 2, cells := 0, slots := 0, locals := 42 }
abbrev rm_Mdl_register : Room := { frames := 0, cells := 0, slots := 0, locals := 0 }
abbrev rm_Mdl_stopped : Room := { frames := 0, cells := 0, slots := 0, locals := 0 }
abbrev rm_Mdl_interrupt : Room := { frames := 0, cells := 0, slots := 0, locals := 0 }
abbrev rm_Mdl_line : Room := { frames := 0, cells := 0, slots := 0, locals := 0 }
abbrev rm_Mdl_touches : Room := { frames := 0, cells := 0, slots := 0, locals := 0 }
abbrev rm_Mdl_touched : Room := { frames := 0, cells := 0, slots := 0, locals := 0 }
abbrev rm_Mdl_steps : Room := { frames := 0, cells := 0, slots := 0, locals := 0 }
theorem kw_Wc_poke {R : Room} {s : State} {args : Array Value} {own : String} {index : Nat} (hts : ∀ x ∈ WS, x.before args s = true) (hl : Cond.methodLink own index y_Wc_poke ∈ WS) (hR : rm_Wc_poke.frames + 1 ≤ R.frames ∧ 8 + (5 + 11) + rm_Wc_poke.locals ≤ R.locals) : CallW R s args own R_Wc index y_Wc_poke b_Wc_poke 5 (some .boolean) (Cond.code y_Wc_poke b_Wc_poke 5 (some .boolean) :: WS) rm_Wc_poke 0 0 3 := kwV 3 hts hl q_234 q_235 q_67 q_236 rfl rfl ⟨rfl, by decide +kernel, by decide +kernel, by decide +kernel⟩ hR
theorem kw_Wc_peek {R : Room} {s : State} {args : Array Value} {own : String} {index : Nat} (hts : ∀ x ∈ WS, x.before args s = true) (hl : Cond.methodLink own index y_Wc_peek ∈ WS) (hR : rm_Wc_peek.frames + 1 ≤ R.frames ∧ 8 + (2 + 11) + rm_Wc_peek.locals ≤ R.locals) : CallW R s args own R_Wc index y_Wc_peek b_Wc_peek 2 (some .int) (Cond.code y_Wc_peek b_Wc_peek 2 (some .int) :: WS) rm_Wc_peek 0 0 1 := kwV 1 hts hl q_238 q_239 q_67 q_240 rfl rfl ⟨rfl, by decide +kernel, by decide +kernel, by decide +kernel⟩ hR
theorem kw_Wc_start {R : Room} {s : State} {args : Array Value} {own : String} {index : Nat} (hts : ∀ x ∈ WS, x.before args s = true) (hl : Cond.methodLink own index y_Wc_start ∈ WS) (hR : rm_Wc_start.frames + 1 ≤ R.frames ∧ 8 + (3 + 11) + rm_Wc_start.locals ≤ R.locals) : CallW R s args own R_Wc index y_Wc_start b_Wc_start 3 (some .boolean) (Cond.code y_Wc_start b_Wc_start 3 (some .boolean) :: WS) rm_Wc_start 0 0 2 := kwV 2 hts hl q_242 q_243 q_67 q_244 rfl rfl ⟨rfl, by decide +kernel, by decide +kernel, by decide +kernel⟩ hR
theorem kw_Reg_wideIndex {R : Room} {s : State} {args : Array Value} {own : String} {index : Nat} (hts : ∀ x ∈ WS, x.before args s = true) (hl : Cond.methodLink own index y_Reg_wideIndex ∈ WS) (hR : rm_Reg_wideIndex.frames + 1 ≤ R.frames ∧ 8 + (1 + 11) + rm_Reg_wideIndex.locals ≤ R.locals) : CallW R s args own R_Reg index y_Reg_wideIndex b_Reg_wideIndex 1 (some .boolean) (Cond.code y_Reg_wideIndex b_Reg_wideIndex 1 (some .boolean) :: WS) rm_Reg_wideIndex 0 0 0 := kwV 0 hts hl q_255 q_256 q_69 q_257 rfl rfl ⟨rfl, by decide +kernel, by decide +kernel, by decide +kernel⟩ hR
theorem kw_Reg_maskOf {R : Room} {s : State} {args : Array Value} {own : String} {index : Nat} (hts : ∀ x ∈ WS, x.before args s = true) (hl : Cond.methodLink own index y_Reg_maskOf ∈ WS) (hR : rm_Reg_maskOf.frames + 1 ≤ R.frames ∧ 8 + (1 + 11) + rm_Reg_maskOf.locals ≤ R.locals) : CallB R s args own index y_Reg_maskOf b_Reg_maskOf 1 (some .int) (Cond.code y_Reg_maskOf b_Reg_maskOf 1 (some .int) :: WS) rm_Reg_maskOf 0 0 1 ∧ (Cond.static y_Reg_maskOf).before args s = true := kwS 1 hts hl q_259 q_69 q_260 rfl rfl ⟨by decide +kernel, by decide +kernel, by decide +kernel⟩ hR
theorem kw_Reg_indexMask {R : Room} {s : State} {args : Array Value} {own : String} {index : Nat} (hts : ∀ x ∈ WS, x.before args s = true) (hl : Cond.methodLink own index y_Reg_indexMask ∈ WS) (hR : rm_Reg_indexMask.frames + 1 ≤ R.frames ∧ 8 + (1 + 11) + rm_Reg_indexMask.locals ≤ R.locals) : CallW R s args own R_Reg index y_Reg_indexMask b_Reg_indexMask 1 (some .int) (Cond.code y_Reg_indexMask b_Reg_indexMask 1 (some .int) :: WS) rm_Reg_indexMask 0 0 0 := kwV 0 hts hl q_251 q_252 q_69 q_253 rfl rfl ⟨rfl, by decide +kernel, by decide +kernel, by decide +kernel⟩ hR
theorem kw_Reg_replaceP {R : Room} {s : State} {args : Array Value} {own : String} {index : Nat} (hts : ∀ x ∈ WS, x.before args s = true) (hl : Cond.methodLink own index y_Reg_replaceP ∈ WS) (hR : rm_Reg_replaceP.frames + 1 ≤ R.frames ∧ 8 + (2 + 11) + rm_Reg_replaceP.locals ≤ R.locals) : CallW R s args own R_Reg index y_Reg_replaceP b_Reg_replaceP 2 none (Cond.code y_Reg_replaceP b_Reg_replaceP 2 none :: WS) rm_Reg_replaceP 0 0 1 := kwV 1 hts hl q_263 q_264 q_69 q_265 rfl rfl ⟨rfl, by decide +kernel, by decide +kernel, by decide +kernel⟩ hR
theorem kw_Wc_set {R : Room} {s : State} {args : Array Value} {own : String} {index : Nat} (hts : ∀ x ∈ WS, x.before args s = true) (hl : Cond.methodLink own index y_Wc_set ∈ WS) (hR : rm_Wc_set.frames + 1 ≤ R.frames ∧ 8 + (3 + 11) + rm_Wc_set.locals ≤ R.locals) : CallW R s args own R_Wc index y_Wc_set b_Wc_set 3 (some .boolean) (Cond.code y_Wc_set b_Wc_set 3 (some .boolean) :: WS) rm_Wc_set 0 0 2 := kwV 2 hts hl q_247 q_248 q_67 q_249 rfl rfl ⟨rfl, by decide +kernel, by decide +kernel, by decide +kernel⟩ hR
theorem kw_Wc_register {R : Room} {s : State} {args : Array Value} {own : String} {index : Nat} (hts : ∀ x ∈ WS, x.before args s = true) (hl : Cond.methodLink own index y_Wc_register ∈ WS) (hR : rm_Wc_register.frames + 1 ≤ R.frames ∧ 8 + (2 + 11) + rm_Wc_register.locals ≤ R.locals) : CallW R s args own R_Wc index y_Wc_register b_Wc_register 2 (some .int) (Cond.code y_Wc_register b_Wc_register 2 (some .int) :: WS) rm_Wc_register 0 0 1 := kwV 1 hts hl q_268 q_269 q_67 q_270 rfl rfl ⟨rfl, by decide +kernel, by decide +kernel, by decide +kernel⟩ hR
theorem kw_Bus_bank0Place {R : Room} {s : State} {args : Array Value} {own : String} {index : Nat} (hts : ∀ x ∈ WS, x.before args s = true) (hl : Cond.methodLink own index y_Bus_bank0Place ∈ WS) (hR : rm_Bus_bank0Place.frames + 1 ≤ R.frames ∧ 8 + (1 + 11) + rm_Bus_bank0Place.locals ≤ R.locals) : CallB R s args own index y_Bus_bank0Place b_Bus_bank0Place 1 (some .int) (Cond.code y_Bus_bank0Place b_Bus_bank0Place 1 (some .int) :: WS) rm_Bus_bank0Place 0 0 1 ∧ (Cond.static y_Bus_bank0Place).before args s = true := kwS 1 hts hl q_288 q_68 q_289 rfl rfl ⟨by decide +kernel, by decide +kernel, by decide +kernel⟩ hR
theorem kw_Bus_cellOf {R : Room} {s : State} {args : Array Value} {own : String} {index : Nat} (hts : ∀ x ∈ WS, x.before args s = true) (hl : Cond.methodLink own index y_Bus_cellOf ∈ WS) (hR : rm_Bus_cellOf.frames + 1 ≤ R.frames ∧ 8 + (1 + 11) + rm_Bus_cellOf.locals ≤ R.locals) : CallB R s args own index y_Bus_cellOf b_Bus_cellOf 1 (some .int) (Cond.code y_Bus_cellOf b_Bus_cellOf 1 (some .int) :: WS) rm_Bus_cellOf 0 0 1 ∧ (Cond.static y_Bus_cellOf).before args s = true := kwS 1 hts hl q_297 q_68 q_298 rfl rfl ⟨by decide +kernel, by decide +kernel, by decide +kernel⟩ hR
theorem kw_Bus_writeByte {R : Room} {s : State} {args : Array Value} {own : String} {index : Nat} (hts : ∀ x ∈ WS, x.before args s = true) (hl : Cond.methodLink own index y_Bus_writeByte ∈ WS) (hR : rm_Bus_writeByte.frames + 1 ≤ R.frames ∧ 8 + (4 + 11) + rm_Bus_writeByte.locals ≤ R.locals) : CallW R s args own R_Bus index y_Bus_writeByte b_Bus_writeByte 4 none (Cond.code y_Bus_writeByte b_Bus_writeByte 4 none :: WS) rm_Bus_writeByte 0 0 2 := kwV 2 hts hl q_293 q_294 q_68 q_295 rfl rfl ⟨rfl, by decide +kernel, by decide +kernel, by decide +kernel⟩ hR
theorem kw_Stk_pushByte {R : Room} {s : State} {args : Array Value} {own : String} {index : Nat} (hts : ∀ x ∈ WS, x.before args s = true) (hl : Cond.methodLink own index y_Stk_pushByte ∈ WS) (hR : rm_Stk_pushByte.frames + 1 ≤ R.frames ∧ 8 + (2 + 11) + rm_Stk_pushByte.locals ≤ R.locals) : CallW R s args own R_Stk index y_Stk_pushByte b_Stk_pushByte 2 none (Cond.code y_Stk_pushByte b_Stk_pushByte 2 none :: WS) rm_Stk_pushByte 0 0 1 := kwV 1 hts hl q_284 q_285 q_72 q_286 rfl rfl ⟨rfl, by decide +kernel, by decide +kernel, by decide +kernel⟩ hR
theorem kw_Stk_pushWord {R : Room} {s : State} {args : Array Value} {own : String} {index : Nat} (hts : ∀ x ∈ WS, x.before args s = true) (hl : Cond.methodLink own index y_Stk_pushWord ∈ WS) (hR : rm_Stk_pushWord.frames + 1 ≤ R.frames ∧ 8 + (2 + 11) + rm_Stk_pushWord.locals ≤ R.locals) : CallW R s args own R_Stk index y_Stk_pushWord b_Stk_pushWord 2 none (Cond.code y_Stk_pushWord b_Stk_pushWord 2 none :: WS) rm_Stk_pushWord 0 0 1 := kwV 1 hts hl q_301 q_302 q_72 q_303 rfl rfl ⟨rfl, by decide +kernel, by decide +kernel, by decide +kernel⟩ hR
theorem kw_Reg_putFlag {R : Room} {s : State} {args : Array Value} {own : String} {index : Nat} (hts : ∀ x ∈ WS, x.before args s = true) (hl : Cond.methodLink own index y_Reg_putFlag ∈ WS) (hR : rm_Reg_putFlag.frames + 1 ≤ R.frames ∧ 8 + (3 + 11) + rm_Reg_putFlag.locals ≤ R.locals) : CallW R s args own R_Reg index y_Reg_putFlag b_Reg_putFlag 3 none (Cond.code y_Reg_putFlag b_Reg_putFlag 3 none :: WS) rm_Reg_putFlag 0 0 2 := kwV 2 hts hl q_306 q_307 q_69 q_308 rfl rfl ⟨rfl, by decide +kernel, by decide +kernel, by decide +kernel⟩ hR
theorem kw_Bus_readByte {R : Room} {s : State} {args : Array Value} {own : String} {index : Nat} (hts : ∀ x ∈ WS, x.before args s = true) (hl : Cond.methodLink own index y_Bus_readByte ∈ WS) (hR : rm_Bus_readByte.frames + 1 ≤ R.frames ∧ 8 + (3 + 11) + rm_Bus_readByte.locals ≤ R.locals) : CallW R s args own R_Bus index y_Bus_readByte b_Bus_readByte 3 (some .int) (Cond.code y_Bus_readByte b_Bus_readByte 3 (some .int) :: WS) rm_Bus_readByte 0 0 1 := kwV 1 hts hl q_315 q_316 q_68 q_317 rfl rfl ⟨rfl, by decide +kernel, by decide +kernel, by decide +kernel⟩ hR
theorem kw_Bus_longPlace {R : Room} {s : State} {args : Array Value} {own : String} {index : Nat} (hts : ∀ x ∈ WS, x.before args s = true) (hl : Cond.methodLink own index y_Bus_longPlace ∈ WS) (hR : rm_Bus_longPlace.frames + 1 ≤ R.frames ∧ 8 + (1 + 11) + rm_Bus_longPlace.locals ≤ R.locals) : CallB R s args own index y_Bus_longPlace b_Bus_longPlace 1 (some .int) (Cond.code y_Bus_longPlace b_Bus_longPlace 1 (some .int) :: WS) rm_Bus_longPlace 0 0 1 ∧ (Cond.static y_Bus_longPlace).before args s = true := kwS 1 hts hl q_323 q_68 q_324 rfl rfl ⟨by decide +kernel, by decide +kernel, by decide +kernel⟩ hR
theorem kw_Bus_placeAfter {R : Room} {s : State} {args : Array Value} {own : String} {index : Nat} (hts : ∀ x ∈ WS, x.before args s = true) (hl : Cond.methodLink own index y_Bus_placeAfter ∈ WS) (hR : rm_Bus_placeAfter.frames + 1 ≤ R.frames ∧ 8 + (1 + 11) + rm_Bus_placeAfter.locals ≤ R.locals) : CallB R s args own index y_Bus_placeAfter b_Bus_placeAfter 1 (some .int) (Cond.code y_Bus_placeAfter b_Bus_placeAfter 1 (some .int) :: WS) rm_Bus_placeAfter 0 0 1 ∧ (Cond.static y_Bus_placeAfter).before args s = true := kwS 1 hts hl q_319 q_68 q_320 rfl rfl ⟨by decide +kernel, by decide +kernel, by decide +kernel⟩ hR
theorem kw_Bus_readWord {R : Room} {s : State} {args : Array Value} {own : String} {index : Nat} (hts : ∀ x ∈ WS, x.before args s = true) (hl : Cond.methodLink own index y_Bus_readWord ∈ WS) (hR : rm_Bus_readWord.frames + 1 ≤ R.frames ∧ 8 + (3 + 11) + rm_Bus_readWord.locals ≤ R.locals) : CallW R s args own R_Bus index y_Bus_readWord b_Bus_readWord 3 (some .int) (Cond.code y_Bus_readWord b_Bus_readWord 3 (some .int) :: WS) rm_Bus_readWord 0 0 1 := kwV 1 hts hl q_311 q_312 q_68 q_313 rfl rfl ⟨rfl, by decide +kernel, by decide +kernel, by decide +kernel⟩ hR
theorem kw_Prc_enterInterrupt {R : Room} {s : State} {args : Array Value} {own : String} {index : Nat} (hts : ∀ x ∈ WS, x.before args s = true) (hl : Cond.methodLink own index y_Prc_enterInterrupt ∈ WS) (hR : rm_Prc_enterInterrupt.frames + 1 ≤ R.frames ∧ 8 + (2 + 11) + rm_Prc_enterInterrupt.locals ≤ R.locals) : CallW R s args own R_Prc index y_Prc_enterInterrupt b_Prc_enterInterrupt 2 none (Cond.code y_Prc_enterInterrupt b_Prc_enterInterrupt 2 none :: WS) rm_Prc_enterInterrupt 0 0 1 := kwV 1 hts hl q_281 q_0 q_70 q_282 rfl rfl ⟨rfl, by decide +kernel, by decide +kernel, by decide +kernel⟩ hR
theorem kw_Reg_has {R : Room} {s : State} {args : Array Value} {own : String} {index : Nat} (hts : ∀ x ∈ WS, x.before args s = true) (hl : Cond.methodLink own index y_Reg_has ∈ WS) (hR : rm_Reg_has.frames + 1 ≤ R.frames ∧ 8 + (2 + 11) + rm_Reg_has.locals ≤ R.locals) : CallW R s args own R_Reg index y_Reg_has b_Reg_has 2 (some .boolean) (Cond.code y_Reg_has b_Reg_has 2 (some .boolean) :: WS) rm_Reg_has 0 0 1 := kwV 1 hts hl q_327 q_328 q_69 q_329 rfl rfl ⟨rfl, by decide +kernel, by decide +kernel, by decide +kernel⟩ hR
theorem kw_Bus_programByte {R : Room} {s : State} {args : Array Value} {own : String} {index : Nat} (hts : ∀ x ∈ WS, x.before args s = true) (hl : Cond.methodLink own index y_Bus_programByte ∈ WS) (hR : rm_Bus_programByte.frames + 1 ≤ R.frames ∧ 8 + (3 + 11) + rm_Bus_programByte.locals ≤ R.locals) : CallW R s args own R_Bus index y_Bus_programByte b_Bus_programByte 3 (some .int) (Cond.code y_Bus_programByte b_Bus_programByte 3 (some .int) :: WS) rm_Bus_programByte 0 0 2 := kwV 2 hts hl q_335 q_336 q_68 q_337 rfl rfl ⟨rfl, by decide +kernel, by decide +kernel, by decide +kernel⟩ hR
theorem kw_Opd_nextByte {R : Room} {s : State} {args : Array Value} {own : String} {index : Nat} (hts : ∀ x ∈ WS, x.before args s = true) (hl : Cond.methodLink own index y_Opd_nextByte ∈ WS) (hR : rm_Opd_nextByte.frames + 1 ≤ R.frames ∧ 8 + (2 + 11) + rm_Opd_nextByte.locals ≤ R.locals) : CallW R s args own R_Opd index y_Opd_nextByte b_Opd_nextByte 2 (some .int) (Cond.code y_Opd_nextByte b_Opd_nextByte 2 (some .int) :: WS) rm_Opd_nextByte 0 0 0 := kwV 0 hts hl q_331 q_332 q_71 q_333 rfl rfl ⟨rfl, by decide +kernel, by decide +kernel, by decide +kernel⟩ hR
theorem kw_Opd_isMode {R : Room} {s : State} {args : Array Value} {own : String} {index : Nat} (hts : ∀ x ∈ WS, x.before args s = true) (hl : Cond.methodLink own index y_Opd_isMode ∈ WS) (hR : rm_Opd_isMode.frames + 1 ≤ R.frames ∧ 8 + (1 + 11) + rm_Opd_isMode.locals ≤ R.locals) : CallB R s args own index y_Opd_isMode b_Opd_isMode 1 (some .boolean) (Cond.code y_Opd_isMode b_Opd_isMode 1 (some .boolean) :: WS) rm_Opd_isMode 0 0 1 ∧ (Cond.static y_Opd_isMode).before args s = true := kwS 1 hts hl q_344 q_71 q_345 rfl rfl ⟨by decide +kernel, by decide +kernel, by decide +kernel⟩ hR
theorem kw_Reg_wideA {R : Room} {s : State} {args : Array Value} {own : String} {index : Nat} (hts : ∀ x ∈ WS, x.before args s = true) (hl : Cond.methodLink own index y_Reg_wideA ∈ WS) (hR : rm_Reg_wideA.frames + 1 ≤ R.frames ∧ 8 + (1 + 11) + rm_Reg_wideA.locals ≤ R.locals) : CallW R s args own R_Reg index y_Reg_wideA b_Reg_wideA 1 (some .boolean) (Cond.code y_Reg_wideA b_Reg_wideA 1 (some .boolean) :: WS) rm_Reg_wideA 0 0 0 := kwV 0 hts hl q_347 q_348 q_69 q_349 rfl rfl ⟨rfl, by decide +kernel, by decide +kernel, by decide +kernel⟩ hR
theorem kw_Opd_direct {R : Room} {s : State} {args : Array Value} {own : String} {index : Nat} (hts : ∀ x ∈ WS, x.before args s = true) (hl : Cond.methodLink own index y_Opd_direct ∈ WS) (hR : rm_Opd_direct.frames + 1 ≤ R.frames ∧ 8 + (2 + 11) + rm_Opd_direct.locals ≤ R.locals) : CallW R s args own R_Opd index y_Opd_direct b_Opd_direct 2 (some .int) (Cond.code y_Opd_direct b_Opd_direct 2 (some .int) :: WS) rm_Opd_direct 0 0 1 := kwV 1 hts hl q_356 q_2 q_71 q_357 rfl rfl ⟨rfl, by decide +kernel, by decide +kernel, by decide +kernel⟩ hR
theorem kw_Opd_nextWord {R : Room} {s : State} {args : Array Value} {own : String} {index : Nat} (hts : ∀ x ∈ WS, x.before args s = true) (hl : Cond.methodLink own index y_Opd_nextWord ∈ WS) (hR : rm_Opd_nextWord.frames + 1 ≤ R.frames ∧ 8 + (2 + 11) + rm_Opd_nextWord.locals ≤ R.locals) : CallW R s args own R_Opd index y_Opd_nextWord b_Opd_nextWord 2 (some .int) (Cond.code y_Opd_nextWord b_Opd_nextWord 2 (some .int) :: WS) rm_Opd_nextWord 0 0 0 := kwV 0 hts hl q_361 q_362 q_71 q_363 rfl rfl ⟨rfl, by decide +kernel, by decide +kernel, by decide +kernel⟩ hR
theorem kw_Opd_inDataBank {R : Room} {s : State} {args : Array Value} {own : String} {index : Nat} (hts : ∀ x ∈ WS, x.before args s = true) (hl : Cond.methodLink own index y_Opd_inDataBank ∈ WS) (hR : rm_Opd_inDataBank.frames + 1 ≤ R.frames ∧ 8 + (3 + 11) + rm_Opd_inDataBank.locals ≤ R.locals) : CallW R s args own R_Opd index y_Opd_inDataBank b_Opd_inDataBank 3 (some .int) (Cond.code y_Opd_inDataBank b_Opd_inDataBank 3 (some .int) :: WS) rm_Opd_inDataBank 0 0 2 := kwV 2 hts hl q_366 q_3 q_71 q_367 rfl rfl ⟨rfl, by decide +kernel, by decide +kernel, by decide +kernel⟩ hR
theorem kw_Opd_nextLong {R : Room} {s : State} {args : Array Value} {own : String} {index : Nat} (hts : ∀ x ∈ WS, x.before args s = true) (hl : Cond.methodLink own index y_Opd_nextLong ∈ WS) (hR : rm_Opd_nextLong.frames + 1 ≤ R.frames ∧ 8 + (3 + 11) + rm_Opd_nextLong.locals ≤ R.locals) : CallW R s args own R_Opd index y_Opd_nextLong b_Opd_nextLong 3 (some .int) (Cond.code y_Opd_nextLong b_Opd_nextLong 3 (some .int) :: WS) rm_Opd_nextLong 0 0 0 := kwV 0 hts hl q_370 q_371 q_71 q_372 rfl rfl ⟨rfl, by decide +kernel, by decide +kernel, by decide +kernel⟩ hR
theorem kw_Bus_readLong {R : Room} {s : State} {args : Array Value} {own : String} {index : Nat} (hts : ∀ x ∈ WS, x.before args s = true) (hl : Cond.methodLink own index y_Bus_readLong ∈ WS) (hR : rm_Bus_readLong.frames + 1 ≤ R.frames ∧ 8 + (5 + 11) + rm_Bus_readLong.locals ≤ R.locals) : CallW R s args own R_Bus index y_Bus_readLong b_Bus_readLong 5 (some .int) (Cond.code y_Bus_readLong b_Bus_readLong 5 (some .int) :: WS) rm_Bus_readLong 0 0 1 := kwV 1 hts hl q_375 q_376 q_68 q_377 rfl rfl ⟨rfl, by decide +kernel, by decide +kernel, by decide +kernel⟩ hR
theorem kw_Opd_onStack {R : Room} {s : State} {args : Array Value} {own : String} {index : Nat} (hts : ∀ x ∈ WS, x.before args s = true) (hl : Cond.methodLink own index y_Opd_onStack ∈ WS) (hR : rm_Opd_onStack.frames + 1 ≤ R.frames ∧ 8 + (1 + 11) + rm_Opd_onStack.locals ≤ R.locals) : CallW R s args own R_Opd index y_Opd_onStack b_Opd_onStack 1 (some .int) (Cond.code y_Opd_onStack b_Opd_onStack 1 (some .int) :: WS) rm_Opd_onStack 0 0 0 := kwV 0 hts hl q_380 q_4 q_71 q_381 rfl rfl ⟨rfl, by decide +kernel, by decide +kernel, by decide +kernel⟩ hR
theorem kw_Opd_place {R : Room} {s : State} {args : Array Value} {own : String} {index : Nat} (hts : ∀ x ∈ WS, x.before args s = true) (hl : Cond.methodLink own index y_Opd_place ∈ WS) (hR : rm_Opd_place.frames + 1 ≤ R.frames ∧ 8 + (2 + 11) + rm_Opd_place.locals ≤ R.locals) : CallW R s args own R_Opd index y_Opd_place b_Opd_place 2 (some .int) (Cond.code y_Opd_place b_Opd_place 2 (some .int) :: WS) rm_Opd_place 0 0 1 := kwV 1 hts hl q_351 q_352 q_71 q_353 rfl rfl ⟨rfl, by decide +kernel, by decide +kernel, by decide +kernel⟩ hR
theorem kw_Bus_writeValue {R : Room} {s : State} {args : Array Value} {own : String} {index : Nat} (hts : ∀ x ∈ WS, x.before args s = true) (hl : Cond.methodLink own index y_Bus_writeValue ∈ WS) (hR : rm_Bus_writeValue.frames + 1 ≤ R.frames ∧ 8 + (4 + 11) + rm_Bus_writeValue.locals ≤ R.locals) : CallW R s args own R_Bus index y_Bus_writeValue b_Bus_writeValue 4 none (Cond.code y_Bus_writeValue b_Bus_writeValue 4 none :: WS) rm_Bus_writeValue 0 0 3 := kwV 3 hts hl q_383 q_384 q_68 q_385 rfl rfl ⟨rfl, by decide +kernel, by decide +kernel, by decide +kernel⟩ hR
theorem kw_Opd_nextValue {R : Room} {s : State} {args : Array Value} {own : String} {index : Nat} (hts : ∀ x ∈ WS, x.before args s = true) (hl : Cond.methodLink own index y_Opd_nextValue ∈ WS) (hR : rm_Opd_nextValue.frames + 1 ≤ R.frames ∧ 8 + (2 + 11) + rm_Opd_nextValue.locals ≤ R.locals) : CallW R s args own R_Opd index y_Opd_nextValue b_Opd_nextValue 2 (some .int) (Cond.code y_Opd_nextValue b_Opd_nextValue 2 (some .int) :: WS) rm_Opd_nextValue 0 0 1 := kwV 1 hts hl q_388 q_389 q_71 q_390 rfl rfl ⟨rfl, by decide +kernel, by decide +kernel, by decide +kernel⟩ hR
theorem kw_Bus_readValue {R : Room} {s : State} {args : Array Value} {own : String} {index : Nat} (hts : ∀ x ∈ WS, x.before args s = true) (hl : Cond.methodLink own index y_Bus_readValue ∈ WS) (hR : rm_Bus_readValue.frames + 1 ≤ R.frames ∧ 8 + (3 + 11) + rm_Bus_readValue.locals ≤ R.locals) : CallW R s args own R_Bus index y_Bus_readValue b_Bus_readValue 3 (some .int) (Cond.code y_Bus_readValue b_Bus_readValue 3 (some .int) :: WS) rm_Bus_readValue 0 0 2 := kwV 2 hts hl q_392 q_393 q_68 q_394 rfl rfl ⟨rfl, by decide +kernel, by decide +kernel, by decide +kernel⟩ hR
theorem kw_Reg_a {R : Room} {s : State} {args : Array Value} {own : String} {index : Nat} (hts : ∀ x ∈ WS, x.before args s = true) (hl : Cond.methodLink own index y_Reg_a ∈ WS) (hR : rm_Reg_a.frames + 1 ≤ R.frames ∧ 8 + (1 + 11) + rm_Reg_a.locals ≤ R.locals) : CallW R s args own R_Reg index y_Reg_a b_Reg_a 1 (some .int) (Cond.code y_Reg_a b_Reg_a 1 (some .int) :: WS) rm_Reg_a 0 0 0 := kwV 0 hts hl q_397 q_398 q_69 q_399 rfl rfl ⟨rfl, by decide +kernel, by decide +kernel, by decide +kernel⟩ hR
theorem kw_Reg_signOf {R : Room} {s : State} {args : Array Value} {own : String} {index : Nat} (hts : ∀ x ∈ WS, x.before args s = true) (hl : Cond.methodLink own index y_Reg_signOf ∈ WS) (hR : rm_Reg_signOf.frames + 1 ≤ R.frames ∧ 8 + (1 + 11) + rm_Reg_signOf.locals ≤ R.locals) : CallB R s args own index y_Reg_signOf b_Reg_signOf 1 (some .int) (Cond.code y_Reg_signOf b_Reg_signOf 1 (some .int) :: WS) rm_Reg_signOf 0 0 1 ∧ (Cond.static y_Reg_signOf).before args s = true := kwS 1 hts hl q_410 q_69 q_411 rfl rfl ⟨by decide +kernel, by decide +kernel, by decide +kernel⟩ hR
theorem kw_Reg_showResult {R : Room} {s : State} {args : Array Value} {own : String} {index : Nat} (hts : ∀ x ∈ WS, x.before args s = true) (hl : Cond.methodLink own index y_Reg_showResult ∈ WS) (hR : rm_Reg_showResult.frames + 1 ≤ R.frames ∧ 8 + (5 + 11) + rm_Reg_showResult.locals ≤ R.locals) : CallW R s args own R_Reg index y_Reg_showResult b_Reg_showResult 5 none (Cond.code y_Reg_showResult b_Reg_showResult 5 none :: WS) rm_Reg_showResult 0 0 2 := kwV 2 hts hl q_406 q_407 q_69 q_408 rfl rfl ⟨rfl, by decide +kernel, by decide +kernel, by decide +kernel⟩ hR
theorem kw_Reg_loadA {R : Room} {s : State} {args : Array Value} {own : String} {index : Nat} (hts : ∀ x ∈ WS, x.before args s = true) (hl : Cond.methodLink own index y_Reg_loadA ∈ WS) (hR : rm_Reg_loadA.frames + 1 ≤ R.frames ∧ 8 + (3 + 11) + rm_Reg_loadA.locals ≤ R.locals) : CallW R s args own R_Reg index y_Reg_loadA b_Reg_loadA 3 none (Cond.code y_Reg_loadA b_Reg_loadA 3 none :: WS) rm_Reg_loadA 0 0 1 := kwV 1 hts hl q_402 q_403 q_69 q_404 rfl rfl ⟨rfl, by decide +kernel, by decide +kernel, by decide +kernel⟩ hR
theorem kw_Prc_addToA {R : Room} {s : State} {args : Array Value} {own : String} {index : Nat} (hts : ∀ x ∈ WS, x.before args s = true) (hl : Cond.methodLink own index y_Prc_addToA ∈ WS) (hR : rm_Prc_addToA.frames + 1 ≤ R.frames ∧ 8 + (6 + 11) + rm_Prc_addToA.locals ≤ R.locals) : CallW R s args own R_Prc index y_Prc_addToA b_Prc_addToA 6 none (Cond.code y_Prc_addToA b_Prc_addToA 6 none :: WS) rm_Prc_addToA 0 0 1 := kwV 1 hts hl q_415 q_5 q_70 q_416 rfl rfl ⟨rfl, by decide +kernel, by decide +kernel, by decide +kernel⟩ hR
theorem kw_Prc_compare {R : Room} {s : State} {args : Array Value} {own : String} {index : Nat} (hts : ∀ x ∈ WS, x.before args s = true) (hl : Cond.methodLink own index y_Prc_compare ∈ WS) (hR : rm_Prc_compare.frames + 1 ≤ R.frames ∧ 8 + (4 + 11) + rm_Prc_compare.locals ≤ R.locals) : CallW R s args own R_Prc index y_Prc_compare b_Prc_compare 4 none (Cond.code y_Prc_compare b_Prc_compare 4 none :: WS) rm_Prc_compare 0 0 3 := kwV 3 hts hl q_421 q_6 q_70 q_422 rfl rfl ⟨rfl, by decide +kernel, by decide +kernel, by decide +kernel⟩ hR
theorem kw_Prc_useAccumulator {R : Room} {s : State} {args : Array Value} {own : String} {index : Nat} (hts : ∀ x ∈ WS, x.before args s = true) (hl : Cond.methodLink own index y_Prc_useAccumulator ∈ WS) (hR : rm_Prc_useAccumulator.frames + 1 ≤ R.frames ∧ 8 + (6 + 11) + rm_Prc_useAccumulator.locals ≤ R.locals) : CallW R s args own R_Prc index y_Prc_useAccumulator b_Prc_useAccumulator 6 (some .boolean) (Cond.code y_Prc_useAccumulator b_Prc_useAccumulator 6 (some .boolean) :: WS) rm_Prc_useAccumulator 0 0 1 := kwV 1 hts hl q_341 q_1 q_70 q_342 rfl rfl ⟨rfl, by decide +kernel, by decide +kernel, by decide +kernel⟩ hR
theorem kw_Reg_loadX {R : Room} {s : State} {args : Array Value} {own : String} {index : Nat} (hts : ∀ x ∈ WS, x.before args s = true) (hl : Cond.methodLink own index y_Reg_loadX ∈ WS) (hR : rm_Reg_loadX.frames + 1 ≤ R.frames ∧ 8 + (2 + 11) + rm_Reg_loadX.locals ≤ R.locals) : CallW R s args own R_Reg index y_Reg_loadX b_Reg_loadX 2 none (Cond.code y_Reg_loadX b_Reg_loadX 2 none :: WS) rm_Reg_loadX 0 0 1 := kwV 1 hts hl q_430 q_431 q_69 q_432 rfl rfl ⟨rfl, by decide +kernel, by decide +kernel, by decide +kernel⟩ hR
theorem kw_Reg_loadY {R : Room} {s : State} {args : Array Value} {own : String} {index : Nat} (hts : ∀ x ∈ WS, x.before args s = true) (hl : Cond.methodLink own index y_Reg_loadY ∈ WS) (hR : rm_Reg_loadY.frames + 1 ≤ R.frames ∧ 8 + (2 + 11) + rm_Reg_loadY.locals ≤ R.locals) : CallW R s args own R_Reg index y_Reg_loadY b_Reg_loadY 2 none (Cond.code y_Reg_loadY b_Reg_loadY 2 none :: WS) rm_Reg_loadY 0 0 1 := kwV 1 hts hl q_434 q_435 q_69 q_436 rfl rfl ⟨rfl, by decide +kernel, by decide +kernel, by decide +kernel⟩ hR
theorem kw_Prc_useIndex {R : Room} {s : State} {args : Array Value} {own : String} {index : Nat} (hts : ∀ x ∈ WS, x.before args s = true) (hl : Cond.methodLink own index y_Prc_useIndex ∈ WS) (hR : rm_Prc_useIndex.frames + 1 ≤ R.frames ∧ 8 + (3 + 11) + rm_Prc_useIndex.locals ≤ R.locals) : CallW R s args own R_Prc index y_Prc_useIndex b_Prc_useIndex 3 (some .boolean) (Cond.code y_Prc_useIndex b_Prc_useIndex 3 (some .boolean) :: WS) rm_Prc_useIndex 0 0 1 := kwV 1 hts hl q_426 q_7 q_70 q_427 rfl rfl ⟨rfl, by decide +kernel, by decide +kernel, by decide +kernel⟩ hR
theorem kw_Prc_storeZero {R : Room} {s : State} {args : Array Value} {own : String} {index : Nat} (hts : ∀ x ∈ WS, x.before args s = true) (hl : Cond.methodLink own index y_Prc_storeZero ∈ WS) (hR : rm_Prc_storeZero.frames + 1 ≤ R.frames ∧ 8 + (2 + 11) + rm_Prc_storeZero.locals ≤ R.locals) : CallW R s args own R_Prc index y_Prc_storeZero b_Prc_storeZero 2 (some .boolean) (Cond.code y_Prc_storeZero b_Prc_storeZero 2 (some .boolean) :: WS) rm_Prc_storeZero 0 0 1 := kwV 1 hts hl q_439 q_8 q_70 q_440 rfl rfl ⟨rfl, by decide +kernel, by decide +kernel, by decide +kernel⟩ hR
theorem kw_Prc_changed {R : Room} {s : State} {args : Array Value} {own : String} {index : Nat} (hts : ∀ x ∈ WS, x.before args s = true) (hl : Cond.methodLink own index y_Prc_changed ∈ WS) (hR : rm_Prc_changed.frames + 1 ≤ R.frames ∧ 8 + (7 + 11) + rm_Prc_changed.locals ≤ R.locals) : CallW R s args own R_Prc index y_Prc_changed b_Prc_changed 7 (some .int) (Cond.code y_Prc_changed b_Prc_changed 7 (some .int) :: WS) rm_Prc_changed 0 0 3 := kwV 3 hts hl q_447 q_10 q_70 q_448 rfl rfl ⟨rfl, by decide +kernel, by decide +kernel, by decide +kernel⟩ hR
theorem kw_Prc_changeMemory {R : Room} {s : State} {args : Array Value} {own : String} {index : Nat} (hts : ∀ x ∈ WS, x.before args s = true) (hl : Cond.methodLink own index y_Prc_changeMemory ∈ WS) (hR : rm_Prc_changeMemory.frames + 1 ≤ R.frames ∧ 8 + (6 + 11) + rm_Prc_changeMemory.locals ≤ R.locals) : CallW R s args own R_Prc index y_Prc_changeMemory b_Prc_changeMemory 6 (some .boolean) (Cond.code y_Prc_changeMemory b_Prc_changeMemory 6 (some .boolean) :: WS) rm_Prc_changeMemory 0 0 1 := kwV 1 hts hl q_443 q_9 q_70 q_444 rfl rfl ⟨rfl, by decide +kernel, by decide +kernel, by decide +kernel⟩ hR
theorem kw_Prc_changeRegister {R : Room} {s : State} {args : Array Value} {own : String} {index : Nat} (hts : ∀ x ∈ WS, x.before args s = true) (hl : Cond.methodLink own index y_Prc_changeRegister ∈ WS) (hR : rm_Prc_changeRegister.frames + 1 ≤ R.frames ∧ 8 + (3 + 11) + rm_Prc_changeRegister.locals ≤ R.locals) : CallW R s args own R_Prc index y_Prc_changeRegister b_Prc_changeRegister 3 (some .boolean) (Cond.code y_Prc_changeRegister b_Prc_changeRegister 3 (some .boolean) :: WS) rm_Prc_changeRegister 0 0 1 := kwV 1 hts hl q_451 q_11 q_70 q_452 rfl rfl ⟨rfl, by decide +kernel, by decide +kernel, by decide +kernel⟩ hR
theorem kw_Reg_loadD {R : Room} {s : State} {args : Array Value} {own : String} {index : Nat} (hts : ∀ x ∈ WS, x.before args s = true) (hl : Cond.methodLink own index y_Reg_loadD ∈ WS) (hR : rm_Reg_loadD.frames + 1 ≤ R.frames ∧ 8 + (2 + 11) + rm_Reg_loadD.locals ≤ R.locals) : CallW R s args own R_Reg index y_Reg_loadD b_Reg_loadD 2 none (Cond.code y_Reg_loadD b_Reg_loadD 2 none :: WS) rm_Reg_loadD 0 0 1 := kwV 1 hts hl q_458 q_459 q_69 q_460 rfl rfl ⟨rfl, by decide +kernel, by decide +kernel, by decide +kernel⟩ hR
theorem kw_Reg_loadC {R : Room} {s : State} {args : Array Value} {own : String} {index : Nat} (hts : ∀ x ∈ WS, x.before args s = true) (hl : Cond.methodLink own index y_Reg_loadC ∈ WS) (hR : rm_Reg_loadC.frames + 1 ≤ R.frames ∧ 8 + (2 + 11) + rm_Reg_loadC.locals ≤ R.locals) : CallW R s args own R_Reg index y_Reg_loadC b_Reg_loadC 2 none (Cond.code y_Reg_loadC b_Reg_loadC 2 none :: WS) rm_Reg_loadC 0 0 1 := kwV 1 hts hl q_462 q_463 q_69 q_464 rfl rfl ⟨rfl, by decide +kernel, by decide +kernel, by decide +kernel⟩ hR
theorem kw_Prc_transfer {R : Room} {s : State} {args : Array Value} {own : String} {index : Nat} (hts : ∀ x ∈ WS, x.before args s = true) (hl : Cond.methodLink own index y_Prc_transfer ∈ WS) (hR : rm_Prc_transfer.frames + 1 ≤ R.frames ∧ 8 + (2 + 11) + rm_Prc_transfer.locals ≤ R.locals) : CallW R s args own R_Prc index y_Prc_transfer b_Prc_transfer 2 (some .boolean) (Cond.code y_Prc_transfer b_Prc_transfer 2 (some .boolean) :: WS) rm_Prc_transfer 0 0 1 := kwV 1 hts hl q_455 q_12 q_70 q_456 rfl rfl ⟨rfl, by decide +kernel, by decide +kernel, by decide +kernel⟩ hR
theorem kw_Stk_pushValue {R : Room} {s : State} {args : Array Value} {own : String} {index : Nat} (hts : ∀ x ∈ WS, x.before args s = true) (hl : Cond.methodLink own index y_Stk_pushValue ∈ WS) (hR : rm_Stk_pushValue.frames + 1 ≤ R.frames ∧ 8 + (3 + 11) + rm_Stk_pushValue.locals ≤ R.locals) : CallW R s args own R_Stk index y_Stk_pushValue b_Stk_pushValue 3 none (Cond.code y_Stk_pushValue b_Stk_pushValue 3 none :: WS) rm_Stk_pushValue 0 0 2 := kwV 2 hts hl q_470 q_471 q_72 q_472 rfl rfl ⟨rfl, by decide +kernel, by decide +kernel, by decide +kernel⟩ hR
theorem kw_Prc_push {R : Room} {s : State} {args : Array Value} {own : String} {index : Nat} (hts : ∀ x ∈ WS, x.before args s = true) (hl : Cond.methodLink own index y_Prc_push ∈ WS) (hR : rm_Prc_push.frames + 1 ≤ R.frames ∧ 8 + (2 + 11) + rm_Prc_push.locals ≤ R.locals) : CallW R s args own R_Prc index y_Prc_push b_Prc_push 2 (some .boolean) (Cond.code y_Prc_push b_Prc_push 2 (some .boolean) :: WS) rm_Prc_push 0 0 1 := kwV 1 hts hl q_467 q_13 q_70 q_468 rfl rfl ⟨rfl, by decide +kernel, by decide +kernel, by decide +kernel⟩ hR
theorem kw_Stk_pullByte {R : Room} {s : State} {args : Array Value} {own : String} {index : Nat} (hts : ∀ x ∈ WS, x.before args s = true) (hl : Cond.methodLink own index y_Stk_pullByte ∈ WS) (hR : rm_Stk_pullByte.frames + 1 ≤ R.frames ∧ 8 + (1 + 11) + rm_Stk_pullByte.locals ≤ R.locals) : CallW R s args own R_Stk index y_Stk_pullByte b_Stk_pullByte 1 (some .int) (Cond.code y_Stk_pullByte b_Stk_pullByte 1 (some .int) :: WS) rm_Stk_pullByte 0 0 0 := kwV 0 hts hl q_487 q_488 q_72 q_489 rfl rfl ⟨rfl, by decide +kernel, by decide +kernel, by decide +kernel⟩ hR
theorem kw_Stk_pullWord {R : Room} {s : State} {args : Array Value} {own : String} {index : Nat} (hts : ∀ x ∈ WS, x.before args s = true) (hl : Cond.methodLink own index y_Stk_pullWord ∈ WS) (hR : rm_Stk_pullWord.frames + 1 ≤ R.frames ∧ 8 + (2 + 11) + rm_Stk_pullWord.locals ≤ R.locals) : CallW R s args own R_Stk index y_Stk_pullWord b_Stk_pullWord 2 (some .int) (Cond.code y_Stk_pullWord b_Stk_pullWord 2 (some .int) :: WS) rm_Stk_pullWord 0 0 0 := kwV 0 hts hl q_483 q_484 q_72 q_485 rfl rfl ⟨rfl, by decide +kernel, by decide +kernel, by decide +kernel⟩ hR
theorem kw_Stk_pullValue {R : Room} {s : State} {args : Array Value} {own : String} {index : Nat} (hts : ∀ x ∈ WS, x.before args s = true) (hl : Cond.methodLink own index y_Stk_pullValue ∈ WS) (hR : rm_Stk_pullValue.frames + 1 ≤ R.frames ∧ 8 + (2 + 11) + rm_Stk_pullValue.locals ≤ R.locals) : CallW R s args own R_Stk index y_Stk_pullValue b_Stk_pullValue 2 (some .int) (Cond.code y_Stk_pullValue b_Stk_pullValue 2 (some .int) :: WS) rm_Stk_pullValue 0 0 1 := kwV 1 hts hl q_479 q_480 q_72 q_481 rfl rfl ⟨rfl, by decide +kernel, by decide +kernel, by decide +kernel⟩ hR
theorem kw_Reg_loadDataBank {R : Room} {s : State} {args : Array Value} {own : String} {index : Nat} (hts : ∀ x ∈ WS, x.before args s = true) (hl : Cond.methodLink own index y_Reg_loadDataBank ∈ WS) (hR : rm_Reg_loadDataBank.frames + 1 ≤ R.frames ∧ 8 + (2 + 11) + rm_Reg_loadDataBank.locals ≤ R.locals) : CallW R s args own R_Reg index y_Reg_loadDataBank b_Reg_loadDataBank 2 none (Cond.code y_Reg_loadDataBank b_Reg_loadDataBank 2 none :: WS) rm_Reg_loadDataBank 0 0 1 := kwV 1 hts hl q_494 q_495 q_69 q_496 rfl rfl ⟨rfl, by decide +kernel, by decide +kernel, by decide +kernel⟩ hR
theorem kw_Prc_pull {R : Room} {s : State} {args : Array Value} {own : String} {index : Nat} (hts : ∀ x ∈ WS, x.before args s = true) (hl : Cond.methodLink own index y_Prc_pull ∈ WS) (hR : rm_Prc_pull.frames + 1 ≤ R.frames ∧ 8 + (2 + 11) + rm_Prc_pull.locals ≤ R.locals) : CallW R s args own R_Prc index y_Prc_pull b_Prc_pull 2 (some .boolean) (Cond.code y_Prc_pull b_Prc_pull 2 (some .boolean) :: WS) rm_Prc_pull 0 0 1 := kwV 1 hts hl q_476 q_14 q_70 q_477 rfl rfl ⟨rfl, by decide +kernel, by decide +kernel, by decide +kernel⟩ hR
theorem kw_Reg_jumpTo {R : Room} {s : State} {args : Array Value} {own : String} {index : Nat} (hts : ∀ x ∈ WS, x.before args s = true) (hl : Cond.methodLink own index y_Reg_jumpTo ∈ WS) (hR : rm_Reg_jumpTo.frames + 1 ≤ R.frames ∧ 8 + (2 + 11) + rm_Reg_jumpTo.locals ≤ R.locals) : CallW R s args own R_Reg index y_Reg_jumpTo b_Reg_jumpTo 2 none (Cond.code y_Reg_jumpTo b_Reg_jumpTo 2 none :: WS) rm_Reg_jumpTo 0 0 1 := kwV 1 hts hl q_503 q_504 q_69 q_505 rfl rfl ⟨rfl, by decide +kernel, by decide +kernel, by decide +kernel⟩ hR
theorem kw_Prc_branch {R : Room} {s : State} {args : Array Value} {own : String} {index : Nat} (hts : ∀ x ∈ WS, x.before args s = true) (hl : Cond.methodLink own index y_Prc_branch ∈ WS) (hR : rm_Prc_branch.frames + 1 ≤ R.frames ∧ 8 + (4 + 11) + rm_Prc_branch.locals ≤ R.locals) : CallW R s args own R_Prc index y_Prc_branch b_Prc_branch 4 (some .boolean) (Cond.code y_Prc_branch b_Prc_branch 4 (some .boolean) :: WS) rm_Prc_branch 0 0 1 := kwV 1 hts hl q_500 q_15 q_70 q_501 rfl rfl ⟨rfl, by decide +kernel, by decide +kernel, by decide +kernel⟩ hR
theorem kw_Reg_jumpLong {R : Room} {s : State} {args : Array Value} {own : String} {index : Nat} (hts : ∀ x ∈ WS, x.before args s = true) (hl : Cond.methodLink own index y_Reg_jumpLong ∈ WS) (hR : rm_Reg_jumpLong.frames + 1 ≤ R.frames ∧ 8 + (2 + 11) + rm_Reg_jumpLong.locals ≤ R.locals) : CallW R s args own R_Reg index y_Reg_jumpLong b_Reg_jumpLong 2 none (Cond.code y_Reg_jumpLong b_Reg_jumpLong 2 none :: WS) rm_Reg_jumpLong 0 0 1 := kwV 1 hts hl q_514 q_515 q_69 q_516 rfl rfl ⟨rfl, by decide +kernel, by decide +kernel, by decide +kernel⟩ hR
theorem kw_Prc_jump {R : Room} {s : State} {args : Array Value} {own : String} {index : Nat} (hts : ∀ x ∈ WS, x.before args s = true) (hl : Cond.methodLink own index y_Prc_jump ∈ WS) (hR : rm_Prc_jump.frames + 1 ≤ R.frames ∧ 8 + (3 + 11) + rm_Prc_jump.locals ≤ R.locals) : CallW R s args own R_Prc index y_Prc_jump b_Prc_jump 3 (some .boolean) (Cond.code y_Prc_jump b_Prc_jump 3 (some .boolean) :: WS) rm_Prc_jump 0 0 1 := kwV 1 hts hl q_510 q_16 q_70 q_511 rfl rfl ⟨rfl, by decide +kernel, by decide +kernel, by decide +kernel⟩ hR
theorem kw_Prc_changeFlags {R : Room} {s : State} {args : Array Value} {own : String} {index : Nat} (hts : ∀ x ∈ WS, x.before args s = true) (hl : Cond.methodLink own index y_Prc_changeFlags ∈ WS) (hR : rm_Prc_changeFlags.frames + 1 ≤ R.frames ∧ 8 + (2 + 11) + rm_Prc_changeFlags.locals ≤ R.locals) : CallW R s args own R_Prc index y_Prc_changeFlags b_Prc_changeFlags 2 (some .boolean) (Cond.code y_Prc_changeFlags b_Prc_changeFlags 2 (some .boolean) :: WS) rm_Prc_changeFlags 0 0 1 := kwV 1 hts hl q_520 q_17 q_70 q_521 rfl rfl ⟨rfl, by decide +kernel, by decide +kernel, by decide +kernel⟩ hR
theorem kw_Prc_moveBlock {R : Room} {s : State} {args : Array Value} {own : String} {index : Nat} (hts : ∀ x ∈ WS, x.before args s = true) (hl : Cond.methodLink own index y_Prc_moveBlock ∈ WS) (hR : rm_Prc_moveBlock.frames + 1 ≤ R.frames ∧ 8 + (6 + 11) + rm_Prc_moveBlock.locals ≤ R.locals) : CallW R s args own R_Prc index y_Prc_moveBlock b_Prc_moveBlock 6 (some .boolean) (Cond.code y_Prc_moveBlock b_Prc_moveBlock 6 (some .boolean) :: WS) rm_Prc_moveBlock 0 0 1 := kwV 1 hts hl q_524 q_18 q_70 q_525 rfl rfl ⟨rfl, by decide +kernel, by decide +kernel, by decide +kernel⟩ hR
theorem kw_Prc_makeStep {R : Room} {s : State} {args : Array Value} {own : String} {index : Nat} (hts : ∀ x ∈ WS, x.before args s = true) (hl : Cond.methodLink own index y_Prc_makeStep ∈ WS) (hR : rm_Prc_makeStep.frames + 1 ≤ R.frames ∧ 8 + (3 + 11) + rm_Prc_makeStep.locals ≤ R.locals) : CallW R s args own R_Prc index y_Prc_makeStep b_Prc_makeStep 3 none (Cond.code y_Prc_makeStep b_Prc_makeStep 3 none :: WS) rm_Prc_makeStep 0 0 0 := kwV 0 hts hl q_276 q_277 q_70 q_278 rfl rfl ⟨rfl, by decide +kernel, by decide +kernel, by decide +kernel⟩ hR
theorem kw_Wc_stopped {R : Room} {s : State} {args : Array Value} {own : String} {index : Nat} (hts : ∀ x ∈ WS, x.before args s = true) (hl : Cond.methodLink own index y_Wc_stopped ∈ WS) (hR : rm_Wc_stopped.frames + 1 ≤ R.frames ∧ 8 + (1 + 11) + rm_Wc_stopped.locals ≤ R.locals) : CallW R s args own R_Wc index y_Wc_stopped b_Wc_stopped 1 (some .boolean) (Cond.code y_Wc_stopped b_Wc_stopped 1 (some .boolean) :: WS) rm_Wc_stopped 0 0 0 := kwV 0 hts hl q_530 q_531 q_67 q_532 rfl rfl ⟨rfl, by decide +kernel, by decide +kernel, by decide +kernel⟩ hR
theorem kw_Wc_interrupt {R : Room} {s : State} {args : Array Value} {own : String} {index : Nat} (hts : ∀ x ∈ WS, x.before args s = true) (hl : Cond.methodLink own index y_Wc_interrupt ∈ WS) (hR : rm_Wc_interrupt.frames + 1 ≤ R.frames ∧ 8 + (1 + 11) + rm_Wc_interrupt.locals ≤ R.locals) : CallW R s args own R_Wc index y_Wc_interrupt b_Wc_interrupt 1 (some .boolean) (Cond.code y_Wc_interrupt b_Wc_interrupt 1 (some .boolean) :: WS) rm_Wc_interrupt 0 0 0 := kwV 0 hts hl q_534 q_535 q_67 q_536 rfl rfl ⟨rfl, by decide +kernel, by decide +kernel, by decide +kernel⟩ hR
theorem kw_Wc_line {R : Room} {s : State} {args : Array Value} {own : String} {index : Nat} (hts : ∀ x ∈ WS, x.before args s = true) (hl : Cond.methodLink own index y_Wc_line ∈ WS) (hR : rm_Wc_line.frames + 1 ≤ R.frames ∧ 8 + (2 + 11) + rm_Wc_line.locals ≤ R.locals) : CallW R s args own R_Wc index y_Wc_line b_Wc_line 2 none (Cond.code y_Wc_line b_Wc_line 2 none :: WS) rm_Wc_line 0 0 1 := kwV 1 hts hl q_538 q_539 q_67 q_540 rfl rfl ⟨rfl, by decide +kernel, by decide +kernel, by decide +kernel⟩ hR
theorem kw_Wc_touches {R : Room} {s : State} {args : Array Value} {own : String} {index : Nat} (hts : ∀ x ∈ WS, x.before args s = true) (hl : Cond.methodLink own index y_Wc_touches ∈ WS) (hR : rm_Wc_touches.frames + 1 ≤ R.frames ∧ 8 + (1 + 11) + rm_Wc_touches.locals ≤ R.locals) : CallW R s args own R_Wc index y_Wc_touches b_Wc_touches 1 (some .int) (Cond.code y_Wc_touches b_Wc_touches 1 (some .int) :: WS) rm_Wc_touches 0 0 0 := kwV 0 hts hl q_542 q_543 q_67 q_544 rfl rfl ⟨rfl, by decide +kernel, by decide +kernel, by decide +kernel⟩ hR
theorem kw_Bus_latestTouch {R : Room} {s : State} {args : Array Value} {own : String} {index : Nat} (hts : ∀ x ∈ WS, x.before args s = true) (hl : Cond.methodLink own index y_Bus_latestTouch ∈ WS) (hR : rm_Bus_latestTouch.frames + 1 ≤ R.frames ∧ 8 + (2 + 11) + rm_Bus_latestTouch.locals ≤ R.locals) : CallW R s args own R_Bus index y_Bus_latestTouch b_Bus_latestTouch 2 (some .int) (Cond.code y_Bus_latestTouch b_Bus_latestTouch 2 (some .int) :: WS) rm_Bus_latestTouch 0 0 1 := kwV 1 hts hl q_550 q_551 q_68 q_552 rfl rfl ⟨rfl, by decide +kernel, by decide +kernel, by decide +kernel⟩ hR
theorem kw_Wc_touched {R : Room} {s : State} {args : Array Value} {own : String} {index : Nat} (hts : ∀ x ∈ WS, x.before args s = true) (hl : Cond.methodLink own index y_Wc_touched ∈ WS) (hR : rm_Wc_touched.frames + 1 ≤ R.frames ∧ 8 + (2 + 11) + rm_Wc_touched.locals ≤ R.locals) : CallW R s args own R_Wc index y_Wc_touched b_Wc_touched 2 (some .int) (Cond.code y_Wc_touched b_Wc_touched 2 (some .int) :: WS) rm_Wc_touched 0 0 1 := kwV 1 hts hl q_546 q_547 q_67 q_548 rfl rfl ⟨rfl, by decide +kernel, by decide +kernel, by decide +kernel⟩ hR
theorem kw_Wc_steps {R : Room} {s : State} {args : Array Value} {own : String} {index : Nat} (hts : ∀ x ∈ WS, x.before args s = true) (hl : Cond.methodLink own index y_Wc_steps ∈ WS) (hR : rm_Wc_steps.frames + 1 ≤ R.frames ∧ 8 + (1 + 11) + rm_Wc_steps.locals ≤ R.locals) : CallW R s args own R_Wc index y_Wc_steps b_Wc_steps 1 (some .int) (Cond.code y_Wc_steps b_Wc_steps 1 (some .int) :: WS) rm_Wc_steps 0 0 0 := kwV 0 hts hl q_554 q_555 q_67 q_556 rfl rfl ⟨rfl, by decide +kernel, by decide +kernel, by decide +kernel⟩ hR
theorem kw_Mdl_is {R : Room} {s : State} {args : Array Value} {own : String} {index : Nat} (hts : ∀ x ∈ WS, x.before args s = true) (hl : Cond.methodLink own index y_Mdl_is ∈ WS) (hR : rm_Mdl_is.frames + 1 ≤ R.frames ∧ 8 + (2 + 11) + rm_Mdl_is.locals ≤ R.locals) : CallW R s args own R_Mdl index y_Mdl_is b_Mdl_is 2 (some .boolean) (Cond.code y_Mdl_is b_Mdl_is 2 (some .boolean) :: WS) rm_Mdl_is 0 0 1 := kwV 1 hts hl q_637 q_19 q_73 q_638 rfl rfl ⟨rfl, by decide +kernel, by decide +kernel, by decide +kernel⟩ hR
theorem kw_Mdl_flag {R : Room} {s : State} {args : Array Value} {own : String} {index : Nat} (hts : ∀ x ∈ WS, x.before args s = true) (hl : Cond.methodLink own index y_Mdl_flag ∈ WS) (hR : rm_Mdl_flag.frames + 1 ≤ R.frames ∧ 8 + (3 + 11) + rm_Mdl_flag.locals ≤ R.locals) : CallW R s args own R_Mdl index y_Mdl_flag b_Mdl_flag 3 none (Cond.code y_Mdl_flag b_Mdl_flag 3 none :: WS) rm_Mdl_flag 0 0 2 := kwV 2 hts hl q_684 q_28 q_73 q_685 rfl rfl ⟨rfl, by decide +kernel, by decide +kernel, by decide +kernel⟩ hR
theorem kw_Mdl_cell {R : Room} {s : State} {args : Array Value} {own : String} {index : Nat} (hts : ∀ x ∈ WS, x.before args s = true) (hl : Cond.methodLink own index y_Mdl_cell ∈ WS) (hR : rm_Mdl_cell.frames + 1 ≤ R.frames ∧ 8 + (1 + 11) + rm_Mdl_cell.locals ≤ R.locals) : CallB R s args own index y_Mdl_cell b_Mdl_cell 1 (some .int) (Cond.code y_Mdl_cell b_Mdl_cell 1 (some .int) :: WS) rm_Mdl_cell 0 0 1 ∧ (Cond.static y_Mdl_cell).before args s = true := kwS 1 hts hl q_672 q_73 q_673 rfl rfl ⟨by decide +kernel, by decide +kernel, by decide +kernel⟩ hR
theorem kw_Mdl_touch {R : Room} {s : State} {args : Array Value} {own : String} {index : Nat} (hts : ∀ x ∈ WS, x.before args s = true) (hl : Cond.methodLink own index y_Mdl_touch ∈ WS) (hR : rm_Mdl_touch.frames + 1 ≤ R.frames ∧ 8 + (3 + 11) + rm_Mdl_touch.locals ≤ R.locals) : CallW R s args own R_Mdl index y_Mdl_touch b_Mdl_touch 3 none (Cond.code y_Mdl_touch b_Mdl_touch 3 none :: WS) rm_Mdl_touch 0 0 1 := kwV 1 hts hl q_676 q_26 q_73 q_677 rfl rfl ⟨rfl, by decide +kernel, by decide +kernel, by decide +kernel⟩ hR
theorem kw_Mdl_read {R : Room} {s : State} {args : Array Value} {own : String} {index : Nat} (hts : ∀ x ∈ WS, x.before args s = true) (hl : Cond.methodLink own index y_Mdl_read ∈ WS) (hR : rm_Mdl_read.frames + 1 ≤ R.frames ∧ 8 + (2 + 11) + rm_Mdl_read.locals ≤ R.locals) : CallW R s args own R_Mdl index y_Mdl_read b_Mdl_read 2 (some .int) (Cond.code y_Mdl_read b_Mdl_read 2 (some .int) :: WS) rm_Mdl_read 0 0 1 := kwV 1 hts hl q_692 q_30 q_73 q_693 rfl rfl ⟨rfl, by decide +kernel, by decide +kernel, by decide +kernel⟩ hR
theorem kw_Mdl_write {R : Room} {s : State} {args : Array Value} {own : String} {index : Nat} (hts : ∀ x ∈ WS, x.before args s = true) (hl : Cond.methodLink own index y_Mdl_write ∈ WS) (hR : rm_Mdl_write.frames + 1 ≤ R.frames ∧ 8 + (3 + 11) + rm_Mdl_write.locals ≤ R.locals) : CallW R s args own R_Mdl index y_Mdl_write b_Mdl_write 3 none (Cond.code y_Mdl_write b_Mdl_write 3 none :: WS) rm_Mdl_write 0 0 2 := kwV 2 hts hl q_669 q_25 q_73 q_670 rfl rfl ⟨rfl, by decide +kernel, by decide +kernel, by decide +kernel⟩ hR
theorem kw_Mdl_after {R : Room} {s : State} {args : Array Value} {own : String} {index : Nat} (hts : ∀ x ∈ WS, x.before args s = true) (hl : Cond.methodLink own index y_Mdl_after ∈ WS) (hR : rm_Mdl_after.frames + 1 ≤ R.frames ∧ 8 + (3 + 11) + rm_Mdl_after.locals ≤ R.locals) : CallW R s args own R_Mdl index y_Mdl_after b_Mdl_after 3 (some .int) (Cond.code y_Mdl_after b_Mdl_after 3 (some .int) :: WS) rm_Mdl_after 0 0 2 := kwV 2 hts hl q_696 q_31 q_73 q_697 rfl rfl ⟨rfl, by decide +kernel, by decide +kernel, by decide +kernel⟩ hR
theorem kw_Mdl_readWord {R : Room} {s : State} {args : Array Value} {own : String} {index : Nat} (hts : ∀ x ∈ WS, x.before args s = true) (hl : Cond.methodLink own index y_Mdl_readWord ∈ WS) (hR : rm_Mdl_readWord.frames + 1 ≤ R.frames ∧ 8 + (4 + 11) + rm_Mdl_readWord.locals ≤ R.locals) : CallW R s args own R_Mdl index y_Mdl_readWord b_Mdl_readWord 4 (some .int) (Cond.code y_Mdl_readWord b_Mdl_readWord 4 (some .int) :: WS) rm_Mdl_readWord 0 0 2 := kwV 2 hts hl q_688 q_29 q_73 q_689 rfl rfl ⟨rfl, by decide +kernel, by decide +kernel, by decide +kernel⟩ hR
theorem kw_Mdl_push {R : Room} {s : State} {args : Array Value} {own : String} {index : Nat} (hts : ∀ x ∈ WS, x.before args s = true) (hl : Cond.methodLink own index y_Mdl_push ∈ WS) (hR : rm_Mdl_push.frames + 1 ≤ R.frames ∧ 8 + (2 + 11) + rm_Mdl_push.locals ≤ R.locals) : CallW R s args own R_Mdl index y_Mdl_push b_Mdl_push 2 none (Cond.code y_Mdl_push b_Mdl_push 2 none :: WS) rm_Mdl_push 0 0 1 := kwV 1 hts hl q_665 q_24 q_73 q_666 rfl rfl ⟨rfl, by decide +kernel, by decide +kernel, by decide +kernel⟩ hR
theorem kw_Mdl_pushWord {R : Room} {s : State} {args : Array Value} {own : String} {index : Nat} (hts : ∀ x ∈ WS, x.before args s = true) (hl : Cond.methodLink own index y_Mdl_pushWord ∈ WS) (hR : rm_Mdl_pushWord.frames + 1 ≤ R.frames ∧ 8 + (2 + 11) + rm_Mdl_pushWord.locals ≤ R.locals) : CallW R s args own R_Mdl index y_Mdl_pushWord b_Mdl_pushWord 2 none (Cond.code y_Mdl_pushWord b_Mdl_pushWord 2 none :: WS) rm_Mdl_pushWord 0 0 1 := kwV 1 hts hl q_680 q_27 q_73 q_681 rfl rfl ⟨rfl, by decide +kernel, by decide +kernel, by decide +kernel⟩ hR
theorem kw_Mdl_pull {R : Room} {s : State} {args : Array Value} {own : String} {index : Nat} (hts : ∀ x ∈ WS, x.before args s = true) (hl : Cond.methodLink own index y_Mdl_pull ∈ WS) (hR : rm_Mdl_pull.frames + 1 ≤ R.frames ∧ 8 + (1 + 11) + rm_Mdl_pull.locals ≤ R.locals) : CallW R s args own R_Mdl index y_Mdl_pull b_Mdl_pull 1 (some .int) (Cond.code y_Mdl_pull b_Mdl_pull 1 (some .int) :: WS) rm_Mdl_pull 0 0 0 := kwV 0 hts hl q_808 q_58 q_73 q_809 rfl rfl ⟨rfl, by decide +kernel, by decide +kernel, by decide +kernel⟩ hR
theorem kw_Mdl_pullWord {R : Room} {s : State} {args : Array Value} {own : String} {index : Nat} (hts : ∀ x ∈ WS, x.before args s = true) (hl : Cond.methodLink own index y_Mdl_pullWord ∈ WS) (hR : rm_Mdl_pullWord.frames + 1 ≤ R.frames ∧ 8 + (2 + 11) + rm_Mdl_pullWord.locals ≤ R.locals) : CallW R s args own R_Mdl index y_Mdl_pullWord b_Mdl_pullWord 2 (some .int) (Cond.code y_Mdl_pullWord b_Mdl_pullWord 2 (some .int) :: WS) rm_Mdl_pullWord 0 0 0 := kwV 0 hts hl q_812 q_59 q_73 q_813 rfl rfl ⟨rfl, by decide +kernel, by decide +kernel, by decide +kernel⟩ hR
theorem kw_Mdl_next {R : Room} {s : State} {args : Array Value} {own : String} {index : Nat} (hts : ∀ x ∈ WS, x.before args s = true) (hl : Cond.methodLink own index y_Mdl_next ∈ WS) (hR : rm_Mdl_next.frames + 1 ≤ R.frames ∧ 8 + (2 + 11) + rm_Mdl_next.locals ≤ R.locals) : CallW R s args own R_Mdl index y_Mdl_next b_Mdl_next 2 (some .int) (Cond.code y_Mdl_next b_Mdl_next 2 (some .int) :: WS) rm_Mdl_next 0 0 0 := kwV 0 hts hl q_702 q_32 q_73 q_703 rfl rfl ⟨rfl, by decide +kernel, by decide +kernel, by decide +kernel⟩ hR
theorem kw_Mdl_nextWord {R : Room} {s : State} {args : Array Value} {own : String} {index : Nat} (hts : ∀ x ∈ WS, x.before args s = true) (hl : Cond.methodLink own index y_Mdl_nextWord ∈ WS) (hR : rm_Mdl_nextWord.frames + 1 ≤ R.frames ∧ 8 + (2 + 11) + rm_Mdl_nextWord.locals ≤ R.locals) : CallW R s args own R_Mdl index y_Mdl_nextWord b_Mdl_nextWord 2 (some .int) (Cond.code y_Mdl_nextWord b_Mdl_nextWord 2 (some .int) :: WS) rm_Mdl_nextWord 0 0 0 := kwV 0 hts hl q_718 q_36 q_73 q_719 rfl rfl ⟨rfl, by decide +kernel, by decide +kernel, by decide +kernel⟩ hR
theorem kw_Mdl_nextLong {R : Room} {s : State} {args : Array Value} {own : String} {index : Nat} (hts : ∀ x ∈ WS, x.before args s = true) (hl : Cond.methodLink own index y_Mdl_nextLong ∈ WS) (hR : rm_Mdl_nextLong.frames + 1 ≤ R.frames ∧ 8 + (2 + 11) + rm_Mdl_nextLong.locals ≤ R.locals) : CallW R s args own R_Mdl index y_Mdl_nextLong b_Mdl_nextLong 2 (some .int) (Cond.code y_Mdl_nextLong b_Mdl_nextLong 2 (some .int) :: WS) rm_Mdl_nextLong 0 0 0 := kwV 0 hts hl q_726 q_38 q_73 q_727 rfl rfl ⟨rfl, by decide +kernel, by decide +kernel, by decide +kernel⟩ hR
theorem kw_Mdl_accumulator {R : Room} {s : State} {args : Array Value} {own : String} {index : Nat} (hts : ∀ x ∈ WS, x.before args s = true) (hl : Cond.methodLink own index y_Mdl_accumulator ∈ WS) (hR : rm_Mdl_accumulator.frames + 1 ≤ R.frames ∧ 8 + (1 + 11) + rm_Mdl_accumulator.locals ≤ R.locals) : CallW R s args own R_Mdl index y_Mdl_accumulator b_Mdl_accumulator 1 (some .int) (Cond.code y_Mdl_accumulator b_Mdl_accumulator 1 (some .int) :: WS) rm_Mdl_accumulator 0 0 0 := kwV 0 hts hl q_730 q_39 q_73 q_731 rfl rfl ⟨rfl, by decide +kernel, by decide +kernel, by decide +kernel⟩ hR
theorem kw_Mdl_setAccumulator {R : Room} {s : State} {args : Array Value} {own : String} {index : Nat} (hts : ∀ x ∈ WS, x.before args s = true) (hl : Cond.methodLink own index y_Mdl_setAccumulator ∈ WS) (hR : rm_Mdl_setAccumulator.frames + 1 ≤ R.frames ∧ 8 + (2 + 11) + rm_Mdl_setAccumulator.locals ≤ R.locals) : CallW R s args own R_Mdl index y_Mdl_setAccumulator b_Mdl_setAccumulator 2 none (Cond.code y_Mdl_setAccumulator b_Mdl_setAccumulator 2 none :: WS) rm_Mdl_setAccumulator 0 0 1 := kwV 1 hts hl q_755 q_45 q_73 q_756 rfl rfl ⟨rfl, by decide +kernel, by decide +kernel, by decide +kernel⟩ hR
theorem kw_Mdl_cut {R : Room} {s : State} {args : Array Value} {own : String} {index : Nat} (hts : ∀ x ∈ WS, x.before args s = true) (hl : Cond.methodLink own index y_Mdl_cut ∈ WS) (hR : rm_Mdl_cut.frames + 1 ≤ R.frames ∧ 8 + (3 + 11) + rm_Mdl_cut.locals ≤ R.locals) : CallW R s args own R_Mdl index y_Mdl_cut b_Mdl_cut 3 (some .int) (Cond.code y_Mdl_cut b_Mdl_cut 3 (some .int) :: WS) rm_Mdl_cut 0 0 2 := kwV 2 hts hl q_641 q_20 q_73 q_642 rfl rfl ⟨rfl, by decide +kernel, by decide +kernel, by decide +kernel⟩ hR
theorem kw_Mdl_result {R : Room} {s : State} {args : Array Value} {own : String} {index : Nat} (hts : ∀ x ∈ WS, x.before args s = true) (hl : Cond.methodLink own index y_Mdl_result ∈ WS) (hR : rm_Mdl_result.frames + 1 ≤ R.frames ∧ 8 + (4 + 11) + rm_Mdl_result.locals ≤ R.locals) : CallW R s args own R_Mdl index y_Mdl_result b_Mdl_result 4 (some .int) (Cond.code y_Mdl_result b_Mdl_result 4 (some .int) :: WS) rm_Mdl_result 0 0 2 := kwV 2 hts hl q_751 q_44 q_73 q_752 rfl rfl ⟨rfl, by decide +kernel, by decide +kernel, by decide +kernel⟩ hR
theorem kw_Mdl_setFlags {R : Room} {s : State} {args : Array Value} {own : String} {index : Nat} (hts : ∀ x ∈ WS, x.before args s = true) (hl : Cond.methodLink own index y_Mdl_setFlags ∈ WS) (hR : rm_Mdl_setFlags.frames + 1 ≤ R.frames ∧ 8 + (2 + 11) + rm_Mdl_setFlags.locals ≤ R.locals) : CallW R s args own R_Mdl index y_Mdl_setFlags b_Mdl_setFlags 2 none (Cond.code y_Mdl_setFlags b_Mdl_setFlags 2 none :: WS) rm_Mdl_setFlags 0 0 1 := kwV 1 hts hl q_645 q_21 q_73 q_646 rfl rfl ⟨rfl, by decide +kernel, by decide +kernel, by decide +kernel⟩ hR
theorem kw_Mdl_direct {R : Room} {s : State} {args : Array Value} {own : String} {index : Nat} (hts : ∀ x ∈ WS, x.before args s = true) (hl : Cond.methodLink own index y_Mdl_direct ∈ WS) (hR : rm_Mdl_direct.frames + 1 ≤ R.frames ∧ 8 + (2 + 11) + rm_Mdl_direct.locals ≤ R.locals) : CallW R s args own R_Mdl index y_Mdl_direct b_Mdl_direct 2 none (Cond.code y_Mdl_direct b_Mdl_direct 2 none :: WS) rm_Mdl_direct 0 0 1 := kwV 1 hts hl q_714 q_35 q_73 q_715 rfl rfl ⟨rfl, by decide +kernel, by decide +kernel, by decide +kernel⟩ hR
theorem kw_Mdl_far {R : Room} {s : State} {args : Array Value} {own : String} {index : Nat} (hts : ∀ x ∈ WS, x.before args s = true) (hl : Cond.methodLink own index y_Mdl_far ∈ WS) (hR : rm_Mdl_far.frames + 1 ≤ R.frames ∧ 8 + (2 + 11) + rm_Mdl_far.locals ≤ R.locals) : CallW R s args own R_Mdl index y_Mdl_far b_Mdl_far 2 none (Cond.code y_Mdl_far b_Mdl_far 2 none :: WS) rm_Mdl_far 0 0 1 := kwV 1 hts hl q_722 q_37 q_73 q_723 rfl rfl ⟨rfl, by decide +kernel, by decide +kernel, by decide +kernel⟩ hR
theorem kw_Mdl_find {R : Room} {s : State} {args : Array Value} {own : String} {index : Nat} (hts : ∀ x ∈ WS, x.before args s = true) (hl : Cond.methodLink own index y_Mdl_find ∈ WS) (hR : rm_Mdl_find.frames + 1 ≤ R.frames ∧ 8 + (4 + 11) + rm_Mdl_find.locals ≤ R.locals) : CallW R s args own R_Mdl index y_Mdl_find b_Mdl_find 4 (some .boolean) (Cond.code y_Mdl_find b_Mdl_find 4 (some .boolean) :: WS) rm_Mdl_find 0 0 1 := kwV 1 hts hl q_710 q_34 q_73 q_711 rfl rfl ⟨rfl, by decide +kernel, by decide +kernel, by decide +kernel⟩ hR
theorem kw_Mdl_load {R : Room} {s : State} {args : Array Value} {own : String} {index : Nat} (hts : ∀ x ∈ WS, x.before args s = true) (hl : Cond.methodLink own index y_Mdl_load ∈ WS) (hR : rm_Mdl_load.frames + 1 ≤ R.frames ∧ 8 + (2 + 11) + rm_Mdl_load.locals ≤ R.locals) : CallW R s args own R_Mdl index y_Mdl_load b_Mdl_load 2 (some .int) (Cond.code y_Mdl_load b_Mdl_load 2 (some .int) :: WS) rm_Mdl_load 0 0 1 := kwV 1 hts hl q_742 q_42 q_73 q_743 rfl rfl ⟨rfl, by decide +kernel, by decide +kernel, by decide +kernel⟩ hR
theorem kw_Mdl_store {R : Room} {s : State} {args : Array Value} {own : String} {index : Nat} (hts : ∀ x ∈ WS, x.before args s = true) (hl : Cond.methodLink own index y_Mdl_store ∈ WS) (hR : rm_Mdl_store.frames + 1 ≤ R.frames ∧ 8 + (3 + 11) + rm_Mdl_store.locals ≤ R.locals) : CallW R s args own R_Mdl index y_Mdl_store b_Mdl_store 3 none (Cond.code y_Mdl_store b_Mdl_store 3 none :: WS) rm_Mdl_store 0 0 2 := kwV 2 hts hl q_734 q_40 q_73 q_735 rfl rfl ⟨rfl, by decide +kernel, by decide +kernel, by decide +kernel⟩ hR
theorem kw_Mdl_immediate {R : Room} {s : State} {args : Array Value} {own : String} {index : Nat} (hts : ∀ x ∈ WS, x.before args s = true) (hl : Cond.methodLink own index y_Mdl_immediate ∈ WS) (hR : rm_Mdl_immediate.frames + 1 ≤ R.frames ∧ 8 + (2 + 11) + rm_Mdl_immediate.locals ≤ R.locals) : CallW R s args own R_Mdl index y_Mdl_immediate b_Mdl_immediate 2 (some .int) (Cond.code y_Mdl_immediate b_Mdl_immediate 2 (some .int) :: WS) rm_Mdl_immediate 0 0 1 := kwV 1 hts hl q_738 q_41 q_73 q_739 rfl rfl ⟨rfl, by decide +kernel, by decide +kernel, by decide +kernel⟩ hR
theorem kw_Mdl_add {R : Room} {s : State} {args : Array Value} {own : String} {index : Nat} (hts : ∀ x ∈ WS, x.before args s = true) (hl : Cond.methodLink own index y_Mdl_add ∈ WS) (hR : rm_Mdl_add.frames + 1 ≤ R.frames ∧ 8 + (6 + 11) + rm_Mdl_add.locals ≤ R.locals) : CallW R s args own R_Mdl index y_Mdl_add b_Mdl_add 6 none (Cond.code y_Mdl_add b_Mdl_add 6 none :: WS) rm_Mdl_add 0 0 1 := kwV 1 hts hl q_746 q_43 q_73 q_747 rfl rfl ⟨rfl, by decide +kernel, by decide +kernel, by decide +kernel⟩ hR
theorem kw_Mdl_compare {R : Room} {s : State} {args : Array Value} {own : String} {index : Nat} (hts : ∀ x ∈ WS, x.before args s = true) (hl : Cond.methodLink own index y_Mdl_compare ∈ WS) (hR : rm_Mdl_compare.frames + 1 ≤ R.frames ∧ 8 + (5 + 11) + rm_Mdl_compare.locals ≤ R.locals) : CallW R s args own R_Mdl index y_Mdl_compare b_Mdl_compare 5 none (Cond.code y_Mdl_compare b_Mdl_compare 5 none :: WS) rm_Mdl_compare 0 0 3 := kwV 3 hts hl q_760 q_46 q_73 q_761 rfl rfl ⟨rfl, by decide +kernel, by decide +kernel, by decide +kernel⟩ hR
theorem kw_Mdl_arithmetic {R : Room} {s : State} {args : Array Value} {own : String} {index : Nat} (hts : ∀ x ∈ WS, x.before args s = true) (hl : Cond.methodLink own index y_Mdl_arithmetic ∈ WS) (hR : rm_Mdl_arithmetic.frames + 1 ≤ R.frames ∧ 8 + (8 + 11) + rm_Mdl_arithmetic.locals ≤ R.locals) : CallW R s args own R_Mdl index y_Mdl_arithmetic b_Mdl_arithmetic 8 (some .boolean) (Cond.code y_Mdl_arithmetic b_Mdl_arithmetic 8 (some .boolean) :: WS) rm_Mdl_arithmetic 0 0 1 := kwV 1 hts hl q_706 q_33 q_73 q_707 rfl rfl ⟨rfl, by decide +kernel, by decide +kernel, by decide +kernel⟩ hR
theorem kw_Mdl_changed {R : Room} {s : State} {args : Array Value} {own : String} {index : Nat} (hts : ∀ x ∈ WS, x.before args s = true) (hl : Cond.methodLink own index y_Mdl_changed ∈ WS) (hR : rm_Mdl_changed.frames + 1 ≤ R.frames ∧ 8 + (6 + 11) + rm_Mdl_changed.locals ≤ R.locals) : CallW R s args own R_Mdl index y_Mdl_changed b_Mdl_changed 6 (some .int) (Cond.code y_Mdl_changed b_Mdl_changed 6 (some .int) :: WS) rm_Mdl_changed 0 0 3 := kwV 3 hts hl q_772 q_49 q_73 q_773 rfl rfl ⟨rfl, by decide +kernel, by decide +kernel, by decide +kernel⟩ hR
theorem kw_Mdl_changeMemory {R : Room} {s : State} {args : Array Value} {own : String} {index : Nat} (hts : ∀ x ∈ WS, x.before args s = true) (hl : Cond.methodLink own index y_Mdl_changeMemory ∈ WS) (hR : rm_Mdl_changeMemory.frames + 1 ≤ R.frames ∧ 8 + (4 + 11) + rm_Mdl_changeMemory.locals ≤ R.locals) : CallW R s args own R_Mdl index y_Mdl_changeMemory b_Mdl_changeMemory 4 none (Cond.code y_Mdl_changeMemory b_Mdl_changeMemory 4 none :: WS) rm_Mdl_changeMemory 0 0 2 := kwV 2 hts hl q_768 q_48 q_73 q_769 rfl rfl ⟨rfl, by decide +kernel, by decide +kernel, by decide +kernel⟩ hR
theorem kw_Mdl_change {R : Room} {s : State} {args : Array Value} {own : String} {index : Nat} (hts : ∀ x ∈ WS, x.before args s = true) (hl : Cond.methodLink own index y_Mdl_change ∈ WS) (hR : rm_Mdl_change.frames + 1 ≤ R.frames ∧ 8 + (2 + 11) + rm_Mdl_change.locals ≤ R.locals) : CallW R s args own R_Mdl index y_Mdl_change b_Mdl_change 2 (some .boolean) (Cond.code y_Mdl_change b_Mdl_change 2 (some .boolean) :: WS) rm_Mdl_change 0 0 1 := kwV 1 hts hl q_764 q_47 q_73 q_765 rfl rfl ⟨rfl, by decide +kernel, by decide +kernel, by decide +kernel⟩ hR
theorem kw_Mdl_findIndex {R : Room} {s : State} {args : Array Value} {own : String} {index : Nat} (hts : ∀ x ∈ WS, x.before args s = true) (hl : Cond.methodLink own index y_Mdl_findIndex ∈ WS) (hR : rm_Mdl_findIndex.frames + 1 ≤ R.frames ∧ 8 + (2 + 11) + rm_Mdl_findIndex.locals ≤ R.locals) : CallW R s args own R_Mdl index y_Mdl_findIndex b_Mdl_findIndex 2 none (Cond.code y_Mdl_findIndex b_Mdl_findIndex 2 none :: WS) rm_Mdl_findIndex 0 0 1 := kwV 1 hts hl q_784 q_52 q_73 q_785 rfl rfl ⟨rfl, by decide +kernel, by decide +kernel, by decide +kernel⟩ hR
theorem kw_Mdl_indexOperand {R : Room} {s : State} {args : Array Value} {own : String} {index : Nat} (hts : ∀ x ∈ WS, x.before args s = true) (hl : Cond.methodLink own index y_Mdl_indexOperand ∈ WS) (hR : rm_Mdl_indexOperand.frames + 1 ≤ R.frames ∧ 8 + (2 + 11) + rm_Mdl_indexOperand.locals ≤ R.locals) : CallW R s args own R_Mdl index y_Mdl_indexOperand b_Mdl_indexOperand 2 (some .int) (Cond.code y_Mdl_indexOperand b_Mdl_indexOperand 2 (some .int) :: WS) rm_Mdl_indexOperand 0 0 1 := kwV 1 hts hl q_780 q_51 q_73 q_781 rfl rfl ⟨rfl, by decide +kernel, by decide +kernel, by decide +kernel⟩ hR
theorem kw_Mdl_storeAt {R : Room} {s : State} {args : Array Value} {own : String} {index : Nat} (hts : ∀ x ∈ WS, x.before args s = true) (hl : Cond.methodLink own index y_Mdl_storeAt ∈ WS) (hR : rm_Mdl_storeAt.frames + 1 ≤ R.frames ∧ 8 + (4 + 11) + rm_Mdl_storeAt.locals ≤ R.locals) : CallW R s args own R_Mdl index y_Mdl_storeAt b_Mdl_storeAt 4 none (Cond.code y_Mdl_storeAt b_Mdl_storeAt 4 none :: WS) rm_Mdl_storeAt 0 0 3 := kwV 3 hts hl q_788 q_53 q_73 q_789 rfl rfl ⟨rfl, by decide +kernel, by decide +kernel, by decide +kernel⟩ hR
theorem kw_Mdl_index {R : Room} {s : State} {args : Array Value} {own : String} {index : Nat} (hts : ∀ x ∈ WS, x.before args s = true) (hl : Cond.methodLink own index y_Mdl_index ∈ WS) (hR : rm_Mdl_index.frames + 1 ≤ R.frames ∧ 8 + (3 + 11) + rm_Mdl_index.locals ≤ R.locals) : CallW R s args own R_Mdl index y_Mdl_index b_Mdl_index 3 (some .boolean) (Cond.code y_Mdl_index b_Mdl_index 3 (some .boolean) :: WS) rm_Mdl_index 0 0 1 := kwV 1 hts hl q_776 q_50 q_73 q_777 rfl rfl ⟨rfl, by decide +kernel, by decide +kernel, by decide +kernel⟩ hR
theorem kw_Mdl_transfer {R : Room} {s : State} {args : Array Value} {own : String} {index : Nat} (hts : ∀ x ∈ WS, x.before args s = true) (hl : Cond.methodLink own index y_Mdl_transfer ∈ WS) (hR : rm_Mdl_transfer.frames + 1 ≤ R.frames ∧ 8 + (4 + 11) + rm_Mdl_transfer.locals ≤ R.locals) : CallW R s args own R_Mdl index y_Mdl_transfer b_Mdl_transfer 4 (some .boolean) (Cond.code y_Mdl_transfer b_Mdl_transfer 4 (some .boolean) :: WS) rm_Mdl_transfer 0 0 1 := kwV 1 hts hl q_792 q_54 q_73 q_793 rfl rfl ⟨rfl, by decide +kernel, by decide +kernel, by decide +kernel⟩ hR
theorem kw_Mdl_pushOf {R : Room} {s : State} {args : Array Value} {own : String} {index : Nat} (hts : ∀ x ∈ WS, x.before args s = true) (hl : Cond.methodLink own index y_Mdl_pushOf ∈ WS) (hR : rm_Mdl_pushOf.frames + 1 ≤ R.frames ∧ 8 + (3 + 11) + rm_Mdl_pushOf.locals ≤ R.locals) : CallW R s args own R_Mdl index y_Mdl_pushOf b_Mdl_pushOf 3 none (Cond.code y_Mdl_pushOf b_Mdl_pushOf 3 none :: WS) rm_Mdl_pushOf 0 0 2 := kwV 2 hts hl q_800 q_56 q_73 q_801 rfl rfl ⟨rfl, by decide +kernel, by decide +kernel, by decide +kernel⟩ hR
theorem kw_Mdl_pullOf {R : Room} {s : State} {args : Array Value} {own : String} {index : Nat} (hts : ∀ x ∈ WS, x.before args s = true) (hl : Cond.methodLink own index y_Mdl_pullOf ∈ WS) (hR : rm_Mdl_pullOf.frames + 1 ≤ R.frames ∧ 8 + (2 + 11) + rm_Mdl_pullOf.locals ≤ R.locals) : CallW R s args own R_Mdl index y_Mdl_pullOf b_Mdl_pullOf 2 (some .int) (Cond.code y_Mdl_pullOf b_Mdl_pullOf 2 (some .int) :: WS) rm_Mdl_pullOf 0 0 1 := kwV 1 hts hl q_804 q_57 q_73 q_805 rfl rfl ⟨rfl, by decide +kernel, by decide +kernel, by decide +kernel⟩ hR
theorem kw_Mdl_stack {R : Room} {s : State} {args : Array Value} {own : String} {index : Nat} (hts : ∀ x ∈ WS, x.before args s = true) (hl : Cond.methodLink own index y_Mdl_stack ∈ WS) (hR : rm_Mdl_stack.frames + 1 ≤ R.frames ∧ 8 + (2 + 11) + rm_Mdl_stack.locals ≤ R.locals) : CallW R s args own R_Mdl index y_Mdl_stack b_Mdl_stack 2 (some .boolean) (Cond.code y_Mdl_stack b_Mdl_stack 2 (some .boolean) :: WS) rm_Mdl_stack 0 0 1 := kwV 1 hts hl q_796 q_55 q_73 q_797 rfl rfl ⟨rfl, by decide +kernel, by decide +kernel, by decide +kernel⟩ hR
theorem kw_Mdl_branch {R : Room} {s : State} {args : Array Value} {own : String} {index : Nat} (hts : ∀ x ∈ WS, x.before args s = true) (hl : Cond.methodLink own index y_Mdl_branch ∈ WS) (hR : rm_Mdl_branch.frames + 1 ≤ R.frames ∧ 8 + (3 + 11) + rm_Mdl_branch.locals ≤ R.locals) : CallW R s args own R_Mdl index y_Mdl_branch b_Mdl_branch 3 none (Cond.code y_Mdl_branch b_Mdl_branch 3 none :: WS) rm_Mdl_branch 0 0 1 := kwV 1 hts hl q_820 q_61 q_73 q_821 rfl rfl ⟨rfl, by decide +kernel, by decide +kernel, by decide +kernel⟩ hR
theorem kw_Mdl_call {R : Room} {s : State} {args : Array Value} {own : String} {index : Nat} (hts : ∀ x ∈ WS, x.before args s = true) (hl : Cond.methodLink own index y_Mdl_call ∈ WS) (hR : rm_Mdl_call.frames + 1 ≤ R.frames ∧ 8 + (2 + 11) + rm_Mdl_call.locals ≤ R.locals) : CallW R s args own R_Mdl index y_Mdl_call b_Mdl_call 2 none (Cond.code y_Mdl_call b_Mdl_call 2 none :: WS) rm_Mdl_call 0 0 1 := kwV 1 hts hl q_824 q_62 q_73 q_825 rfl rfl ⟨rfl, by decide +kernel, by decide +kernel, by decide +kernel⟩ hR
theorem kw_Mdl_interruptFrom {R : Room} {s : State} {args : Array Value} {own : String} {index : Nat} (hts : ∀ x ∈ WS, x.before args s = true) (hl : Cond.methodLink own index y_Mdl_interruptFrom ∈ WS) (hR : rm_Mdl_interruptFrom.frames + 1 ≤ R.frames ∧ 8 + (2 + 11) + rm_Mdl_interruptFrom.locals ≤ R.locals) : CallW R s args own R_Mdl index y_Mdl_interruptFrom b_Mdl_interruptFrom 2 none (Cond.code y_Mdl_interruptFrom b_Mdl_interruptFrom 2 none :: WS) rm_Mdl_interruptFrom 0 0 1 := kwV 1 hts hl q_661 q_23 q_73 q_662 rfl rfl ⟨rfl, by decide +kernel, by decide +kernel, by decide +kernel⟩ hR
theorem kw_Mdl_longJump {R : Room} {s : State} {args : Array Value} {own : String} {index : Nat} (hts : ∀ x ∈ WS, x.before args s = true) (hl : Cond.methodLink own index y_Mdl_longJump ∈ WS) (hR : rm_Mdl_longJump.frames + 1 ≤ R.frames ∧ 8 + (3 + 11) + rm_Mdl_longJump.locals ≤ R.locals) : CallW R s args own R_Mdl index y_Mdl_longJump b_Mdl_longJump 3 (some .boolean) (Cond.code y_Mdl_longJump b_Mdl_longJump 3 (some .boolean) :: WS) rm_Mdl_longJump 0 0 1 := kwV 1 hts hl q_828 q_63 q_73 q_829 rfl rfl ⟨rfl, by decide +kernel, by decide +kernel, by decide +kernel⟩ hR
theorem kw_Mdl_jump {R : Room} {s : State} {args : Array Value} {own : String} {index : Nat} (hts : ∀ x ∈ WS, x.before args s = true) (hl : Cond.methodLink own index y_Mdl_jump ∈ WS) (hR : rm_Mdl_jump.frames + 1 ≤ R.frames ∧ 8 + (3 + 11) + rm_Mdl_jump.locals ≤ R.locals) : CallW R s args own R_Mdl index y_Mdl_jump b_Mdl_jump 3 (some .boolean) (Cond.code y_Mdl_jump b_Mdl_jump 3 (some .boolean) :: WS) rm_Mdl_jump 0 0 1 := kwV 1 hts hl q_816 q_60 q_73 q_817 rfl rfl ⟨rfl, by decide +kernel, by decide +kernel, by decide +kernel⟩ hR
theorem kw_Mdl_moveBlock {R : Room} {s : State} {args : Array Value} {own : String} {index : Nat} (hts : ∀ x ∈ WS, x.before args s = true) (hl : Cond.methodLink own index y_Mdl_moveBlock ∈ WS) (hR : rm_Mdl_moveBlock.frames + 1 ≤ R.frames ∧ 8 + (6 + 11) + rm_Mdl_moveBlock.locals ≤ R.locals) : CallW R s args own R_Mdl index y_Mdl_moveBlock b_Mdl_moveBlock 6 none (Cond.code y_Mdl_moveBlock b_Mdl_moveBlock 6 none :: WS) rm_Mdl_moveBlock 0 0 1 := kwV 1 hts hl q_836 q_65 q_73 q_837 rfl rfl ⟨rfl, by decide +kernel, by decide +kernel, by decide +kernel⟩ hR
theorem kw_Mdl_other {R : Room} {s : State} {args : Array Value} {own : String} {index : Nat} (hts : ∀ x ∈ WS, x.before args s = true) (hl : Cond.methodLink own index y_Mdl_other ∈ WS) (hR : rm_Mdl_other.frames + 1 ≤ R.frames ∧ 8 + (2 + 11) + rm_Mdl_other.locals ≤ R.locals) : CallW R s args own R_Mdl index y_Mdl_other b_Mdl_other 2 (some .boolean) (Cond.code y_Mdl_other b_Mdl_other 2 (some .boolean) :: WS) rm_Mdl_other 0 0 1 := kwV 1 hts hl q_832 q_64 q_73 q_833 rfl rfl ⟨rfl, by decide +kernel, by decide +kernel, by decide +kernel⟩ hR
theorem kw_Mdl_step {R : Room} {s : State} {args : Array Value} {own : String} {index : Nat} (hts : ∀ x ∈ WS, x.before args s = true) (hl : Cond.methodLink own index y_Mdl_step ∈ WS) (hR : rm_Mdl_step.frames + 1 ≤ R.frames ∧ 8 + (5 + 11) + rm_Mdl_step.locals ≤ R.locals) : CallW R s args own R_Mdl index y_Mdl_step b_Mdl_step 5 none (Cond.code y_Mdl_step b_Mdl_step 5 none :: WS) rm_Mdl_step 0 0 0 := kwV 0 hts hl q_657 q_22 q_73 q_658 rfl rfl ⟨rfl, by decide +kernel, by decide +kernel, by decide +kernel⟩ hR
theorem kw_Mdl_poke {R : Room} {s : State} {args : Array Value} {own : String} {index : Nat} (hts : ∀ x ∈ WS, x.before args s = true) (hl : Cond.methodLink own index y_Mdl_poke ∈ WS) (hR : rm_Mdl_poke.frames + 1 ≤ R.frames ∧ 8 + (5 + 11) + rm_Mdl_poke.locals ≤ R.locals) : CallW R s args own R_Mdl index y_Mdl_poke b_Mdl_poke 5 (some .boolean) (Cond.code y_Mdl_poke b_Mdl_poke 5 (some .boolean) :: WS) rm_Mdl_poke 0 0 3 := kwV 3 hts hl q_619 q_620 q_73 q_621 rfl rfl ⟨rfl, by decide +kernel, by decide +kernel, by decide +kernel⟩ hR
theorem kw_Mdl_peek {R : Room} {s : State} {args : Array Value} {own : String} {index : Nat} (hts : ∀ x ∈ WS, x.before args s = true) (hl : Cond.methodLink own index y_Mdl_peek ∈ WS) (hR : rm_Mdl_peek.frames + 1 ≤ R.frames ∧ 8 + (2 + 11) + rm_Mdl_peek.locals ≤ R.locals) : CallW R s args own R_Mdl index y_Mdl_peek b_Mdl_peek 2 (some .int) (Cond.code y_Mdl_peek b_Mdl_peek 2 (some .int) :: WS) rm_Mdl_peek 0 0 1 := kwV 1 hts hl q_623 q_624 q_73 q_625 rfl rfl ⟨rfl, by decide +kernel, by decide +kernel, by decide +kernel⟩ hR
theorem kw_Mdl_start {R : Room} {s : State} {args : Array Value} {own : String} {index : Nat} (hts : ∀ x ∈ WS, x.before args s = true) (hl : Cond.methodLink own index y_Mdl_start ∈ WS) (hR : rm_Mdl_start.frames + 1 ≤ R.frames ∧ 8 + (3 + 11) + rm_Mdl_start.locals ≤ R.locals) : CallW R s args own R_Mdl index y_Mdl_start b_Mdl_start 3 (some .boolean) (Cond.code y_Mdl_start b_Mdl_start 3 (some .boolean) :: WS) rm_Mdl_start 0 0 2 := kwV 2 hts hl q_627 q_628 q_73 q_629 rfl rfl ⟨rfl, by decide +kernel, by decide +kernel, by decide +kernel⟩ hR
theorem kw_Mdl_set {R : Room} {s : State} {args : Array Value} {own : String} {index : Nat} (hts : ∀ x ∈ WS, x.before args s = true) (hl : Cond.methodLink own index y_Mdl_set ∈ WS) (hR : rm_Mdl_set.frames + 1 ≤ R.frames ∧ 8 + (3 + 11) + rm_Mdl_set.locals ≤ R.locals) : CallW R s args own R_Mdl index y_Mdl_set b_Mdl_set 3 (some .boolean) (Cond.code y_Mdl_set b_Mdl_set 3 (some .boolean) :: WS) rm_Mdl_set 0 0 2 := kwV 2 hts hl q_632 q_633 q_73 q_634 rfl rfl ⟨rfl, by decide +kernel, by decide +kernel, by decide +kernel⟩ hR
theorem kw_Mdl_register {R : Room} {s : State} {args : Array Value} {own : String} {index : Nat} (hts : ∀ x ∈ WS, x.before args s = true) (hl : Cond.methodLink own index y_Mdl_register ∈ WS) (hR : rm_Mdl_register.frames + 1 ≤ R.frames ∧ 8 + (2 + 11) + rm_Mdl_register.locals ≤ R.locals) : CallW R s args own R_Mdl index y_Mdl_register b_Mdl_register 2 (some .int) (Cond.code y_Mdl_register b_Mdl_register 2 (some .int) :: WS) rm_Mdl_register 0 0 1 := kwV 1 hts hl q_648 q_649 q_73 q_650 rfl rfl ⟨rfl, by decide +kernel, by decide +kernel, by decide +kernel⟩ hR
theorem kw_Mdl_stopped {R : Room} {s : State} {args : Array Value} {own : String} {index : Nat} (hts : ∀ x ∈ WS, x.before args s = true) (hl : Cond.methodLink own index y_Mdl_stopped ∈ WS) (hR : rm_Mdl_stopped.frames + 1 ≤ R.frames ∧ 8 + (1 + 11) + rm_Mdl_stopped.locals ≤ R.locals) : CallW R s args own R_Mdl index y_Mdl_stopped b_Mdl_stopped 1 (some .boolean) (Cond.code y_Mdl_stopped b_Mdl_stopped 1 (some .boolean) :: WS) rm_Mdl_stopped 0 0 0 := kwV 0 hts hl q_839 q_840 q_73 q_841 rfl rfl ⟨rfl, by decide +kernel, by decide +kernel, by decide +kernel⟩ hR
theorem kw_Mdl_interrupt {R : Room} {s : State} {args : Array Value} {own : String} {index : Nat} (hts : ∀ x ∈ WS, x.before args s = true) (hl : Cond.methodLink own index y_Mdl_interrupt ∈ WS) (hR : rm_Mdl_interrupt.frames + 1 ≤ R.frames ∧ 8 + (2 + 11) + rm_Mdl_interrupt.locals ≤ R.locals) : CallW R s args own R_Mdl index y_Mdl_interrupt b_Mdl_interrupt 2 (some .boolean) (Cond.code y_Mdl_interrupt b_Mdl_interrupt 2 (some .boolean) :: WS) rm_Mdl_interrupt 0 0 0 := kwV 0 hts hl q_843 q_844 q_73 q_845 rfl rfl ⟨rfl, by decide +kernel, by decide +kernel, by decide +kernel⟩ hR
theorem kw_Mdl_line {R : Room} {s : State} {args : Array Value} {own : String} {index : Nat} (hts : ∀ x ∈ WS, x.before args s = true) (hl : Cond.methodLink own index y_Mdl_line ∈ WS) (hR : rm_Mdl_line.frames + 1 ≤ R.frames ∧ 8 + (2 + 11) + rm_Mdl_line.locals ≤ R.locals) : CallW R s args own R_Mdl index y_Mdl_line b_Mdl_line 2 none (Cond.code y_Mdl_line b_Mdl_line 2 none :: WS) rm_Mdl_line 0 0 1 := kwV 1 hts hl q_847 q_848 q_73 q_849 rfl rfl ⟨rfl, by decide +kernel, by decide +kernel, by decide +kernel⟩ hR
theorem kw_Mdl_touches {R : Room} {s : State} {args : Array Value} {own : String} {index : Nat} (hts : ∀ x ∈ WS, x.before args s = true) (hl : Cond.methodLink own index y_Mdl_touches ∈ WS) (hR : rm_Mdl_touches.frames + 1 ≤ R.frames ∧ 8 + (1 + 11) + rm_Mdl_touches.locals ≤ R.locals) : CallW R s args own R_Mdl index y_Mdl_touches b_Mdl_touches 1 (some .int) (Cond.code y_Mdl_touches b_Mdl_touches 1 (some .int) :: WS) rm_Mdl_touches 0 0 0 := kwV 0 hts hl q_851 q_852 q_73 q_853 rfl rfl ⟨rfl, by decide +kernel, by decide +kernel, by decide +kernel⟩ hR
theorem kw_Mdl_touched {R : Room} {s : State} {args : Array Value} {own : String} {index : Nat} (hts : ∀ x ∈ WS, x.before args s = true) (hl : Cond.methodLink own index y_Mdl_touched ∈ WS) (hR : rm_Mdl_touched.frames + 1 ≤ R.frames ∧ 8 + (2 + 11) + rm_Mdl_touched.locals ≤ R.locals) : CallW R s args own R_Mdl index y_Mdl_touched b_Mdl_touched 2 (some .int) (Cond.code y_Mdl_touched b_Mdl_touched 2 (some .int) :: WS) rm_Mdl_touched 0 0 1 := kwV 1 hts hl q_855 q_856 q_73 q_857 rfl rfl ⟨rfl, by decide +kernel, by decide +kernel, by decide +kernel⟩ hR
theorem kw_Mdl_steps {R : Room} {s : State} {args : Array Value} {own : String} {index : Nat} (hts : ∀ x ∈ WS, x.before args s = true) (hl : Cond.methodLink own index y_Mdl_steps ∈ WS) (hR : rm_Mdl_steps.frames + 1 ≤ R.frames ∧ 8 + (1 + 11) + rm_Mdl_steps.locals ≤ R.locals) : CallW R s args own R_Mdl index y_Mdl_steps b_Mdl_steps 1 (some .int) (Cond.code y_Mdl_steps b_Mdl_steps 1 (some .int) :: WS) rm_Mdl_steps 0 0 0 := kwV 0 hts hl q_859 q_860 q_73 q_861 rfl rfl ⟨rfl, by decide +kernel, by decide +kernel, by decide +kernel⟩ hR
end
section
def bt (x : Int32) (i : Nat) : Bool := x.toBitVec.getLsbD i
theorem b_ext {x y : Int32} (h : ∀ i, i < 32 → bt x i = bt y i) : x = y := Int32.toBitVec_inj.mp (BitVec.eq_of_getLsbD_eq (fun i hi => h i hi))
theorem b_or (x y : Int32) (i : Nat) : bt (x ||| y) i = (bt x i || bt y i) := by unfold bt; rw [Int32.toBitVec_or, BitVec.getLsbD_or]
theorem b_and (x y : Int32) (i : Nat) : bt (x &&& y) i = (bt x i && bt y i) := by unfold bt; rw [Int32.toBitVec_and, BitVec.getLsbD_and]
theorem b_xor (x y : Int32) (i : Nat) : bt (x ^^^ y) i = (bt x i ^^ bt y i) := by unfold bt; rw [Int32.toBitVec_xor, BitVec.getLsbD_xor]
theorem b_big {x : Int32} {i : Nat} (h : 32 ≤ i) : bt x i = false := BitVec.getLsbD_of_ge _ _ h
theorem b_255 (i : Nat) : bt 255 i = decide (i < 8) := by
  rcases Nat.lt_or_ge i 32 with h | h
  · exact (by decide +kernel : ∀ i, i < 32 → bt 255 i = decide (i < 8)) i h
  · rw [b_big h, decide_eq_false (by omega)]
theorem b_65535 (i : Nat) : bt 65535 i = decide (i < 16) := by
  rcases Nat.lt_or_ge i 32 with h | h
  · exact (by decide +kernel : ∀ i, i < 32 → bt 65535 i = decide (i < 16)) i h
  · rw [b_big h, decide_eq_false (by omega)]
theorem b_m1 : ∀ i, i < 32 → bt (-1) i = true := by decide +kernel
theorem b_0 (i : Nat) : bt 0 i = false := BitVec.getLsbD_zero
theorem s_l : ∀ n, n < 32 → ((nI n &&& 31).toBitVec.smod 32).toNat = n := by decide +kernel
theorem s_u : ∀ n, n < 32 → (((nI n).toUInt32 &&& Int32.toUInt32 31).toBitVec % 32).toNat = n := by decide +kernel
theorem b_shl (n : Nat) (hn : n < 32) (x : Int32) {i : Nat} (hi : i < 32) : bt (x <<< (nI n &&& 31)) i = (decide (n ≤ i) && bt x (i - n)) := by
  unfold bt
  rw [Int32.toBitVec_shiftLeft]
  show (x.toBitVec <<< ((nI n &&& 31).toBitVec.smod 32).toNat).getLsbD i = _
  rw [s_l n hn, BitVec.getLsbD_shiftLeft]
  rcases Nat.lt_or_ge i n with h | h
  · simp [h, Nat.not_le.mpr h]
  · simp [hi, h, Nat.not_lt.mpr h]
theorem b_ushr (n : Nat) (hn : n < 32) (x : Int32) (i : Nat) : bt ((x.toUInt32 >>> ((nI n).toUInt32 &&& Int32.toUInt32 31)).toInt32) i = bt x (n + i) := by
  show (x.toUInt32 >>> ((nI n).toUInt32 &&& Int32.toUInt32 31)).toBitVec.getLsbD i = x.toUInt32.toBitVec.getLsbD (n + i)
  rw [UInt32.toBitVec_shiftRight]
  show (x.toUInt32.toBitVec >>> (((nI n).toUInt32 &&& Int32.toUInt32 31).toBitVec % 32).toNat).getLsbD i = _
  rw [s_u n hn, BitVec.getLsbD_ushiftRight]
theorem b_sshr (n : Nat) (hn : n < 32) (x : Int32) {i : Nat} (hi : i < 32) : bt (x >>> (nI n &&& 31)) i = if n + i < 32 then bt x (n + i) else bt x 31 := by
  unfold bt
  rw [Int32.toBitVec_shiftRight]
  show (x.toBitVec.sshiftRight ((nI n &&& 31).toBitVec.smod 32).toNat).getLsbD i = _
  rw [s_l n hn, BitVec.getLsbD_sshiftRight, BitVec.msb_eq_getLsbD_last]
  simp [hi]
theorem b_shl8 (x : Int32) {i : Nat} (hi : i < 32) : bt (x <<< ((8 : Int32) &&& 31)) i = (decide (8 ≤ i) && bt x (i - 8)) := b_shl 8 (by omega) x hi
theorem b_shl16 (x : Int32) {i : Nat} (hi : i < 32) : bt (x <<< ((16 : Int32) &&& 31)) i = (decide (16 ≤ i) && bt x (i - 16)) := b_shl 16 (by omega) x hi
theorem b_shl24 (x : Int32) {i : Nat} (hi : i < 32) : bt (x <<< ((24 : Int32) &&& 31)) i = (decide (24 ≤ i) && bt x (i - 24)) := b_shl 24 (by omega) x hi
theorem b_sshr8 (x : Int32) {i : Nat} (hi : i < 32) : bt (x >>> ((8 : Int32) &&& 31)) i = if 8 + i < 32 then bt x (8 + i) else bt x 31 := b_sshr 8 (by omega) x hi
theorem nx_and (a b : Nat) : nI a &&& nI b = nI (a &&& b) := by
  apply Int32.toBitVec_inj.1
  show BitVec.ofNat 32 a &&& BitVec.ofNat 32 b = BitVec.ofNat 32 (a &&& b)
  apply BitVec.eq_of_getLsbD_eq
  intro i hi
  simp [hi]
theorem nx_mod (k : Nat) : nI k &&& 65535 = nI (k % 65536) := by
  show nI k &&& nI 65535 = _
  rw [nx_and, show (65535 : Nat) = 2 ^ 16 - 1 from rfl, Nat.and_two_pow_sub_one_eq_mod]
theorem nx_m16 {k : Nat} (h : k < 65536) : nI k &&& 65535 = nI k := by rw [nx_mod, Nat.mod_eq_of_lt h]
theorem nx_mask (x : Int32) : ∃ k, k < 65536 ∧ x &&& 65535 = nI k := by
  have e : x = nI x.toBitVec.toNat := by
    apply Int32.toBitVec_inj.1
    show x.toBitVec = BitVec.ofNat 32 x.toBitVec.toNat
    simp
  refine ⟨x.toBitVec.toNat % 65536, Nat.mod_lt _ (by omega), ?_⟩
  rw [← nx_mod, ← e]
theorem bp_b (x : Int32) : x.toInt8.toInt32 &&& 255 = x &&& 255 := by
  apply Int32.toBitVec_inj.mp
  rw [Int32.toBitVec_and, Int32.toBitVec_and, Int8.toBitVec_toInt32, Int32.toBitVec_toInt8]
  apply BitVec.eq_of_getLsbD_eq
  intro i hi
  rw [BitVec.getLsbD_and, BitVec.getLsbD_and]
  have hm : ∀ i < 32, 8 ≤ i → (255 : Int32).toBitVec.getLsbD i = false := by decide
  rcases Nat.lt_or_ge i 8 with z | z
  · rw [BitVec.getLsbD_signExtend, BitVec.getLsbD_signExtend, if_pos z, if_pos hi]
    simp only [z, hi, decide_true, Bool.true_and]
  · rw [hm i hi z]; simp
theorem b_sshr7 (x : Int32) {i : Nat} (hi : i < 32) : bt (x >>> ((7 : Int32) &&& 31)) i = if 7 + i < 32 then bt x (7 + i) else bt x 31 := b_sshr 7 (by omega) x hi
theorem b_sshr16 (x : Int32) {i : Nat} (hi : i < 32) : bt (x >>> ((16 : Int32) &&& 31)) i = if 16 + i < 32 then bt x (16 + i) else bt x 31 := b_sshr 16 (by omega) x hi
theorem b_sshr1 (x : Int32) {i : Nat} (hi : i < 32) : bt (x >>> ((1 : Int32) &&& 31)) i = if 1 + i < 32 then bt x (1 + i) else bt x 31 := b_sshr 1 (by omega) x hi
theorem b_sshr6 (x : Int32) {i : Nat} (hi : i < 32) : bt (x >>> ((6 : Int32) &&& 31)) i = if 6 + i < 32 then bt x (6 + i) else bt x 31 := b_sshr 6 (by omega) x hi
theorem b_sshr5 (x : Int32) {i : Nat} (hi : i < 32) : bt (x >>> ((5 : Int32) &&& 31)) i = if 5 + i < 32 then bt x (5 + i) else bt x 31 := b_sshr 5 (by omega) x hi
theorem b_shl1 (x : Int32) {i : Nat} (hi : i < 32) : bt (x <<< ((1 : Int32) &&& 31)) i = (decide (1 ≤ i) && bt x (i - 1)) := b_shl 1 (by omega) x hi
theorem b_512 : ∀ i, i < 32 → bt 512 i = decide (i = 9) := by decide +kernel
theorem b_511 : ∀ i, i < 32 → bt 511 i = decide (i < 9) := by decide +kernel
theorem b_1 : ∀ i, i < 32 → bt 1 i = decide (i = 0) := by decide +kernel
theorem b_24 : ∀ i, i < 32 → bt 16777215 i = decide (i < 24) := by decide +kernel
theorem b_mk : ∀ i, i < 32 → bt 16777216 i = decide (i = 24) := by decide +kernel
theorem b_3 : ∀ i, i < 32 → bt 3 i = decide (i < 2) := by decide +kernel
abbrev r8 (x : Int32) : Prop := x &&& 255 = x
abbrev r16 (x : Int32) : Prop := x &&& 65535 = x
abbrev r24 (x : Int32) : Prop := x &&& 16777215 = x
theorem r8_bt {x : Int32} (h : r8 x) {i : Nat} (hi : 8 ≤ i) : bt x i = false := by
  rw [← h, b_and, b_255, decide_eq_false (by omega), Bool.and_false]
theorem r16_bt {x : Int32} (h : r16 x) {i : Nat} (hi : 16 ≤ i) : bt x i = false := by
  rw [← h, b_and, b_65535, decide_eq_false (by omega), Bool.and_false]
theorem r24_bt {x : Int32} (h : r24 x) {i : Nat} (hi : 24 ≤ i) : bt x i = false := by
  rcases Nat.lt_or_ge i 32 with h2 | h2
  · rw [← h, b_and, b_24 i h2, decide_eq_false (by omega), Bool.and_false]
  · exact b_big h2
theorem bt_r8 {x : Int32} (h : ∀ i, i < 32 → 8 ≤ i → bt x i = false) : r8 x := by
  apply b_ext
  intro i hi
  rw [b_and, b_255]
  by_cases z : i < 8
  · simp [z]
  · rw [h i hi (by omega)]; rfl
theorem bt_r16 {x : Int32} (h : ∀ i, i < 32 → 16 ≤ i → bt x i = false) : r16 x := by
  apply b_ext
  intro i hi
  rw [b_and, b_65535]
  by_cases z : i < 16
  · simp [z]
  · rw [h i hi (by omega)]; rfl
theorem bt_r24 {x : Int32} (h : ∀ i, i < 32 → 24 ≤ i → bt x i = false) : r24 x := by
  apply b_ext
  intro i hi
  rw [b_and, b_24 i hi]
  by_cases z : i < 24
  · simp [z]
  · rw [h i hi (by omega)]; rfl
theorem r8_16 {x : Int32} (h : r8 x) : r16 x := bt_r16 fun _ _ hi => r8_bt h (by omega)
theorem r16_24 {x : Int32} (h : r16 x) : r24 x := bt_r24 fun _ _ hi => r16_bt h (by omega)
theorem and_or_r (x y z : Int32) : (x ||| y) &&& z = (x &&& z) ||| (y &&& z) := by
  apply b_ext
  intro i _
  rw [b_and, b_or, b_or, b_and, b_and, Bool.and_or_distrib_right]
theorem m8 (x : Int32) : r8 (x &&& 255) := by
  show (x &&& 255) &&& 255 = x &&& 255
  rw [Int32.and_assoc]; rfl
theorem m16 (x : Int32) : r16 (x &&& 65535) := by
  show (x &&& 65535) &&& 65535 = x &&& 65535
  rw [Int32.and_assoc]; rfl
theorem m24 (x : Int32) : r24 (x &&& 16777215) := by
  show (x &&& 16777215) &&& 16777215 = x &&& 16777215
  rw [Int32.and_assoc]; rfl
theorem x32 (x : Int32) : x = nI x.toBitVec.toNat := by
  apply Int32.toBitVec_inj.1
  show x.toBitVec = BitVec.ofNat 32 x.toBitVec.toNat
  simp
theorem nx_pm (j k : Nat) : nI k &&& nI (2 ^ j - 1) = nI (k % 2 ^ j) := by rw [nx_and, Nat.and_two_pow_sub_one_eq_mod]
theorem m_lt (j : Nat) (x : Int32) : ∃ k, k < 2 ^ j ∧ x &&& nI (2 ^ j - 1) = nI k :=
  ⟨x.toBitVec.toNat % 2 ^ j, Nat.mod_lt _ (Nat.two_pow_pos j), by rw [← nx_pm, ← x32 x]⟩
theorem r8_nI {x : Int32} (h : r8 x) : ∃ k, k < 256 ∧ x = nI k := by
  obtain ⟨k, hk, e⟩ := m_lt 8 x
  exact ⟨k, hk, h.symm.trans e⟩
theorem r16_nI {x : Int32} (h : r16 x) : ∃ k, k < 65536 ∧ x = nI k := by
  obtain ⟨k, hk, e⟩ := m_lt 16 x
  exact ⟨k, hk, h.symm.trans e⟩
theorem vp_mask {x : Int32} (j : Nat) (hj : j < 31) (h : x &&& nI (2 ^ j - 1) = x) : vp_in x (2 ^ j) := by
  obtain ⟨k, hk, e⟩ := m_lt j x
  rw [← h, e]
  exact vp_in_nI hk (Nat.pow_lt_pow_right (by decide) hj)
theorem in_lit {i : Int32} {n : Nat} (h : decide (¬ (i < 0 ∨ n ≤ i.toNatClampNeg)) = true) : vp_in i n := by
  unfold vp_in
  exact of_decide_eq_true h
theorem in_and7 (x : Int32) : vp_in (x &&& 7) 8 := vp_mask 3 (by decide) (by
  show (x &&& 7) &&& 7 = x &&& 7
  rw [Int32.and_assoc]; rfl)
theorem sub512 (x y : Int32) : ((x &&& 512) ||| (y &&& 511)) &&& 1023 = (x &&& 512) ||| (y &&& 511) := by
  rw [and_or_r, Int32.and_assoc, Int32.and_assoc]; rfl
theorem add_or {x y : Int32} (h : x &&& y = 0) : x + y = x ||| y := by
  apply Int32.toBitVec_inj.mp
  rw [Int32.toBitVec_add, Int32.toBitVec_or]
  apply BitVec.add_eq_or_of_and_eq_zero
  rw [← Int32.toBitVec_and, h]; rfl
theorem t_512 (x : Int32) : (x >>> ((7 : Int32) &&& 31)) &&& 512 = if bt x 16 = true then 512 else 0 := by
  apply b_ext
  intro i hi
  rw [b_and, b_sshr7 x hi, b_512 i hi]
  by_cases h : i = 9
  · subst h
    cases hb : bt x 16
    · simp [hb, b_0]
    · simp [hb, b_512]
  · rw [decide_eq_false h, Bool.and_false]
    split
    · rw [b_512 i hi, decide_eq_false h]
    · rw [b_0]
theorem t_1 (x : Int32) : (x >>> ((16 : Int32) &&& 31)) &&& 1 = if bt x 16 = true then 1 else 0 := by
  apply b_ext
  intro i hi
  rw [b_and, b_sshr16 x hi, b_1 i hi]
  by_cases h : i = 0
  · subst h
    cases hb : bt x 16
    · simp [hb, b_0]
    · simp [hb, b_1]
  · rw [decide_eq_false h, Bool.and_false]
    split
    · rw [b_1 i hi, decide_eq_false h]
    · rw [b_0]
theorem t_b1 (x : Int32) : x &&& 1 = if bt x 0 = true then 1 else 0 := by
  apply b_ext
  intro i hi
  rw [b_and, b_1 i hi]
  by_cases h : i = 0
  · subst h
    cases hb : bt x 0
    · simp [b_0]
    · simp [b_1]
  · rw [decide_eq_false h, Bool.and_false]
    split
    · rw [b_1 i hi, decide_eq_false h]
    · rw [b_0]
theorem d_511 (x : Int32) : (512 : Int32) &&& (x &&& 511) = 0 := by
  rw [Int32.and_comm, Int32.and_assoc]
  show x &&& 0 = 0
  exact Int32.and_zero
theorem cell_c (x : Int32) : (((x >>> ((7 : Int32) &&& 31)) &&& 512) ||| (x &&& 511)) = (512 * ((x >>> ((16 : Int32) &&& 31)) &&& 1)) + (x &&& 511) := by
  rw [t_512, t_1]
  cases bt x 16
  · show (0 : Int32) ||| (x &&& 511) = 512 * 0 + (x &&& 511)
    rw [Int32.zero_or, Int32.mul_zero, Int32.zero_add]
  · show (512 : Int32) ||| (x &&& 511) = 512 * 1 + (x &&& 511)
    rw [Int32.mul_one, add_or (d_511 x)]
theorem mk_16 (x : Int32) : bt (16777216 ||| (x &&& 65535)) 16 = false := by
  rw [b_or, b_and, b_65535, b_mk 16 (by decide)]
  simp
theorem mk_511 (x : Int32) : (16777216 ||| (x &&& 65535)) &&& 511 = x &&& 511 := by
  rw [and_or_r, Int32.and_assoc]
  show (0 : Int32) ||| (x &&& 511) = _
  exact Int32.zero_or
theorem mk_24 (x : Int32) : ¬ (16777216 ||| (x &&& 65535)) &&& 16777216 = 0 := by
  intro h
  have h2 := congrArg (fun z => bt z 24) h
  simp only [b_and, b_or, b_65535, b_mk 24 (by decide), b_0] at h2
  simp at h2
theorem w16 {x y : Int32} (hx : r8 x) (hy : r8 y) : r16 (x ||| (y <<< ((8 : Int32) &&& 31))) := bt_r16 fun i hi h => by
  rw [b_or, b_shl8 y hi, r8_bt hx (by omega), r8_bt hy (by omega)]
  simp
theorem w24 {x y : Int32} (hx : r16 x) (hy : r8 y) : r24 (x ||| (y <<< ((16 : Int32) &&& 31))) := bt_r24 fun i hi h => by
  rw [b_or, b_shl16 y hi, r16_bt hx (by omega), r8_bt hy (by omega)]
  simp
theorem w24_add {x y : Int32} (hx : r16 x) : (y <<< ((16 : Int32) &&& 31)) + x = x ||| (y <<< ((16 : Int32) &&& 31)) := by
  rw [add_or, Int32.or_comm]
  apply b_ext
  intro i hi
  rw [b_and, b_shl16 y hi, b_0]
  by_cases z : i < 16
  · simp [Nat.not_le.mpr z]
  · rw [r16_bt hx (by omega), Bool.and_false]
theorem sh16_8 {x : Int32} (h : r24 x) : r8 (x >>> ((16 : Int32) &&& 31)) := bt_r8 fun i hi h8 => by
  rw [b_sshr16 x hi]
  split
  · exact r24_bt h (by omega)
  · exact r24_bt h (by omega)
theorem bt_pb {x y : Int32} (hy : r16 y) : bt ((x <<< ((16 : Int32) &&& 31)) ||| y) 16 = bt x 0 := by
  rw [b_or, b_shl16 x (by decide), r16_bt hy (by omega)]
  simp
theorem pb_511 (x y : Int32) : ((x <<< ((16 : Int32) &&& 31)) ||| y) &&& 511 = y &&& 511 := by
  apply b_ext
  intro i hi
  rw [b_and, b_or, b_and, b_shl16 x hi, b_511 i hi]
  by_cases z : i < 9
  · simp [z, show ¬ 16 ≤ i by omega]
  · simp [z]
def f_Wc_poke (S : Sc) (x1 x2 x3 : Int32) : Int32 × Sc := if x3 < (1 : Int32) then (((0 : Int32), S)) else (if (4 : Int32) < x3 then (((0 : Int32), S)) else (if x1 < (0 : Int32) then (((0 : Int32), S)) else (if x1 ≤ ((1024 : Int32) - x3) then (if x3 ≤ (0 : Int32) then (((1 : Int32), S)) else (if x3 ≤ (1 : Int32) then (((1 : Int32), (pm S (((x1 + (0 : Int32))).toNatClampNeg) (vp_nar .byte (((x2 >>> (((8 : Int32) * (0 : Int32)) &&& 31))).toInt8.toInt32))))) else (if x3 ≤ (2 : Int32) then (((1 : Int32), (pm (pm S (((x1 + (0 : Int32))).toNatClampNeg) (vp_nar .byte (((x2 >>> (((8 : Int32) * (0 : Int32)) &&& 31))).toInt8.toInt32))) (((x1 + (1 : Int32))).toNatClampNeg) (vp_nar .byte (((x2 >>> (((8 : Int32) * (1 : Int32)) &&& 31))).toInt8.toInt32))))) else (if x3 ≤ (3 : Int32) then (((1 : Int32), (pm (pm (pm S (((x1 + (0 : Int32))).toNatClampNeg) (vp_nar .byte (((x2 >>> (((8 : Int32) * (0 : Int32)) &&& 31))).toInt8.toInt32))) (((x1 + (1 : Int32))).toNatClampNeg) (vp_nar .byte (((x2 >>> (((8 : Int32) * (1 : Int32)) &&& 31))).toInt8.toInt32))) (((x1 + (2 : Int32))).toNatClampNeg) (vp_nar .byte (((x2 >>> (((8 : Int32) * (2 : Int32)) &&& 31))).toInt8.toInt32))))) else (((1 : Int32), (pm (pm (pm (pm S (((x1 + (0 : Int32))).toNatClampNeg) (vp_nar .byte (((x2 >>> (((8 : Int32) * (0 : Int32)) &&& 31))).toInt8.toInt32))) (((x1 + (1 : Int32))).toNatClampNeg) (vp_nar .byte (((x2 >>> (((8 : Int32) * (1 : Int32)) &&& 31))).toInt8.toInt32))) (((x1 + (2 : Int32))).toNatClampNeg) (vp_nar .byte (((x2 >>> (((8 : Int32) * (2 : Int32)) &&& 31))).toInt8.toInt32))) (((x1 + (3 : Int32))).toNatClampNeg) (vp_nar .byte (((x2 >>> (((8 : Int32) * (3 : Int32)) &&& 31))).toInt8.toInt32))))))))) else (((0 : Int32), S)))))
def f_Wc_peek (S : Sc) (x1 : Int32) : Int32 := if x1 < (0 : Int32) then ((-1 : Int32)) else (if x1 < (1024 : Int32) then (((S.2.1 (x1).toNatClampNeg) &&& (255 : Int32))) else ((-1 : Int32)))
def f_Wc_start (S : Sc) (x1 x2 : Int32) : Int32 × Sc := if x1 < (0 : Int32) then (((0 : Int32), S)) else (if (255 : Int32) < x1 then (((0 : Int32), S)) else (if x2 < (0 : Int32) then (((0 : Int32), S)) else (if x2 ≤ (65535 : Int32) then (((1 : Int32), (pr (pr (pr S 6 (x1)) 7 (x2)) 12 ((0 : Int32))))) else (((0 : Int32), S)))))
def f_Reg_wideIndex (S : Sc) : Int32 := if ((S.1 8) &&& (16 : Int32)) = (0 : Int32) then ((1 : Int32)) else ((0 : Int32))
def f_Reg_maskOf (x0 : Int32) : Int32 := if x0 = (0 : Int32) then ((255 : Int32)) else ((65535 : Int32))
def f_Reg_indexMask (S : Sc) : Int32 := (f_Reg_maskOf (f_Reg_wideIndex S))
def f_Reg_replaceP (S : Sc) (x1 : Int32) : Sc := (pr (pr (pr S 8 (x1)) 1 (((S.1 1) &&& (f_Reg_indexMask (pr S 8 (x1)))))) 2 (((S.1 2) &&& (f_Reg_indexMask (pr (pr S 8 (x1)) 1 (((S.1 1) &&& (f_Reg_indexMask (pr S 8 (x1))))))))))
def f_Wc_set (S : Sc) (x1 x2 : Int32) : Int32 × Sc := if x1 = (0 : Int32) then (((1 : Int32), (pr S 0 ((x2 &&& (65535 : Int32)))))) else (if x1 = (1 : Int32) then (((1 : Int32), (pr S 1 ((x2 &&& (f_Reg_indexMask S)))))) else (if x1 = (2 : Int32) then (((1 : Int32), (pr S 2 ((x2 &&& (f_Reg_indexMask S)))))) else (if x1 = (3 : Int32) then (((1 : Int32), (pr S 3 ((x2 &&& (65535 : Int32)))))) else (if x1 = (4 : Int32) then (((1 : Int32), (pr S 4 ((x2 &&& (65535 : Int32)))))) else (if x1 = (5 : Int32) then (((1 : Int32), (pr S 5 ((x2 &&& (255 : Int32)))))) else (if x1 = (6 : Int32) then (bs (f_Reg_replaceP S (x2 &&& (255 : Int32))) (fun S8 => ((1 : Int32), S8))) else (((0 : Int32), S))))))))
def f_Wc_register (S : Sc) (x1 : Int32) : Int32 := if x1 = (0 : Int32) then (S.1 0) else (if x1 = (1 : Int32) then (S.1 1) else (if x1 = (2 : Int32) then (S.1 2) else (if x1 = (3 : Int32) then (S.1 3) else (if x1 = (4 : Int32) then (S.1 4) else (if x1 = (5 : Int32) then (S.1 5) else (if x1 = (6 : Int32) then (S.1 8) else (if x1 = (7 : Int32) then (S.1 6) else (if x1 = (8 : Int32) then (S.1 7) else ((-1 : Int32))))))))))
def f_Bus_bank0Place (x0 : Int32) : Int32 := ((16777216 : Int32) ||| (x0 &&& (65535 : Int32)))
def f_Bus_cellOf (x0 : Int32) : Int32 := (((x0 >>> ((7 : Int32) &&& 31)) &&& (512 : Int32)) ||| (x0 &&& (511 : Int32)))
def f_Bus_writeByte (S : Sc) (x1 x2 : Int32) : Sc := (pm (pr (pl S ((((S.1 9) &&& (7 : Int32))).toNatClampNeg) (((f_Bus_cellOf x1) + (1024 : Int32)))) 9 (((S.1 9) + (1 : Int32)))) (((f_Bus_cellOf x1)).toNatClampNeg) (vp_nar .byte ((x2).toInt8.toInt32)))
def f_Stk_pushByte (S : Sc) (x1 : Int32) : Sc := bs (f_Bus_writeByte S (f_Bus_bank0Place (S.1 3)) x1) (fun S1 => (pr S1 3 ((((S1.1 3) - (1 : Int32)) &&& (65535 : Int32)))))
def f_Stk_pushWord (S : Sc) (x1 : Int32) : Sc := bs (f_Stk_pushByte S (x1 >>> ((8 : Int32) &&& 31))) (fun S1 => bs (f_Stk_pushByte S1 x1) (fun S3 => S3))
def f_Reg_putFlag (S : Sc) (x1 x2 : Int32) : Sc := if x2 = (0 : Int32) then ((pr S 8 (((S.1 8) &&& (x1 ^^^ (-1 : Int32)))))) else ((pr S 8 (((S.1 8) ||| x1))))
def f_Bus_readByte (S : Sc) (x1 : Int32) : Int32 × Sc := (((S.2.1 ((f_Bus_cellOf x1)).toNatClampNeg) &&& (255 : Int32)), (pr (pl S ((((S.1 9) &&& (7 : Int32))).toNatClampNeg) ((f_Bus_cellOf x1))) 9 (((S.1 9) + (1 : Int32)))))
def f_Bus_longPlace (x0 : Int32) : Int32 := (x0 &&& (16777215 : Int32))
def f_Bus_placeAfter (x0 : Int32) : Int32 := if (x0 &&& (16777216 : Int32)) = (0 : Int32) then ((f_Bus_longPlace (x0 + (1 : Int32)))) else ((f_Bus_bank0Place (x0 + (1 : Int32))))
def f_Bus_readWord (S : Sc) (x1 : Int32) : Int32 × Sc := bn (f_Bus_readByte S x1) (fun r1 S2 => bn (f_Bus_readByte S2 (f_Bus_placeAfter x1)) (fun r4 S5 => ((r1 ||| (r4 <<< ((8 : Int32) &&& 31))), S5)))
def f_Prc_enterInterrupt (S : Sc) (x1 : Int32) : Sc := bs (f_Stk_pushByte S (S.1 6)) (fun S1 => bs (f_Stk_pushWord S1 (S1.1 7)) (fun S3 => bs (f_Stk_pushByte S3 (S3.1 8)) (fun S5 => bs (f_Reg_putFlag S5 (4 : Int32) (1 : Int32)) (fun S7 => bs (f_Reg_putFlag S7 (8 : Int32) (0 : Int32)) (fun S9 => bn (f_Bus_readWord (pr S9 6 ((0 : Int32))) (f_Bus_bank0Place x1)) (fun r11 S12 => (pr S12 7 (r11))))))))
def f_Reg_has (S : Sc) (x1 : Int32) : Int32 := if ((S.1 8) &&& x1) = (0 : Int32) then ((0 : Int32)) else ((1 : Int32))
def f_Bus_programByte (S : Sc) (x1 x2 : Int32) : Int32 := ((S.2.1 ((((512 : Int32) * (x1 &&& (1 : Int32))) + (x2 &&& (511 : Int32)))).toNatClampNeg) &&& (255 : Int32))
def f_Opd_nextByte (S : Sc) : Int32 × Sc := ((f_Bus_programByte S (S.1 6) (S.1 7)), (pr S 7 ((((S.1 7) + (1 : Int32)) &&& (65535 : Int32)))))
def f_Opd_isMode (x0 : Int32) : Int32 := if x0 = (18 : Int32) then ((1 : Int32)) else (if (x0 &&& (1 : Int32)) = (1 : Int32) then (if (x0 &&& (15 : Int32)) = (11 : Int32) then ((0 : Int32)) else ((1 : Int32))) else ((0 : Int32)))
def f_Reg_wideA (S : Sc) : Int32 := if ((S.1 8) &&& (32 : Int32)) = (0 : Int32) then ((1 : Int32)) else ((0 : Int32))
def f_Opd_direct (S : Sc) (x1 : Int32) : Int32 × Sc := bn (f_Opd_nextByte S) (fun r1 S2 => ((f_Bus_bank0Place (((S.1 4) + r1) + x1)), S2))
def f_Opd_nextWord (S : Sc) : Int32 × Sc := bn (f_Opd_nextByte S) (fun r1 S2 => bn (f_Opd_nextByte S2) (fun r4 S5 => ((r1 ||| (r4 <<< ((8 : Int32) &&& 31))), S5)))
def f_Opd_inDataBank (S : Sc) (x1 x2 : Int32) : Int32 := (f_Bus_longPlace ((((S.1 5) <<< ((16 : Int32) &&& 31)) + x1) + x2))
def f_Opd_nextLong (S : Sc) : Int32 × Sc := bn (f_Opd_nextByte S) (fun r1 S2 => bn (f_Opd_nextByte S2) (fun r4 S5 => bn (f_Opd_nextByte S5) (fun r7 S8 => (((r1 ||| (r4 <<< ((8 : Int32) &&& 31))) ||| (r7 <<< ((16 : Int32) &&& 31))), S8))))
def f_Bus_readLong (S : Sc) (x1 : Int32) : Int32 × Sc := bn (f_Bus_readByte S x1) (fun r1 S2 => bn (f_Bus_readByte S2 (f_Bus_placeAfter x1)) (fun r4 S5 => bn (f_Bus_readByte S5 (f_Bus_placeAfter (f_Bus_placeAfter x1))) (fun r7 S8 => (((r1 ||| (r4 <<< ((8 : Int32) &&& 31))) ||| (r7 <<< ((16 : Int32) &&& 31))), S8))))
def f_Opd_onStack (S : Sc) : Int32 × Sc := bn (f_Opd_nextByte S) (fun r1 S2 => ((f_Bus_bank0Place ((S.1 3) + r1)), S2))
def f_Opd_place (S : Sc) (x1 : Int32) : Int32 × Sc := if x1 = (1 : Int32) then (bn (f_Opd_direct S (S.1 1)) (fun r2 S3 => bn (f_Bus_readWord S3 r2) (fun r5 S6 => ((f_Opd_inDataBank S6 r5 (0 : Int32)), S6)))) else (if x1 = (2 : Int32) then (((0 : Int32), S)) else (if x1 = (3 : Int32) then (bn (f_Opd_onStack S) (fun r10 S11 => (r10, S11))) else (if x1 = (4 : Int32) then (((0 : Int32), S)) else (if x1 = (5 : Int32) then (bn (f_Opd_direct S (0 : Int32)) (fun r15 S16 => (r15, S16))) else (if x1 = (6 : Int32) then (((0 : Int32), S)) else (if x1 = (7 : Int32) then (bn (f_Opd_direct S (0 : Int32)) (fun r20 S21 => bn (f_Bus_readLong S21 r20) (fun r23 S24 => (r23, S24)))) else (if x1 = (8 : Int32) then (((0 : Int32), S)) else (if x1 = (9 : Int32) then (((0 : Int32), S)) else (if x1 = (10 : Int32) then (((0 : Int32), S)) else (if x1 = (11 : Int32) then (((0 : Int32), S)) else (if x1 = (12 : Int32) then (((0 : Int32), S)) else (if x1 = (13 : Int32) then (bn (f_Opd_nextWord S) (fun r32 S33 => ((f_Opd_inDataBank S33 r32 (0 : Int32)), S33))) else (if x1 = (14 : Int32) then (((0 : Int32), S)) else (if x1 = (15 : Int32) then (bn (f_Opd_nextLong S) (fun r37 S38 => (r37, S38))) else (if x1 = (16 : Int32) then (((0 : Int32), S)) else (if x1 = (17 : Int32) then (bn (f_Opd_direct S (0 : Int32)) (fun r42 S43 => bn (f_Bus_readWord S43 r42) (fun r45 S46 => ((f_Opd_inDataBank S46 r45 (S46.1 2)), S46)))) else (if x1 = (18 : Int32) then (bn (f_Opd_direct S (0 : Int32)) (fun r49 S50 => bn (f_Bus_readWord S50 r49) (fun r52 S53 => ((f_Opd_inDataBank S53 r52 (0 : Int32)), S53)))) else (if x1 = (19 : Int32) then (bn (f_Opd_onStack S) (fun r56 S57 => bn (f_Bus_readWord S57 r56) (fun r59 S60 => ((f_Opd_inDataBank S60 r59 (S60.1 2)), S60)))) else (if x1 = (20 : Int32) then (((0 : Int32), S)) else (if x1 = (21 : Int32) then (bn (f_Opd_direct S (S.1 1)) (fun r64 S65 => (r64, S65))) else (if x1 = (22 : Int32) then (((0 : Int32), S)) else (if x1 = (23 : Int32) then (bn (f_Opd_direct S (0 : Int32)) (fun r69 S70 => bn (f_Bus_readLong S70 r69) (fun r72 S73 => ((f_Bus_longPlace (r72 + (S73.1 2))), S73)))) else (if x1 = (24 : Int32) then (((0 : Int32), S)) else (if x1 = (25 : Int32) then (bn (f_Opd_nextWord S) (fun r77 S78 => ((f_Opd_inDataBank S78 r77 (S78.1 2)), S78))) else (if x1 = (26 : Int32) then (((0 : Int32), S)) else (if x1 = (27 : Int32) then (((0 : Int32), S)) else (if x1 = (28 : Int32) then (((0 : Int32), S)) else (if x1 = (29 : Int32) then (bn (f_Opd_nextWord S) (fun r84 S85 => ((f_Opd_inDataBank S85 r84 (S85.1 1)), S85))) else (if x1 = (30 : Int32) then (((0 : Int32), S)) else (if x1 = (31 : Int32) then (bn (f_Opd_nextLong S) (fun r89 S90 => ((f_Bus_longPlace (r89 + (S90.1 1))), S90))) else (((0 : Int32), S))))))))))))))))))))))))))))))))
def f_Bus_writeValue (S : Sc) (x1 x2 x3 : Int32) : Sc := bs (f_Bus_writeByte S x1 x2) (fun S1 => if x3 = (0 : Int32) then (S1) else (bs (f_Bus_writeByte S1 (f_Bus_placeAfter x1) (x2 >>> ((8 : Int32) &&& 31))) (fun S4 => S4)))
def f_Opd_nextValue (S : Sc) (x1 : Int32) : Int32 × Sc := if x1 = (0 : Int32) then (bn (f_Opd_nextByte S) (fun r2 S3 => (r2, S3))) else (bn (f_Opd_nextWord S) (fun r5 S6 => (r5, S6)))
def f_Bus_readValue (S : Sc) (x1 x2 : Int32) : Int32 × Sc := if x2 = (0 : Int32) then (bn (f_Bus_readByte S x1) (fun r2 S3 => (r2, S3))) else (bn (f_Bus_readWord S x1) (fun r5 S6 => (r5, S6)))
def f_Reg_a (S : Sc) : Int32 := ((S.1 0) &&& (f_Reg_maskOf (f_Reg_wideA S)))
def f_Reg_signOf (x0 : Int32) : Int32 := if x0 = (0 : Int32) then ((128 : Int32)) else ((32768 : Int32))
def f_Reg_showResult (S : Sc) (x1 x2 : Int32) : Sc := if (x1 &&& (f_Reg_signOf x2)) = (0 : Int32) then (if x1 = (0 : Int32) then ((pr S 8 (((((S.1 8) &&& (-131 : Int32)) ||| (0 : Int32)) ||| (2 : Int32))))) else ((pr S 8 (((((S.1 8) &&& (-131 : Int32)) ||| (0 : Int32)) ||| (0 : Int32)))))) else (if x1 = (0 : Int32) then ((pr S 8 (((((S.1 8) &&& (-131 : Int32)) ||| (128 : Int32)) ||| (2 : Int32))))) else ((pr S 8 (((((S.1 8) &&& (-131 : Int32)) ||| (128 : Int32)) ||| (0 : Int32))))))
def f_Reg_loadA (S : Sc) (x1 : Int32) : Sc := bs (f_Reg_showResult (pr S 0 ((((S.1 0) &&& ((f_Reg_maskOf (f_Reg_wideA S)) ^^^ (-1 : Int32))) ||| (x1 &&& (f_Reg_maskOf (f_Reg_wideA S)))))) (x1 &&& (f_Reg_maskOf (f_Reg_wideA S))) (f_Reg_wideA (pr S 0 ((((S.1 0) &&& ((f_Reg_maskOf (f_Reg_wideA S)) ^^^ (-1 : Int32))) ||| (x1 &&& (f_Reg_maskOf (f_Reg_wideA S)))))))) (fun S1 => S1)
def f_Prc_addToA (S : Sc) (x1 : Int32) : Sc := if (((((f_Reg_a S) ^^^ x1) ^^^ (-1 : Int32)) &&& ((f_Reg_a S) ^^^ (((f_Reg_a S) + x1) + ((S.1 8) &&& (1 : Int32))))) &&& (f_Reg_signOf (f_Reg_wideA S))) = (0 : Int32) then (bs (f_Reg_putFlag S (64 : Int32) (0 : Int32)) (fun S2 => if (((f_Reg_a S) + x1) + ((S.1 8) &&& (1 : Int32))) ≤ (f_Reg_maskOf (f_Reg_wideA S)) then (bs (f_Reg_putFlag S2 (1 : Int32) (0 : Int32)) (fun S5 => bs (f_Reg_loadA S5 (((f_Reg_a S) + x1) + ((S.1 8) &&& (1 : Int32)))) (fun S7 => S7))) else (bs (f_Reg_putFlag S2 (1 : Int32) (1 : Int32)) (fun S9 => bs (f_Reg_loadA S9 (((f_Reg_a S) + x1) + ((S.1 8) &&& (1 : Int32)))) (fun S11 => S11))))) else (bs (f_Reg_putFlag S (64 : Int32) (1 : Int32)) (fun S13 => if (((f_Reg_a S) + x1) + ((S.1 8) &&& (1 : Int32))) ≤ (f_Reg_maskOf (f_Reg_wideA S)) then (bs (f_Reg_putFlag S13 (1 : Int32) (0 : Int32)) (fun S16 => bs (f_Reg_loadA S16 (((f_Reg_a S) + x1) + ((S.1 8) &&& (1 : Int32)))) (fun S18 => S18))) else (bs (f_Reg_putFlag S13 (1 : Int32) (1 : Int32)) (fun S20 => bs (f_Reg_loadA S20 (((f_Reg_a S) + x1) + ((S.1 8) &&& (1 : Int32)))) (fun S22 => S22)))))
def f_Prc_compare (S : Sc) (x1 x2 x3 : Int32) : Sc := if x1 < x2 then (bs (f_Reg_putFlag S (1 : Int32) (0 : Int32)) (fun S2 => bs (f_Reg_showResult S2 ((x1 - x2) &&& (f_Reg_maskOf x3)) x3) (fun S4 => S4))) else (bs (f_Reg_putFlag S (1 : Int32) (1 : Int32)) (fun S6 => bs (f_Reg_showResult S6 ((x1 - x2) &&& (f_Reg_maskOf x3)) x3) (fun S8 => S8)))
def f_Prc_useAccumulator (S : Sc) (x1 : Int32) : Int32 × Sc := if (f_Opd_isMode (x1 &&& (31 : Int32))) = (0 : Int32) then (((0 : Int32), S)) else (if x1 = (137 : Int32) then (((0 : Int32), S)) else (if (x1 >>> ((5 : Int32) &&& 31)) = (4 : Int32) then (bn (f_Opd_place S (x1 &&& (31 : Int32))) (fun r56 S57 => bs (f_Bus_writeValue S57 r56 (S57.1 0) (f_Reg_wideA S)) (fun S59 => ((1 : Int32), S59)))) else (if (x1 &&& (31 : Int32)) = (9 : Int32) then (bn (f_Opd_nextValue S (f_Reg_wideA S)) (fun r32 S33 => if (x1 >>> ((5 : Int32) &&& 31)) = (0 : Int32) then (bs (f_Reg_loadA S33 ((f_Reg_a S33) ||| r32)) (fun S36 => ((1 : Int32), S36))) else (if (x1 >>> ((5 : Int32) &&& 31)) = (1 : Int32) then (bs (f_Reg_loadA S33 ((f_Reg_a S33) &&& r32)) (fun S39 => ((1 : Int32), S39))) else (if (x1 >>> ((5 : Int32) &&& 31)) = (2 : Int32) then (bs (f_Reg_loadA S33 ((f_Reg_a S33) ^^^ r32)) (fun S42 => ((1 : Int32), S42))) else (if (x1 >>> ((5 : Int32) &&& 31)) = (3 : Int32) then (bs (f_Prc_addToA S33 r32) (fun S45 => ((1 : Int32), S45))) else (if (x1 >>> ((5 : Int32) &&& 31)) = (5 : Int32) then (bs (f_Reg_loadA S33 r32) (fun S48 => ((1 : Int32), S48))) else (if (x1 >>> ((5 : Int32) &&& 31)) = (6 : Int32) then (bs (f_Prc_compare S33 (f_Reg_a S33) r32 (f_Reg_wideA S)) (fun S51 => ((1 : Int32), S51))) else (if (x1 >>> ((5 : Int32) &&& 31)) = (7 : Int32) then (bs (f_Prc_addToA S33 ((r32 ^^^ (-1 : Int32)) &&& (f_Reg_maskOf (f_Reg_wideA S)))) (fun S54 => ((1 : Int32), S54))) else (((0 : Int32), S33)))))))))) else (bn (f_Opd_place S (x1 &&& (31 : Int32))) (fun r5 S6 => bn (f_Bus_readValue S6 r5 (f_Reg_wideA S)) (fun r8 S9 => if (x1 >>> ((5 : Int32) &&& 31)) = (0 : Int32) then (bs (f_Reg_loadA S9 ((f_Reg_a S9) ||| r8)) (fun S12 => ((1 : Int32), S12))) else (if (x1 >>> ((5 : Int32) &&& 31)) = (1 : Int32) then (bs (f_Reg_loadA S9 ((f_Reg_a S9) &&& r8)) (fun S15 => ((1 : Int32), S15))) else (if (x1 >>> ((5 : Int32) &&& 31)) = (2 : Int32) then (bs (f_Reg_loadA S9 ((f_Reg_a S9) ^^^ r8)) (fun S18 => ((1 : Int32), S18))) else (if (x1 >>> ((5 : Int32) &&& 31)) = (3 : Int32) then (bs (f_Prc_addToA S9 r8) (fun S21 => ((1 : Int32), S21))) else (if (x1 >>> ((5 : Int32) &&& 31)) = (5 : Int32) then (bs (f_Reg_loadA S9 r8) (fun S24 => ((1 : Int32), S24))) else (if (x1 >>> ((5 : Int32) &&& 31)) = (6 : Int32) then (bs (f_Prc_compare S9 (f_Reg_a S9) r8 (f_Reg_wideA S)) (fun S27 => ((1 : Int32), S27))) else (if (x1 >>> ((5 : Int32) &&& 31)) = (7 : Int32) then (bs (f_Prc_addToA S9 ((r8 ^^^ (-1 : Int32)) &&& (f_Reg_maskOf (f_Reg_wideA S)))) (fun S30 => ((1 : Int32), S30))) else (((0 : Int32), S9))))))))))))))
def f_Reg_loadX (S : Sc) (x1 : Int32) : Sc := bs (f_Reg_showResult (pr S 1 ((x1 &&& (f_Reg_indexMask S)))) (x1 &&& (f_Reg_indexMask S)) (f_Reg_wideIndex (pr S 1 ((x1 &&& (f_Reg_indexMask S)))))) (fun S1 => S1)
def f_Reg_loadY (S : Sc) (x1 : Int32) : Sc := bs (f_Reg_showResult (pr S 2 ((x1 &&& (f_Reg_indexMask S)))) (x1 &&& (f_Reg_indexMask S)) (f_Reg_wideIndex (pr S 2 ((x1 &&& (f_Reg_indexMask S)))))) (fun S1 => S1)
def f_Prc_useIndex (S : Sc) (x1 : Int32) : Int32 × Sc := if x1 = (132 : Int32) then (bn (f_Opd_place S (5 : Int32)) (fun r2 S3 => bs (f_Bus_writeValue S3 r2 (S3.1 2) (f_Reg_wideIndex S)) (fun S5 => ((1 : Int32), S5)))) else (if x1 = (134 : Int32) then (bn (f_Opd_place S (5 : Int32)) (fun r8 S9 => bs (f_Bus_writeValue S9 r8 (S9.1 1) (f_Reg_wideIndex S)) (fun S11 => ((1 : Int32), S11)))) else (if x1 = (140 : Int32) then (bn (f_Opd_place S (13 : Int32)) (fun r14 S15 => bs (f_Bus_writeValue S15 r14 (S15.1 2) (f_Reg_wideIndex S)) (fun S17 => ((1 : Int32), S17)))) else (if x1 = (142 : Int32) then (bn (f_Opd_place S (13 : Int32)) (fun r20 S21 => bs (f_Bus_writeValue S21 r20 (S21.1 1) (f_Reg_wideIndex S)) (fun S23 => ((1 : Int32), S23)))) else (if x1 = (160 : Int32) then (bn (f_Opd_nextValue S (f_Reg_wideIndex S)) (fun r26 S27 => bs (f_Reg_loadY S27 r26) (fun S29 => ((1 : Int32), S29)))) else (if x1 = (162 : Int32) then (bn (f_Opd_nextValue S (f_Reg_wideIndex S)) (fun r32 S33 => bs (f_Reg_loadX S33 r32) (fun S35 => ((1 : Int32), S35)))) else (if x1 = (164 : Int32) then (bn (f_Opd_place S (5 : Int32)) (fun r38 S39 => bn (f_Bus_readValue S39 r38 (f_Reg_wideIndex S)) (fun r41 S42 => bs (f_Reg_loadY S42 r41) (fun S44 => ((1 : Int32), S44))))) else (if x1 = (166 : Int32) then (bn (f_Opd_place S (5 : Int32)) (fun r47 S48 => bn (f_Bus_readValue S48 r47 (f_Reg_wideIndex S)) (fun r50 S51 => bs (f_Reg_loadX S51 r50) (fun S53 => ((1 : Int32), S53))))) else (if x1 = (172 : Int32) then (bn (f_Opd_place S (13 : Int32)) (fun r56 S57 => bn (f_Bus_readValue S57 r56 (f_Reg_wideIndex S)) (fun r59 S60 => bs (f_Reg_loadY S60 r59) (fun S62 => ((1 : Int32), S62))))) else (if x1 = (174 : Int32) then (bn (f_Opd_place S (13 : Int32)) (fun r65 S66 => bn (f_Bus_readValue S66 r65 (f_Reg_wideIndex S)) (fun r68 S69 => bs (f_Reg_loadX S69 r68) (fun S71 => ((1 : Int32), S71))))) else (if x1 = (192 : Int32) then (bn (f_Opd_nextValue S (f_Reg_wideIndex S)) (fun r74 S75 => bs (f_Prc_compare S75 (S.1 2) r74 (f_Reg_wideIndex S)) (fun S77 => ((1 : Int32), S77)))) else (if x1 = (224 : Int32) then (bn (f_Opd_nextValue S (f_Reg_wideIndex S)) (fun r80 S81 => bs (f_Prc_compare S81 (S.1 1) r80 (f_Reg_wideIndex S)) (fun S83 => ((1 : Int32), S83)))) else (((0 : Int32), S)))))))))))))
def f_Prc_storeZero (S : Sc) (x1 : Int32) : Int32 × Sc := if x1 = (100 : Int32) then (bn (f_Opd_place S (5 : Int32)) (fun r2 S3 => bs (f_Bus_writeValue S3 r2 (0 : Int32) (f_Reg_wideA S3)) (fun S5 => ((1 : Int32), S5)))) else (if x1 = (156 : Int32) then (bn (f_Opd_place S (13 : Int32)) (fun r8 S9 => bs (f_Bus_writeValue S9 r8 (0 : Int32) (f_Reg_wideA S9)) (fun S11 => ((1 : Int32), S11)))) else (((0 : Int32), S)))
def f_Prc_changed (S : Sc) (x1 x2 x3 : Int32) : Int32 × Sc := if x1 = (0 : Int32) then (if (x2 &&& (f_Reg_signOf x3)) = (0 : Int32) then (bs (f_Reg_putFlag S (1 : Int32) (0 : Int32)) (fun S3 => (((x2 <<< ((1 : Int32) &&& 31)) &&& (f_Reg_maskOf x3)), S3))) else (bs (f_Reg_putFlag S (1 : Int32) (1 : Int32)) (fun S5 => (((x2 <<< ((1 : Int32) &&& 31)) &&& (f_Reg_maskOf x3)), S5)))) else (if x1 = (1 : Int32) then (if (x2 &&& (f_Reg_signOf x3)) = (0 : Int32) then (bs (f_Reg_putFlag S (1 : Int32) (0 : Int32)) (fun S9 => if (f_Reg_has S (1 : Int32)) = (0 : Int32) then (((((x2 <<< ((1 : Int32) &&& 31)) &&& (f_Reg_maskOf x3)) ||| (0 : Int32)), S9)) else (((((x2 <<< ((1 : Int32) &&& 31)) &&& (f_Reg_maskOf x3)) ||| (1 : Int32)), S9)))) else (bs (f_Reg_putFlag S (1 : Int32) (1 : Int32)) (fun S12 => if (f_Reg_has S (1 : Int32)) = (0 : Int32) then (((((x2 <<< ((1 : Int32) &&& 31)) &&& (f_Reg_maskOf x3)) ||| (0 : Int32)), S12)) else (((((x2 <<< ((1 : Int32) &&& 31)) &&& (f_Reg_maskOf x3)) ||| (1 : Int32)), S12))))) else (if x1 = (2 : Int32) then (if (x2 &&& (1 : Int32)) = (0 : Int32) then (bs (f_Reg_putFlag S (1 : Int32) (0 : Int32)) (fun S17 => ((x2 >>> ((1 : Int32) &&& 31)), S17))) else (bs (f_Reg_putFlag S (1 : Int32) (1 : Int32)) (fun S19 => ((x2 >>> ((1 : Int32) &&& 31)), S19)))) else (if x1 = (3 : Int32) then (if (x2 &&& (1 : Int32)) = (0 : Int32) then (bs (f_Reg_putFlag S (1 : Int32) (0 : Int32)) (fun S23 => if (f_Reg_has S (1 : Int32)) = (0 : Int32) then ((((x2 >>> ((1 : Int32) &&& 31)) ||| (0 : Int32)), S23)) else ((((x2 >>> ((1 : Int32) &&& 31)) ||| (f_Reg_signOf x3)), S23)))) else (bs (f_Reg_putFlag S (1 : Int32) (1 : Int32)) (fun S26 => if (f_Reg_has S (1 : Int32)) = (0 : Int32) then ((((x2 >>> ((1 : Int32) &&& 31)) ||| (0 : Int32)), S26)) else ((((x2 >>> ((1 : Int32) &&& 31)) ||| (f_Reg_signOf x3)), S26))))) else (if x1 = (4 : Int32) then ((x2, S)) else (if x1 = (5 : Int32) then ((x2, S)) else (if x1 = (6 : Int32) then ((((x2 - (1 : Int32)) &&& (f_Reg_maskOf x3)), S)) else (if x1 = (7 : Int32) then ((((x2 + (1 : Int32)) &&& (f_Reg_maskOf x3)), S)) else ((x2, S)))))))))
def f_Prc_changeMemory (S : Sc) (x1 : Int32) : Int32 × Sc := if x1 = (6 : Int32) then (bn (f_Opd_place S (5 : Int32)) (fun r2 S3 => bn (f_Bus_readValue S3 r2 (f_Reg_wideA S)) (fun r5 S6 => bn (f_Prc_changed S6 (x1 >>> ((5 : Int32) &&& 31)) r5 (f_Reg_wideA S)) (fun r8 S9 => bs (f_Reg_showResult S9 r8 (f_Reg_wideA S)) (fun S11 => bs (f_Bus_writeValue S11 r2 r8 (f_Reg_wideA S)) (fun S13 => ((1 : Int32), S13))))))) else (if x1 = (38 : Int32) then (bn (f_Opd_place S (5 : Int32)) (fun r16 S17 => bn (f_Bus_readValue S17 r16 (f_Reg_wideA S)) (fun r19 S20 => bn (f_Prc_changed S20 (x1 >>> ((5 : Int32) &&& 31)) r19 (f_Reg_wideA S)) (fun r22 S23 => bs (f_Reg_showResult S23 r22 (f_Reg_wideA S)) (fun S25 => bs (f_Bus_writeValue S25 r16 r22 (f_Reg_wideA S)) (fun S27 => ((1 : Int32), S27))))))) else (if x1 = (70 : Int32) then (bn (f_Opd_place S (5 : Int32)) (fun r30 S31 => bn (f_Bus_readValue S31 r30 (f_Reg_wideA S)) (fun r33 S34 => bn (f_Prc_changed S34 (x1 >>> ((5 : Int32) &&& 31)) r33 (f_Reg_wideA S)) (fun r36 S37 => bs (f_Reg_showResult S37 r36 (f_Reg_wideA S)) (fun S39 => bs (f_Bus_writeValue S39 r30 r36 (f_Reg_wideA S)) (fun S41 => ((1 : Int32), S41))))))) else (if x1 = (102 : Int32) then (bn (f_Opd_place S (5 : Int32)) (fun r44 S45 => bn (f_Bus_readValue S45 r44 (f_Reg_wideA S)) (fun r47 S48 => bn (f_Prc_changed S48 (x1 >>> ((5 : Int32) &&& 31)) r47 (f_Reg_wideA S)) (fun r50 S51 => bs (f_Reg_showResult S51 r50 (f_Reg_wideA S)) (fun S53 => bs (f_Bus_writeValue S53 r44 r50 (f_Reg_wideA S)) (fun S55 => ((1 : Int32), S55))))))) else (if x1 = (198 : Int32) then (bn (f_Opd_place S (5 : Int32)) (fun r58 S59 => bn (f_Bus_readValue S59 r58 (f_Reg_wideA S)) (fun r61 S62 => bn (f_Prc_changed S62 (x1 >>> ((5 : Int32) &&& 31)) r61 (f_Reg_wideA S)) (fun r64 S65 => bs (f_Reg_showResult S65 r64 (f_Reg_wideA S)) (fun S67 => bs (f_Bus_writeValue S67 r58 r64 (f_Reg_wideA S)) (fun S69 => ((1 : Int32), S69))))))) else (if x1 = (206 : Int32) then (bn (f_Opd_place S (13 : Int32)) (fun r72 S73 => bn (f_Bus_readValue S73 r72 (f_Reg_wideA S)) (fun r75 S76 => bn (f_Prc_changed S76 (x1 >>> ((5 : Int32) &&& 31)) r75 (f_Reg_wideA S)) (fun r78 S79 => bs (f_Reg_showResult S79 r78 (f_Reg_wideA S)) (fun S81 => bs (f_Bus_writeValue S81 r72 r78 (f_Reg_wideA S)) (fun S83 => ((1 : Int32), S83))))))) else (if x1 = (230 : Int32) then (bn (f_Opd_place S (5 : Int32)) (fun r86 S87 => bn (f_Bus_readValue S87 r86 (f_Reg_wideA S)) (fun r89 S90 => bn (f_Prc_changed S90 (x1 >>> ((5 : Int32) &&& 31)) r89 (f_Reg_wideA S)) (fun r92 S93 => bs (f_Reg_showResult S93 r92 (f_Reg_wideA S)) (fun S95 => bs (f_Bus_writeValue S95 r86 r92 (f_Reg_wideA S)) (fun S97 => ((1 : Int32), S97))))))) else (if x1 = (238 : Int32) then (bn (f_Opd_place S (13 : Int32)) (fun r100 S101 => bn (f_Bus_readValue S101 r100 (f_Reg_wideA S)) (fun r103 S104 => bn (f_Prc_changed S104 (x1 >>> ((5 : Int32) &&& 31)) r103 (f_Reg_wideA S)) (fun r106 S107 => bs (f_Reg_showResult S107 r106 (f_Reg_wideA S)) (fun S109 => bs (f_Bus_writeValue S109 r100 r106 (f_Reg_wideA S)) (fun S111 => ((1 : Int32), S111))))))) else (((0 : Int32), S)))))))))
def f_Prc_changeRegister (S : Sc) (x1 : Int32) : Int32 × Sc := if x1 = (10 : Int32) then (bn (f_Prc_changed S (x1 >>> ((5 : Int32) &&& 31)) (f_Reg_a S) (f_Reg_wideA S)) (fun r2 S3 => bs (f_Reg_loadA S3 r2) (fun S5 => ((1 : Int32), S5)))) else (if x1 = (26 : Int32) then (bn (f_Prc_changed S (7 : Int32) (f_Reg_a S) (f_Reg_wideA S)) (fun r8 S9 => bs (f_Reg_loadA S9 r8) (fun S11 => ((1 : Int32), S11)))) else (if x1 = (42 : Int32) then (bn (f_Prc_changed S (x1 >>> ((5 : Int32) &&& 31)) (f_Reg_a S) (f_Reg_wideA S)) (fun r14 S15 => bs (f_Reg_loadA S15 r14) (fun S17 => ((1 : Int32), S17)))) else (if x1 = (58 : Int32) then (bn (f_Prc_changed S (6 : Int32) (f_Reg_a S) (f_Reg_wideA S)) (fun r20 S21 => bs (f_Reg_loadA S21 r20) (fun S23 => ((1 : Int32), S23)))) else (if x1 = (74 : Int32) then (bn (f_Prc_changed S (x1 >>> ((5 : Int32) &&& 31)) (f_Reg_a S) (f_Reg_wideA S)) (fun r26 S27 => bs (f_Reg_loadA S27 r26) (fun S29 => ((1 : Int32), S29)))) else (if x1 = (106 : Int32) then (bn (f_Prc_changed S (x1 >>> ((5 : Int32) &&& 31)) (f_Reg_a S) (f_Reg_wideA S)) (fun r32 S33 => bs (f_Reg_loadA S33 r32) (fun S35 => ((1 : Int32), S35)))) else (if x1 = (136 : Int32) then (bs (f_Reg_loadY S ((S.1 2) - (1 : Int32))) (fun S38 => ((1 : Int32), S38))) else (if x1 = (200 : Int32) then (bs (f_Reg_loadY S ((S.1 2) + (1 : Int32))) (fun S41 => ((1 : Int32), S41))) else (if x1 = (202 : Int32) then (bs (f_Reg_loadX S ((S.1 1) - (1 : Int32))) (fun S44 => ((1 : Int32), S44))) else (if x1 = (232 : Int32) then (bs (f_Reg_loadX S ((S.1 1) + (1 : Int32))) (fun S47 => ((1 : Int32), S47))) else (((0 : Int32), S)))))))))))
def f_Reg_loadD (S : Sc) (x1 : Int32) : Sc := bs (f_Reg_showResult (pr S 4 (x1)) x1 (1 : Int32)) (fun S1 => S1)
def f_Reg_loadC (S : Sc) (x1 : Int32) : Sc := bs (f_Reg_showResult (pr S 0 (x1)) x1 (1 : Int32)) (fun S1 => S1)
def f_Prc_transfer (S : Sc) (x1 : Int32) : Int32 × Sc := if x1 = (27 : Int32) then (((1 : Int32), (pr S 3 (S.1 0)))) else (if x1 = (59 : Int32) then (bs (f_Reg_loadC S (S.1 3)) (fun S3 => ((1 : Int32), S3))) else (if x1 = (91 : Int32) then (bs (f_Reg_loadD S (S.1 0)) (fun S6 => ((1 : Int32), S6))) else (if x1 = (123 : Int32) then (bs (f_Reg_loadC S (S.1 4)) (fun S9 => ((1 : Int32), S9))) else (if x1 = (138 : Int32) then (bs (f_Reg_loadA S (S.1 1)) (fun S12 => ((1 : Int32), S12))) else (if x1 = (152 : Int32) then (bs (f_Reg_loadA S (S.1 2)) (fun S15 => ((1 : Int32), S15))) else (if x1 = (154 : Int32) then (((1 : Int32), (pr S 3 (S.1 1)))) else (if x1 = (155 : Int32) then (bs (f_Reg_loadY S (S.1 1)) (fun S19 => ((1 : Int32), S19))) else (if x1 = (168 : Int32) then (bs (f_Reg_loadY S (S.1 0)) (fun S22 => ((1 : Int32), S22))) else (if x1 = (170 : Int32) then (bs (f_Reg_loadX S (S.1 0)) (fun S25 => ((1 : Int32), S25))) else (if x1 = (186 : Int32) then (bs (f_Reg_loadX S (S.1 3)) (fun S28 => ((1 : Int32), S28))) else (if x1 = (187 : Int32) then (bs (f_Reg_loadX S (S.1 2)) (fun S31 => ((1 : Int32), S31))) else (if x1 = (235 : Int32) then (bs (f_Reg_showResult (pr S 0 ((((S.1 0) >>> ((8 : Int32) &&& 31)) ||| (((S.1 0) &&& (255 : Int32)) <<< ((8 : Int32) &&& 31))))) ((((S.1 0) >>> ((8 : Int32) &&& 31)) ||| (((S.1 0) &&& (255 : Int32)) <<< ((8 : Int32) &&& 31))) &&& (255 : Int32)) (0 : Int32)) (fun S34 => ((1 : Int32), S34))) else (((0 : Int32), S))))))))))))))
def f_Stk_pushValue (S : Sc) (x1 x2 : Int32) : Sc := if x2 = (0 : Int32) then (bs (f_Stk_pushByte S x1) (fun S2 => S2)) else (bs (f_Stk_pushByte S (x1 >>> ((8 : Int32) &&& 31))) (fun S4 => bs (f_Stk_pushByte S4 x1) (fun S6 => S6)))
def f_Prc_push (S : Sc) (x1 : Int32) : Int32 × Sc := if x1 = (8 : Int32) then (bs (f_Stk_pushByte S (S.1 8)) (fun S2 => ((1 : Int32), S2))) else (if x1 = (11 : Int32) then (bs (f_Stk_pushWord S (S.1 4)) (fun S5 => ((1 : Int32), S5))) else (if x1 = (72 : Int32) then (bs (f_Stk_pushValue S (S.1 0) (f_Reg_wideA S)) (fun S8 => ((1 : Int32), S8))) else (if x1 = (75 : Int32) then (bs (f_Stk_pushByte S (S.1 6)) (fun S11 => ((1 : Int32), S11))) else (if x1 = (90 : Int32) then (bs (f_Stk_pushValue S (S.1 2) (f_Reg_wideIndex S)) (fun S14 => ((1 : Int32), S14))) else (if x1 = (139 : Int32) then (bs (f_Stk_pushByte S (S.1 5)) (fun S17 => ((1 : Int32), S17))) else (if x1 = (218 : Int32) then (bs (f_Stk_pushValue S (S.1 1) (f_Reg_wideIndex S)) (fun S20 => ((1 : Int32), S20))) else (if x1 = (244 : Int32) then (bn (f_Opd_nextWord S) (fun r23 S24 => bs (f_Stk_pushWord S24 r23) (fun S26 => ((1 : Int32), S26)))) else (((0 : Int32), S)))))))))
def f_Stk_pullByte (S : Sc) : Int32 × Sc := bn (f_Bus_readByte (pr S 3 ((((S.1 3) + (1 : Int32)) &&& (65535 : Int32)))) (f_Bus_bank0Place (((S.1 3) + (1 : Int32)) &&& (65535 : Int32)))) (fun r1 S2 => (r1, S2))
def f_Stk_pullWord (S : Sc) : Int32 × Sc := bn (f_Stk_pullByte S) (fun r1 S2 => bn (f_Stk_pullByte S2) (fun r4 S5 => ((r1 ||| (r4 <<< ((8 : Int32) &&& 31))), S5)))
def f_Stk_pullValue (S : Sc) (x1 : Int32) : Int32 × Sc := if x1 = (0 : Int32) then (bn (f_Stk_pullByte S) (fun r2 S3 => (r2, S3))) else (bn (f_Stk_pullWord S) (fun r5 S6 => (r5, S6)))
def f_Reg_loadDataBank (S : Sc) (x1 : Int32) : Sc := bs (f_Reg_showResult (pr S 5 (x1)) x1 (0 : Int32)) (fun S1 => S1)
def f_Prc_pull (S : Sc) (x1 : Int32) : Int32 × Sc := if x1 = (40 : Int32) then (bn (f_Stk_pullByte S) (fun r2 S3 => bs (f_Reg_replaceP S3 r2) (fun S5 => ((1 : Int32), S5)))) else (if x1 = (43 : Int32) then (bn (f_Stk_pullWord S) (fun r8 S9 => bs (f_Reg_loadD S9 r8) (fun S11 => ((1 : Int32), S11)))) else (if x1 = (104 : Int32) then (bn (f_Stk_pullValue S (f_Reg_wideA S)) (fun r14 S15 => bs (f_Reg_loadA S15 r14) (fun S17 => ((1 : Int32), S17)))) else (if x1 = (122 : Int32) then (bn (f_Stk_pullValue S (f_Reg_wideIndex S)) (fun r20 S21 => bs (f_Reg_loadY S21 r20) (fun S23 => ((1 : Int32), S23)))) else (if x1 = (171 : Int32) then (bn (f_Stk_pullByte S) (fun r26 S27 => bs (f_Reg_loadDataBank S27 r26) (fun S29 => ((1 : Int32), S29)))) else (if x1 = (250 : Int32) then (bn (f_Stk_pullValue S (f_Reg_wideIndex S)) (fun r32 S33 => bs (f_Reg_loadX S33 r32) (fun S35 => ((1 : Int32), S35)))) else (((0 : Int32), S)))))))
def f_Reg_jumpTo (S : Sc) (x1 : Int32) : Sc := (pr S 7 ((x1 &&& (65535 : Int32))))
def f_Prc_branch (S : Sc) (x1 : Int32) : Int32 × Sc := if x1 = (130 : Int32) then (bn (f_Opd_nextWord S) (fun r19 S20 => bs (f_Reg_jumpTo S20 ((S20.1 7) + r19)) (fun S22 => ((1 : Int32), S22)))) else (if x1 = (128 : Int32) then (bn (f_Opd_nextByte S) (fun r14 S15 => bs (f_Reg_jumpTo S15 ((S15.1 7) + ((r14).toInt8.toInt32))) (fun S17 => ((1 : Int32), S17)))) else (if (x1 &&& (31 : Int32)) = (16 : Int32) then (bn (f_Opd_nextByte S) (fun r4 S5 => if (x1 &&& (32 : Int32)) = (0 : Int32) then (if (f_Reg_has S5 (bf ((x1 >>> ((6 : Int32) &&& 31))).toNatClampNeg)) = (0 : Int32) then (bs (f_Reg_jumpTo S5 ((S5.1 7) + ((r4).toInt8.toInt32))) (fun S9 => ((1 : Int32), S9))) else (((1 : Int32), S5))) else (if (f_Reg_has S5 (bf ((x1 >>> ((6 : Int32) &&& 31))).toNatClampNeg)) = (1 : Int32) then (bs (f_Reg_jumpTo S5 ((S5.1 7) + ((r4).toInt8.toInt32))) (fun S12 => ((1 : Int32), S12))) else (((1 : Int32), S5))))) else (((0 : Int32), S))))
def f_Reg_jumpLong (S : Sc) (x1 : Int32) : Sc := (pr (pr S 6 ((x1 >>> ((16 : Int32) &&& 31)))) 7 ((x1 &&& (65535 : Int32))))
def f_Prc_jump (S : Sc) (x1 : Int32) : Int32 × Sc := if x1 = (32 : Int32) then (bn (f_Opd_nextWord S) (fun r2 S3 => bs (f_Stk_pushWord S3 (((S3.1 7) - (1 : Int32)) &&& (65535 : Int32))) (fun S5 => bs (f_Reg_jumpTo S5 r2) (fun S7 => ((1 : Int32), S7))))) else (if x1 = (34 : Int32) then (bn (f_Opd_nextLong S) (fun r10 S11 => bs (f_Stk_pushByte S11 (S11.1 6)) (fun S13 => bs (f_Stk_pushWord S13 (((S13.1 7) - (1 : Int32)) &&& (65535 : Int32))) (fun S15 => bs (f_Reg_jumpLong S15 r10) (fun S17 => ((1 : Int32), S17)))))) else (if x1 = (64 : Int32) then (bn (f_Stk_pullByte S) (fun r20 S21 => bs (f_Reg_replaceP S21 r20) (fun S23 => bn (f_Stk_pullWord S23) (fun r25 S26 => bs (f_Reg_jumpTo S26 r25) (fun S28 => bn (f_Stk_pullByte S28) (fun r30 S31 => ((1 : Int32), (pr S31 6 (r30))))))))) else (if x1 = (76 : Int32) then (bn (f_Opd_nextWord S) (fun r34 S35 => bs (f_Reg_jumpTo S35 r34) (fun S37 => ((1 : Int32), S37)))) else (if x1 = (92 : Int32) then (bn (f_Opd_nextLong S) (fun r40 S41 => bs (f_Reg_jumpLong S41 r40) (fun S43 => ((1 : Int32), S43)))) else (if x1 = (96 : Int32) then (bn (f_Stk_pullWord S) (fun r46 S47 => bs (f_Reg_jumpTo S47 (r46 + (1 : Int32))) (fun S49 => ((1 : Int32), S49)))) else (if x1 = (107 : Int32) then (bn (f_Stk_pullWord S) (fun r52 S53 => bs (f_Reg_jumpTo S53 (r52 + (1 : Int32))) (fun S55 => bn (f_Stk_pullByte S55) (fun r57 S58 => ((1 : Int32), (pr S58 6 (r57))))))) else (((0 : Int32), S))))))))
def f_Prc_changeFlags (S : Sc) (x1 : Int32) : Int32 × Sc := if x1 = (24 : Int32) then (bs (f_Reg_putFlag S (1 : Int32) (0 : Int32)) (fun S2 => ((1 : Int32), S2))) else (if x1 = (56 : Int32) then (bs (f_Reg_putFlag S (1 : Int32) (1 : Int32)) (fun S5 => ((1 : Int32), S5))) else (if x1 = (88 : Int32) then (bs (f_Reg_putFlag S (4 : Int32) (0 : Int32)) (fun S8 => ((1 : Int32), S8))) else (if x1 = (120 : Int32) then (bs (f_Reg_putFlag S (4 : Int32) (1 : Int32)) (fun S11 => ((1 : Int32), S11))) else (if x1 = (184 : Int32) then (bs (f_Reg_putFlag S (64 : Int32) (0 : Int32)) (fun S14 => ((1 : Int32), S14))) else (if x1 = (194 : Int32) then (bn (f_Opd_nextByte S) (fun r17 S18 => bs (f_Reg_replaceP S18 ((S.1 8) &&& (r17 ^^^ (-1 : Int32)))) (fun S20 => ((1 : Int32), S20)))) else (if x1 = (216 : Int32) then (bs (f_Reg_putFlag S (8 : Int32) (0 : Int32)) (fun S23 => ((1 : Int32), S23))) else (if x1 = (226 : Int32) then (bn (f_Opd_nextByte S) (fun r26 S27 => bs (f_Reg_replaceP S27 ((S.1 8) ||| r26)) (fun S29 => ((1 : Int32), S29)))) else (if x1 = (234 : Int32) then (((1 : Int32), S)) else (if x1 = (248 : Int32) then (bs (f_Reg_putFlag S (8 : Int32) (1 : Int32)) (fun S33 => ((1 : Int32), S33))) else (((0 : Int32), S)))))))))))
def f_Prc_moveBlock (S : Sc) (x1 : Int32) : Int32 × Sc := if x1 = (84 : Int32) then (bn (f_Opd_nextByte S) (fun r2 S3 => bn (f_Opd_nextByte S3) (fun r5 S6 => bn (f_Bus_readByte (pr S6 5 (r2)) ((r5 <<< ((16 : Int32) &&& 31)) ||| (S6.1 1))) (fun r8 S9 => bs (f_Bus_writeByte S9 ((r2 <<< ((16 : Int32) &&& 31)) ||| (S6.1 2)) r8) (fun S11 => if S11.1 0 = (0 : Int32) then (((1 : Int32), (pr (pr (pr S11 1 ((((S11.1 1) + (1 : Int32)) &&& (f_Reg_indexMask S11)))) 2 ((((S11.1 2) + (1 : Int32)) &&& (f_Reg_indexMask (pr S11 1 ((((S11.1 1) + (1 : Int32)) &&& (f_Reg_indexMask S11)))))))) 0 ((((S11.1 0) - (1 : Int32)) &&& (65535 : Int32)))))) else (bs (f_Reg_jumpTo (pr (pr S11 1 ((((S11.1 1) + (1 : Int32)) &&& (f_Reg_indexMask S11)))) 2 ((((S11.1 2) + (1 : Int32)) &&& (f_Reg_indexMask (pr S11 1 ((((S11.1 1) + (1 : Int32)) &&& (f_Reg_indexMask S11)))))))) ((S.1 7) - (1 : Int32))) (fun S14 => ((1 : Int32), (pr S14 0 ((((S14.1 0) - (1 : Int32)) &&& (65535 : Int32)))))))))))) else (if x1 = (68 : Int32) then (bn (f_Opd_nextByte S) (fun r17 S18 => bn (f_Opd_nextByte S18) (fun r20 S21 => bn (f_Bus_readByte (pr S21 5 (r17)) ((r20 <<< ((16 : Int32) &&& 31)) ||| (S21.1 1))) (fun r23 S24 => bs (f_Bus_writeByte S24 ((r17 <<< ((16 : Int32) &&& 31)) ||| (S21.1 2)) r23) (fun S26 => if S26.1 0 = (0 : Int32) then (((1 : Int32), (pr (pr (pr S26 1 ((((S26.1 1) + (-1 : Int32)) &&& (f_Reg_indexMask S26)))) 2 ((((S26.1 2) + (-1 : Int32)) &&& (f_Reg_indexMask (pr S26 1 ((((S26.1 1) + (-1 : Int32)) &&& (f_Reg_indexMask S26)))))))) 0 ((((S26.1 0) - (1 : Int32)) &&& (65535 : Int32)))))) else (bs (f_Reg_jumpTo (pr (pr S26 1 ((((S26.1 1) + (-1 : Int32)) &&& (f_Reg_indexMask S26)))) 2 ((((S26.1 2) + (-1 : Int32)) &&& (f_Reg_indexMask (pr S26 1 ((((S26.1 1) + (-1 : Int32)) &&& (f_Reg_indexMask S26)))))))) ((S.1 7) - (1 : Int32))) (fun S29 => ((1 : Int32), (pr S29 0 ((((S29.1 0) - (1 : Int32)) &&& (65535 : Int32)))))))))))) else (((0 : Int32), S)))
def f_Prc_makeStep (S : Sc) : Sc := if S.1 10 = (0 : Int32) then (if S.1 11 = (0 : Int32) then (bn (f_Opd_nextByte (pr S 13 (((S.1 13) + (1 : Int32))))) (fun r3 S4 => if r3 = (0 : Int32) then (bn (f_Opd_nextByte S4) (fun r55 S56 => bs (f_Prc_enterInterrupt S56 (486 : Int32)) (fun S58 => S58))) else (bn (f_Prc_useAccumulator S4 r3) (fun r7 S8 => if r7 = (0 : Int32) then (bn (f_Prc_useIndex S8 r3) (fun r11 S12 => if r11 = (0 : Int32) then (bn (f_Prc_storeZero S12 r3) (fun r15 S16 => if r15 = (0 : Int32) then (bn (f_Prc_changeMemory S16 r3) (fun r19 S20 => if r19 = (0 : Int32) then (bn (f_Prc_changeRegister S20 r3) (fun r23 S24 => if r23 = (0 : Int32) then (bn (f_Prc_transfer S24 r3) (fun r27 S28 => if r27 = (0 : Int32) then (bn (f_Prc_push S28 r3) (fun r31 S32 => if r31 = (0 : Int32) then (bn (f_Prc_pull S32 r3) (fun r35 S36 => if r35 = (0 : Int32) then (bn (f_Prc_branch S36 r3) (fun r39 S40 => if r39 = (0 : Int32) then (bn (f_Prc_jump S40 r3) (fun r43 S44 => if r43 = (0 : Int32) then (bn (f_Prc_changeFlags S44 r3) (fun r47 S48 => if r47 = (0 : Int32) then (bn (f_Prc_moveBlock S48 r3) (fun r51 S52 => if r51 = (0 : Int32) then ((pr S52 12 ((1 : Int32)))) else ((pr S52 12 ((0 : Int32)))))) else ((pr S48 12 ((0 : Int32)))))) else ((pr S44 12 ((0 : Int32)))))) else ((pr S40 12 ((0 : Int32)))))) else ((pr S36 12 ((0 : Int32)))))) else ((pr S32 12 ((0 : Int32)))))) else ((pr S28 12 ((0 : Int32)))))) else ((pr S24 12 ((0 : Int32)))))) else ((pr S20 12 ((0 : Int32)))))) else ((pr S16 12 ((0 : Int32)))))) else ((pr S12 12 ((0 : Int32)))))) else ((pr S8 12 ((0 : Int32)))))))) else (if (f_Reg_has (pr S 13 (((S.1 13) + (1 : Int32)))) (4 : Int32)) = (0 : Int32) then (bs (f_Prc_enterInterrupt (pr S 13 (((S.1 13) + (1 : Int32)))) (494 : Int32)) (fun S118 => S118)) else (bn (f_Opd_nextByte (pr S 13 (((S.1 13) + (1 : Int32))))) (fun r61 S62 => if r61 = (0 : Int32) then (bn (f_Opd_nextByte S62) (fun r113 S114 => bs (f_Prc_enterInterrupt S114 (486 : Int32)) (fun S116 => S116))) else (bn (f_Prc_useAccumulator S62 r61) (fun r65 S66 => if r65 = (0 : Int32) then (bn (f_Prc_useIndex S66 r61) (fun r69 S70 => if r69 = (0 : Int32) then (bn (f_Prc_storeZero S70 r61) (fun r73 S74 => if r73 = (0 : Int32) then (bn (f_Prc_changeMemory S74 r61) (fun r77 S78 => if r77 = (0 : Int32) then (bn (f_Prc_changeRegister S78 r61) (fun r81 S82 => if r81 = (0 : Int32) then (bn (f_Prc_transfer S82 r61) (fun r85 S86 => if r85 = (0 : Int32) then (bn (f_Prc_push S86 r61) (fun r89 S90 => if r89 = (0 : Int32) then (bn (f_Prc_pull S90 r61) (fun r93 S94 => if r93 = (0 : Int32) then (bn (f_Prc_branch S94 r61) (fun r97 S98 => if r97 = (0 : Int32) then (bn (f_Prc_jump S98 r61) (fun r101 S102 => if r101 = (0 : Int32) then (bn (f_Prc_changeFlags S102 r61) (fun r105 S106 => if r105 = (0 : Int32) then (bn (f_Prc_moveBlock S106 r61) (fun r109 S110 => if r109 = (0 : Int32) then ((pr S110 12 ((1 : Int32)))) else ((pr S110 12 ((0 : Int32)))))) else ((pr S106 12 ((0 : Int32)))))) else ((pr S102 12 ((0 : Int32)))))) else ((pr S98 12 ((0 : Int32)))))) else ((pr S94 12 ((0 : Int32)))))) else ((pr S90 12 ((0 : Int32)))))) else ((pr S86 12 ((0 : Int32)))))) else ((pr S82 12 ((0 : Int32)))))) else ((pr S78 12 ((0 : Int32)))))) else ((pr S74 12 ((0 : Int32)))))) else ((pr S70 12 ((0 : Int32)))))) else ((pr S66 12 ((0 : Int32)))))))))) else (bs (f_Prc_enterInterrupt (pr (pr S 13 (((S.1 13) + (1 : Int32)))) 10 ((0 : Int32))) (490 : Int32)) (fun S120 => S120))
def f_Wc_stopped (S : Sc) : Int32 := S.1 12
def f_Wc_interrupt (S : Sc) : Int32 × Sc := if S.1 10 = (0 : Int32) then (((1 : Int32), (pr S 10 ((1 : Int32))))) else (((0 : Int32), S))
def f_Wc_line (S : Sc) (x1 : Int32) : Sc := (pr S 11 (x1))
def f_Wc_touches (S : Sc) : Int32 := S.1 9
def f_Bus_latestTouch (S : Sc) (x1 : Int32) : Int32 := (S.2.2 (((((S.1 9) - (1 : Int32)) - x1) &&& (7 : Int32))).toNatClampNeg)
def f_Wc_touched (S : Sc) (x1 : Int32) : Int32 := if x1 < (0 : Int32) then ((-1 : Int32)) else (if (8 : Int32) ≤ x1 then ((-1 : Int32)) else (if x1 < S.1 9 then ((f_Bus_latestTouch S x1)) else ((-1 : Int32))))
def f_Wc_steps (S : Sc) : Int32 := S.1 13
def f_Mdl_is (S : Sc) (x1 : Int32) : Int32 := if ((S.1 6) &&& x1) = (0 : Int32) then ((0 : Int32)) else ((1 : Int32))
def f_Mdl_flag (S : Sc) (x1 x2 : Int32) : Sc := if x2 = (0 : Int32) then ((pr S 6 (((S.1 6) &&& (x1 ^^^ (-1 : Int32)))))) else ((pr S 6 (((S.1 6) ||| x1))))
def f_Mdl_cell (x0 : Int32) : Int32 := (((512 : Int32) * ((x0 >>> ((16 : Int32) &&& 31)) &&& (1 : Int32))) + (x0 &&& (511 : Int32)))
def f_Mdl_touch (S : Sc) (x1 : Int32) : Sc := (pr (pl (pl (pl (pl (pl (pl (pl (pl S (((7 : Int32)).toNatClampNeg) ((S.2.2 (((7 : Int32) - (1 : Int32))).toNatClampNeg))) (((6 : Int32)).toNatClampNeg) ((S.2.2 5))) (((5 : Int32)).toNatClampNeg) ((S.2.2 4))) (((4 : Int32)).toNatClampNeg) ((S.2.2 3))) (((3 : Int32)).toNatClampNeg) ((S.2.2 2))) (((2 : Int32)).toNatClampNeg) ((S.2.2 1))) (((1 : Int32)).toNatClampNeg) ((S.2.2 0))) (((0 : Int32)).toNatClampNeg) (x1)) 13 (((S.1 13) + (1 : Int32))))
def f_Mdl_read (S : Sc) (x1 : Int32) : Int32 × Sc := bs (f_Mdl_touch S (f_Mdl_cell x1)) (fun S1 => ((S1.2.1 ((f_Mdl_cell x1)).toNatClampNeg), S1))
def f_Mdl_write (S : Sc) (x1 x2 : Int32) : Sc := bs (f_Mdl_touch S ((f_Mdl_cell x1) + (1024 : Int32))) (fun S1 => (pm S1 (((f_Mdl_cell x1)).toNatClampNeg) ((x2 &&& (255 : Int32)))))
def f_Mdl_after (x1 x2 : Int32) : Int32 := if x2 = (0 : Int32) then (((x1 + (1 : Int32)) &&& (16777215 : Int32))) else (((x1 &&& (16711680 : Int32)) ||| ((x1 + (1 : Int32)) &&& (65535 : Int32))))
def f_Mdl_readWord (S : Sc) (x1 x2 : Int32) : Int32 × Sc := bn (f_Mdl_read S x1) (fun r1 S2 => bn (f_Mdl_read S2 (f_Mdl_after x1 x2)) (fun r4 S5 => ((r1 ||| (r4 <<< ((8 : Int32) &&& 31))), S5)))
def f_Mdl_push (S : Sc) (x1 : Int32) : Sc := bs (f_Mdl_write S (S.1 3) x1) (fun S1 => (pr S1 3 ((((S1.1 3) - (1 : Int32)) &&& (65535 : Int32)))))
def f_Mdl_pushWord (S : Sc) (x1 : Int32) : Sc := bs (f_Mdl_push S (x1 >>> ((8 : Int32) &&& 31))) (fun S1 => bs (f_Mdl_push S1 x1) (fun S3 => S3))
def f_Mdl_pull (S : Sc) : Int32 × Sc := bn (f_Mdl_read (pr S 3 ((((S.1 3) + (1 : Int32)) &&& (65535 : Int32)))) (((S.1 3) + (1 : Int32)) &&& (65535 : Int32))) (fun r1 S2 => (r1, S2))
def f_Mdl_pullWord (S : Sc) : Int32 × Sc := bn (f_Mdl_pull S) (fun r1 S2 => bn (f_Mdl_pull S2) (fun r4 S5 => ((r1 ||| (r4 <<< ((8 : Int32) &&& 31))), S5)))
def f_Mdl_next (S : Sc) : Int32 × Sc := ((S.2.1 ((f_Mdl_cell (((S.1 7) <<< ((16 : Int32) &&& 31)) ||| (S.1 8)))).toNatClampNeg), (pr S 8 ((((S.1 8) + (1 : Int32)) &&& (65535 : Int32)))))
def f_Mdl_nextWord (S : Sc) : Int32 × Sc := bn (f_Mdl_next S) (fun r1 S2 => bn (f_Mdl_next S2) (fun r4 S5 => ((r1 ||| (r4 <<< ((8 : Int32) &&& 31))), S5)))
def f_Mdl_nextLong (S : Sc) : Int32 × Sc := bn (f_Mdl_nextWord S) (fun r1 S2 => bn (f_Mdl_next S2) (fun r4 S5 => ((r1 ||| (r4 <<< ((16 : Int32) &&& 31))), S5)))
def f_Mdl_accumulator (S : Sc) : Int32 := if (f_Mdl_is S (32 : Int32)) = (0 : Int32) then (S.1 0) else (((S.1 0) &&& (255 : Int32)))
def f_Mdl_setAccumulator (S : Sc) (x1 : Int32) : Sc := if (f_Mdl_is S (32 : Int32)) = (0 : Int32) then ((pr S 0 ((x1 &&& (65535 : Int32))))) else ((pr S 0 ((((S.1 0) &&& (65280 : Int32)) ||| (x1 &&& (255 : Int32))))))
def f_Mdl_cut (x1 x2 : Int32) : Int32 := if x2 = (0 : Int32) then ((x1 &&& (65535 : Int32))) else ((x1 &&& (255 : Int32)))
def f_Mdl_result (S : Sc) (x1 x2 : Int32) : Int32 × Sc := if x2 = (0 : Int32) then (if ((f_Mdl_cut x1 x2) &&& (32768 : Int32)) = (0 : Int32) then (bs (f_Mdl_flag S (128 : Int32) (0 : Int32)) (fun S3 => if (f_Mdl_cut x1 x2) = (0 : Int32) then (bs (f_Mdl_flag S3 (2 : Int32) (1 : Int32)) (fun S8 => ((f_Mdl_cut x1 x2), S8))) else (bs (f_Mdl_flag S3 (2 : Int32) (0 : Int32)) (fun S6 => ((f_Mdl_cut x1 x2), S6))))) else (bs (f_Mdl_flag S (128 : Int32) (1 : Int32)) (fun S10 => if (f_Mdl_cut x1 x2) = (0 : Int32) then (bs (f_Mdl_flag S10 (2 : Int32) (1 : Int32)) (fun S15 => ((f_Mdl_cut x1 x2), S15))) else (bs (f_Mdl_flag S10 (2 : Int32) (0 : Int32)) (fun S13 => ((f_Mdl_cut x1 x2), S13)))))) else (if ((f_Mdl_cut x1 x2) &&& (128 : Int32)) = (0 : Int32) then (bs (f_Mdl_flag S (128 : Int32) (0 : Int32)) (fun S18 => if (f_Mdl_cut x1 x2) = (0 : Int32) then (bs (f_Mdl_flag S18 (2 : Int32) (1 : Int32)) (fun S23 => ((f_Mdl_cut x1 x2), S23))) else (bs (f_Mdl_flag S18 (2 : Int32) (0 : Int32)) (fun S21 => ((f_Mdl_cut x1 x2), S21))))) else (bs (f_Mdl_flag S (128 : Int32) (1 : Int32)) (fun S25 => if (f_Mdl_cut x1 x2) = (0 : Int32) then (bs (f_Mdl_flag S25 (2 : Int32) (1 : Int32)) (fun S30 => ((f_Mdl_cut x1 x2), S30))) else (bs (f_Mdl_flag S25 (2 : Int32) (0 : Int32)) (fun S28 => ((f_Mdl_cut x1 x2), S28))))))
def f_Mdl_setFlags (S : Sc) (x1 : Int32) : Sc := if (f_Mdl_is (pr S 6 ((x1 &&& (255 : Int32)))) (16 : Int32)) = (0 : Int32) then ((pr S 6 ((x1 &&& (255 : Int32))))) else ((pr (pr (pr S 6 ((x1 &&& (255 : Int32)))) 1 (((S.1 1) &&& (255 : Int32)))) 2 (((S.1 2) &&& (255 : Int32)))))
def f_Mdl_direct (S : Sc) (x1 : Int32) : Sc := bn (f_Mdl_next S) (fun r1 S2 => (pr (pr S2 14 (((((S.1 4) + r1) + x1) &&& (65535 : Int32)))) 15 ((1 : Int32))))
def f_Mdl_far (S : Sc) (x1 : Int32) : Sc := (pr (pr S 14 ((x1 &&& (16777215 : Int32)))) 15 ((0 : Int32)))
def f_Mdl_find (S : Sc) (x1 : Int32) : Int32 × Sc := if x1 = (5 : Int32) then (bs (f_Mdl_direct S (0 : Int32)) (fun S2 => ((1 : Int32), S2))) else (if x1 = (21 : Int32) then (bs (f_Mdl_direct S (S.1 1)) (fun S94 => ((1 : Int32), S94))) else (if x1 = (3 : Int32) then (bn (f_Mdl_next S) (fun r91 S92 => ((1 : Int32), (pr (pr S92 14 ((((S.1 3) + r91) &&& (65535 : Int32)))) 15 ((1 : Int32)))))) else (if x1 = (13 : Int32) then (bn (f_Mdl_nextWord S) (fun r7 S8 => bs (f_Mdl_far S8 ((((S.1 5) <<< ((16 : Int32) &&& 31)) + r7) + (0 : Int32))) (fun S10 => ((1 : Int32), S10)))) else (if x1 = (25 : Int32) then (bn (f_Mdl_nextWord S) (fun r13 S14 => bs (f_Mdl_far S14 ((((S.1 5) <<< ((16 : Int32) &&& 31)) + r13) + (S14.1 2))) (fun S16 => ((1 : Int32), S16)))) else (if x1 = (29 : Int32) then (bn (f_Mdl_nextWord S) (fun r86 S87 => bs (f_Mdl_far S87 ((((S.1 5) <<< ((16 : Int32) &&& 31)) + r86) + (S87.1 1))) (fun S89 => ((1 : Int32), S89)))) else (if x1 = (15 : Int32) then (bn (f_Mdl_nextLong S) (fun r20 S21 => bs (f_Mdl_far S21 (r20 + (0 : Int32))) (fun S23 => ((1 : Int32), S23)))) else (if x1 = (31 : Int32) then (bn (f_Mdl_nextLong S) (fun r81 S82 => bs (f_Mdl_far S82 (r81 + (S82.1 1))) (fun S84 => ((1 : Int32), S84)))) else (if x1 = (1 : Int32) then (bs (f_Mdl_direct S (S.1 1)) (fun S27 => bn (f_Mdl_readWord S27 (S27.1 14) (1 : Int32)) (fun r29 S30 => bs (f_Mdl_far S30 ((((S27.1 5) <<< ((16 : Int32) &&& 31)) + r29) + (0 : Int32))) (fun S32 => ((1 : Int32), S32))))) else (if x1 = (17 : Int32) then (bs (f_Mdl_direct S (0 : Int32)) (fun S35 => bn (f_Mdl_readWord S35 (S35.1 14) (1 : Int32)) (fun r37 S38 => bs (f_Mdl_far S38 ((((S35.1 5) <<< ((16 : Int32) &&& 31)) + r37) + (S38.1 2))) (fun S40 => ((1 : Int32), S40))))) else (if x1 = (18 : Int32) then (bs (f_Mdl_direct S (0 : Int32)) (fun S74 => bn (f_Mdl_readWord S74 (S74.1 14) (1 : Int32)) (fun r76 S77 => bs (f_Mdl_far S77 ((((S74.1 5) <<< ((16 : Int32) &&& 31)) + r76) + (0 : Int32))) (fun S79 => ((1 : Int32), S79))))) else (if x1 = (7 : Int32) then (bs (f_Mdl_direct S (0 : Int32)) (fun S44 => bn (f_Mdl_readWord S44 (S44.1 14) (1 : Int32)) (fun r46 S47 => bn (f_Mdl_read S47 (((S47.1 14) + (2 : Int32)) &&& (65535 : Int32))) (fun r49 S50 => bs (f_Mdl_far S50 (((r49 <<< ((16 : Int32) &&& 31)) + r46) + (0 : Int32))) (fun S52 => ((1 : Int32), S52)))))) else (if x1 = (23 : Int32) then (bs (f_Mdl_direct S (0 : Int32)) (fun S64 => bn (f_Mdl_readWord S64 (S64.1 14) (1 : Int32)) (fun r66 S67 => bn (f_Mdl_read S67 (((S67.1 14) + (2 : Int32)) &&& (65535 : Int32))) (fun r69 S70 => bs (f_Mdl_far S70 (((r69 <<< ((16 : Int32) &&& 31)) + r66) + (S70.1 2))) (fun S72 => ((1 : Int32), S72)))))) else (if x1 = (19 : Int32) then (bn (f_Mdl_next S) (fun r56 S57 => bn (f_Mdl_readWord (pr S57 14 ((((S.1 3) + r56) &&& (65535 : Int32)))) (((S.1 3) + r56) &&& (65535 : Int32)) (1 : Int32)) (fun r59 S60 => bs (f_Mdl_far S60 ((((S57.1 5) <<< ((16 : Int32) &&& 31)) + r59) + (S60.1 2))) (fun S62 => ((1 : Int32), S62))))) else (((0 : Int32), S)))))))))))))))
def f_Mdl_load (S : Sc) (x1 : Int32) : Int32 × Sc := if x1 = (0 : Int32) then (bn (f_Mdl_readWord S (S.1 14) (S.1 15)) (fun r2 S3 => (r2, S3))) else (bn (f_Mdl_read S (S.1 14)) (fun r5 S6 => (r5, S6)))
def f_Mdl_store (S : Sc) (x1 x2 : Int32) : Sc := bs (f_Mdl_write S (S.1 14) x1) (fun S1 => if x2 = (0 : Int32) then (bs (f_Mdl_write S1 (f_Mdl_after (S1.1 14) (S1.1 15)) (x1 >>> ((8 : Int32) &&& 31))) (fun S4 => S4)) else (S1))
def f_Mdl_immediate (S : Sc) (x1 : Int32) : Int32 × Sc := if x1 = (0 : Int32) then (bn (f_Mdl_nextWord S) (fun r2 S3 => (r2, S3))) else (bn (f_Mdl_next S) (fun r5 S6 => (r5, S6)))
def f_Mdl_add (S : Sc) (x1 : Int32) : Sc := if (f_Mdl_is S (1 : Int32)) = (0 : Int32) then (if (f_Mdl_is S (32 : Int32)) = (0 : Int32) then (if (((f_Mdl_accumulator S) + x1) + (0 : Int32)) ≤ (65535 : Int32) then (bs (f_Mdl_flag S (1 : Int32) (0 : Int32)) (fun S4 => if ((((f_Mdl_accumulator S) ^^^ (((f_Mdl_accumulator S) + x1) + (0 : Int32))) &&& (x1 ^^^ (((f_Mdl_accumulator S) + x1) + (0 : Int32)))) &&& (32768 : Int32)) = (0 : Int32) then (bs (f_Mdl_flag S4 (64 : Int32) (0 : Int32)) (fun S7 => bn (f_Mdl_result S7 (((f_Mdl_accumulator S) + x1) + (0 : Int32)) (f_Mdl_is S (32 : Int32))) (fun r9 S10 => bs (f_Mdl_setAccumulator S10 r9) (fun S12 => S12)))) else (bs (f_Mdl_flag S4 (64 : Int32) (1 : Int32)) (fun S14 => bn (f_Mdl_result S14 (((f_Mdl_accumulator S) + x1) + (0 : Int32)) (f_Mdl_is S (32 : Int32))) (fun r16 S17 => bs (f_Mdl_setAccumulator S17 r16) (fun S19 => S19)))))) else (bs (f_Mdl_flag S (1 : Int32) (1 : Int32)) (fun S21 => if ((((f_Mdl_accumulator S) ^^^ (((f_Mdl_accumulator S) + x1) + (0 : Int32))) &&& (x1 ^^^ (((f_Mdl_accumulator S) + x1) + (0 : Int32)))) &&& (32768 : Int32)) = (0 : Int32) then (bs (f_Mdl_flag S21 (64 : Int32) (0 : Int32)) (fun S24 => bn (f_Mdl_result S24 (((f_Mdl_accumulator S) + x1) + (0 : Int32)) (f_Mdl_is S (32 : Int32))) (fun r26 S27 => bs (f_Mdl_setAccumulator S27 r26) (fun S29 => S29)))) else (bs (f_Mdl_flag S21 (64 : Int32) (1 : Int32)) (fun S31 => bn (f_Mdl_result S31 (((f_Mdl_accumulator S) + x1) + (0 : Int32)) (f_Mdl_is S (32 : Int32))) (fun r33 S34 => bs (f_Mdl_setAccumulator S34 r33) (fun S36 => S36))))))) else (if (((f_Mdl_accumulator S) + x1) + (0 : Int32)) ≤ (255 : Int32) then (bs (f_Mdl_flag S (1 : Int32) (0 : Int32)) (fun S39 => if ((((f_Mdl_accumulator S) ^^^ (((f_Mdl_accumulator S) + x1) + (0 : Int32))) &&& (x1 ^^^ (((f_Mdl_accumulator S) + x1) + (0 : Int32)))) &&& (128 : Int32)) = (0 : Int32) then (bs (f_Mdl_flag S39 (64 : Int32) (0 : Int32)) (fun S42 => bn (f_Mdl_result S42 (((f_Mdl_accumulator S) + x1) + (0 : Int32)) (f_Mdl_is S (32 : Int32))) (fun r44 S45 => bs (f_Mdl_setAccumulator S45 r44) (fun S47 => S47)))) else (bs (f_Mdl_flag S39 (64 : Int32) (1 : Int32)) (fun S49 => bn (f_Mdl_result S49 (((f_Mdl_accumulator S) + x1) + (0 : Int32)) (f_Mdl_is S (32 : Int32))) (fun r51 S52 => bs (f_Mdl_setAccumulator S52 r51) (fun S54 => S54)))))) else (bs (f_Mdl_flag S (1 : Int32) (1 : Int32)) (fun S56 => if ((((f_Mdl_accumulator S) ^^^ (((f_Mdl_accumulator S) + x1) + (0 : Int32))) &&& (x1 ^^^ (((f_Mdl_accumulator S) + x1) + (0 : Int32)))) &&& (128 : Int32)) = (0 : Int32) then (bs (f_Mdl_flag S56 (64 : Int32) (0 : Int32)) (fun S59 => bn (f_Mdl_result S59 (((f_Mdl_accumulator S) + x1) + (0 : Int32)) (f_Mdl_is S (32 : Int32))) (fun r61 S62 => bs (f_Mdl_setAccumulator S62 r61) (fun S64 => S64)))) else (bs (f_Mdl_flag S56 (64 : Int32) (1 : Int32)) (fun S66 => bn (f_Mdl_result S66 (((f_Mdl_accumulator S) + x1) + (0 : Int32)) (f_Mdl_is S (32 : Int32))) (fun r68 S69 => bs (f_Mdl_setAccumulator S69 r68) (fun S71 => S71)))))))) else (if (f_Mdl_is S (32 : Int32)) = (0 : Int32) then (if (((f_Mdl_accumulator S) + x1) + (1 : Int32)) ≤ (65535 : Int32) then (bs (f_Mdl_flag S (1 : Int32) (0 : Int32)) (fun S75 => if ((((f_Mdl_accumulator S) ^^^ (((f_Mdl_accumulator S) + x1) + (1 : Int32))) &&& (x1 ^^^ (((f_Mdl_accumulator S) + x1) + (1 : Int32)))) &&& (32768 : Int32)) = (0 : Int32) then (bs (f_Mdl_flag S75 (64 : Int32) (0 : Int32)) (fun S78 => bn (f_Mdl_result S78 (((f_Mdl_accumulator S) + x1) + (1 : Int32)) (f_Mdl_is S (32 : Int32))) (fun r80 S81 => bs (f_Mdl_setAccumulator S81 r80) (fun S83 => S83)))) else (bs (f_Mdl_flag S75 (64 : Int32) (1 : Int32)) (fun S85 => bn (f_Mdl_result S85 (((f_Mdl_accumulator S) + x1) + (1 : Int32)) (f_Mdl_is S (32 : Int32))) (fun r87 S88 => bs (f_Mdl_setAccumulator S88 r87) (fun S90 => S90)))))) else (bs (f_Mdl_flag S (1 : Int32) (1 : Int32)) (fun S92 => if ((((f_Mdl_accumulator S) ^^^ (((f_Mdl_accumulator S) + x1) + (1 : Int32))) &&& (x1 ^^^ (((f_Mdl_accumulator S) + x1) + (1 : Int32)))) &&& (32768 : Int32)) = (0 : Int32) then (bs (f_Mdl_flag S92 (64 : Int32) (0 : Int32)) (fun S95 => bn (f_Mdl_result S95 (((f_Mdl_accumulator S) + x1) + (1 : Int32)) (f_Mdl_is S (32 : Int32))) (fun r97 S98 => bs (f_Mdl_setAccumulator S98 r97) (fun S100 => S100)))) else (bs (f_Mdl_flag S92 (64 : Int32) (1 : Int32)) (fun S102 => bn (f_Mdl_result S102 (((f_Mdl_accumulator S) + x1) + (1 : Int32)) (f_Mdl_is S (32 : Int32))) (fun r104 S105 => bs (f_Mdl_setAccumulator S105 r104) (fun S107 => S107))))))) else (if (((f_Mdl_accumulator S) + x1) + (1 : Int32)) ≤ (255 : Int32) then (bs (f_Mdl_flag S (1 : Int32) (0 : Int32)) (fun S110 => if ((((f_Mdl_accumulator S) ^^^ (((f_Mdl_accumulator S) + x1) + (1 : Int32))) &&& (x1 ^^^ (((f_Mdl_accumulator S) + x1) + (1 : Int32)))) &&& (128 : Int32)) = (0 : Int32) then (bs (f_Mdl_flag S110 (64 : Int32) (0 : Int32)) (fun S113 => bn (f_Mdl_result S113 (((f_Mdl_accumulator S) + x1) + (1 : Int32)) (f_Mdl_is S (32 : Int32))) (fun r115 S116 => bs (f_Mdl_setAccumulator S116 r115) (fun S118 => S118)))) else (bs (f_Mdl_flag S110 (64 : Int32) (1 : Int32)) (fun S120 => bn (f_Mdl_result S120 (((f_Mdl_accumulator S) + x1) + (1 : Int32)) (f_Mdl_is S (32 : Int32))) (fun r122 S123 => bs (f_Mdl_setAccumulator S123 r122) (fun S125 => S125)))))) else (bs (f_Mdl_flag S (1 : Int32) (1 : Int32)) (fun S127 => if ((((f_Mdl_accumulator S) ^^^ (((f_Mdl_accumulator S) + x1) + (1 : Int32))) &&& (x1 ^^^ (((f_Mdl_accumulator S) + x1) + (1 : Int32)))) &&& (128 : Int32)) = (0 : Int32) then (bs (f_Mdl_flag S127 (64 : Int32) (0 : Int32)) (fun S130 => bn (f_Mdl_result S130 (((f_Mdl_accumulator S) + x1) + (1 : Int32)) (f_Mdl_is S (32 : Int32))) (fun r132 S133 => bs (f_Mdl_setAccumulator S133 r132) (fun S135 => S135)))) else (bs (f_Mdl_flag S127 (64 : Int32) (1 : Int32)) (fun S137 => bn (f_Mdl_result S137 (((f_Mdl_accumulator S) + x1) + (1 : Int32)) (f_Mdl_is S (32 : Int32))) (fun r139 S140 => bs (f_Mdl_setAccumulator S140 r139) (fun S142 => S142))))))))
def f_Mdl_compare (S : Sc) (x1 x2 x3 : Int32) : Sc := bn (f_Mdl_result S (x1 - x2) x3) (fun r1 S2 => if x1 < x2 then (bs (f_Mdl_flag S2 (1 : Int32) (0 : Int32)) (fun S5 => S5)) else (bs (f_Mdl_flag S2 (1 : Int32) (1 : Int32)) (fun S7 => S7)))
def f_Mdl_arithmetic (S : Sc) (x1 : Int32) : Int32 × Sc := if (x1 &&& (31 : Int32)) = (9 : Int32) then (if (x1 >>> ((5 : Int32) &&& 31)) = (4 : Int32) then (((0 : Int32), S)) else (bn (f_Mdl_immediate S (f_Mdl_is S (32 : Int32))) (fun r45 S46 => if (x1 >>> ((5 : Int32) &&& 31)) = (3 : Int32) then (bs (f_Mdl_add S46 r45) (fun S78 => ((1 : Int32), S78))) else (if (x1 >>> ((5 : Int32) &&& 31)) = (7 : Int32) then (bs (f_Mdl_add S46 (f_Mdl_cut (r45 ^^^ (-1 : Int32)) (f_Mdl_is S (32 : Int32)))) (fun S76 => ((1 : Int32), S76))) else (if (x1 >>> ((5 : Int32) &&& 31)) = (6 : Int32) then (bs (f_Mdl_compare S46 (f_Mdl_accumulator S46) r45 (f_Mdl_is S (32 : Int32))) (fun S74 => ((1 : Int32), S74))) else (if (x1 >>> ((5 : Int32) &&& 31)) = (0 : Int32) then (bn (f_Mdl_result S46 ((f_Mdl_accumulator S46) ||| r45) (f_Mdl_is S (32 : Int32))) (fun r69 S70 => bs (f_Mdl_setAccumulator S70 r69) (fun S72 => ((1 : Int32), S72)))) else (if (x1 >>> ((5 : Int32) &&& 31)) = (1 : Int32) then (bn (f_Mdl_result S46 ((f_Mdl_accumulator S46) &&& r45) (f_Mdl_is S (32 : Int32))) (fun r64 S65 => bs (f_Mdl_setAccumulator S65 r64) (fun S67 => ((1 : Int32), S67)))) else (if (x1 >>> ((5 : Int32) &&& 31)) = (2 : Int32) then (bn (f_Mdl_result S46 ((f_Mdl_accumulator S46) ^^^ r45) (f_Mdl_is S (32 : Int32))) (fun r59 S60 => bs (f_Mdl_setAccumulator S60 r59) (fun S62 => ((1 : Int32), S62)))) else (bn (f_Mdl_result S46 r45 (f_Mdl_is S (32 : Int32))) (fun r54 S55 => bs (f_Mdl_setAccumulator S55 r54) (fun S57 => ((1 : Int32), S57)))))))))))) else (bn (f_Mdl_find S (x1 &&& (31 : Int32))) (fun r2 S3 => if r2 = (0 : Int32) then (((0 : Int32), S3)) else (if (x1 >>> ((5 : Int32) &&& 31)) = (4 : Int32) then (bs (f_Mdl_store S3 (f_Mdl_accumulator S3) (f_Mdl_is S (32 : Int32))) (fun S42 => ((1 : Int32), S42))) else (bn (f_Mdl_load S3 (f_Mdl_is S (32 : Int32))) (fun r7 S8 => if (x1 >>> ((5 : Int32) &&& 31)) = (3 : Int32) then (bs (f_Mdl_add S8 r7) (fun S40 => ((1 : Int32), S40))) else (if (x1 >>> ((5 : Int32) &&& 31)) = (7 : Int32) then (bs (f_Mdl_add S8 (f_Mdl_cut (r7 ^^^ (-1 : Int32)) (f_Mdl_is S (32 : Int32)))) (fun S38 => ((1 : Int32), S38))) else (if (x1 >>> ((5 : Int32) &&& 31)) = (6 : Int32) then (bs (f_Mdl_compare S8 (f_Mdl_accumulator S8) r7 (f_Mdl_is S (32 : Int32))) (fun S36 => ((1 : Int32), S36))) else (if (x1 >>> ((5 : Int32) &&& 31)) = (0 : Int32) then (bn (f_Mdl_result S8 ((f_Mdl_accumulator S8) ||| r7) (f_Mdl_is S (32 : Int32))) (fun r31 S32 => bs (f_Mdl_setAccumulator S32 r31) (fun S34 => ((1 : Int32), S34)))) else (if (x1 >>> ((5 : Int32) &&& 31)) = (1 : Int32) then (bn (f_Mdl_result S8 ((f_Mdl_accumulator S8) &&& r7) (f_Mdl_is S (32 : Int32))) (fun r26 S27 => bs (f_Mdl_setAccumulator S27 r26) (fun S29 => ((1 : Int32), S29)))) else (if (x1 >>> ((5 : Int32) &&& 31)) = (2 : Int32) then (bn (f_Mdl_result S8 ((f_Mdl_accumulator S8) ^^^ r7) (f_Mdl_is S (32 : Int32))) (fun r21 S22 => bs (f_Mdl_setAccumulator S22 r21) (fun S24 => ((1 : Int32), S24)))) else (bn (f_Mdl_result S8 r7 (f_Mdl_is S (32 : Int32))) (fun r16 S17 => bs (f_Mdl_setAccumulator S17 r16) (fun S19 => ((1 : Int32), S19))))))))))))))
def f_Mdl_changed (S : Sc) (x1 x2 x3 : Int32) : Int32 × Sc := if x3 = (0 : Int32) then (if (f_Mdl_is S (1 : Int32)) = (0 : Int32) then (if (2 : Int32) ≤ x1 then (if (4 : Int32) ≤ x1 then (if (x2 &&& (1 : Int32)) = (0 : Int32) then (bs (f_Mdl_flag S (1 : Int32) (0 : Int32)) (fun S6 => if x1 = (5 : Int32) then (bn (f_Mdl_result S6 ((x2 / (2 : Int32)) + ((0 : Int32) * (32768 : Int32))) x3) (fun r12 S13 => (r12, S13))) else (bn (f_Mdl_result S6 ((x2 / (2 : Int32)) + (0 : Int32)) x3) (fun r9 S10 => (r9, S10))))) else (bs (f_Mdl_flag S (1 : Int32) (1 : Int32)) (fun S15 => if x1 = (5 : Int32) then (bn (f_Mdl_result S15 ((x2 / (2 : Int32)) + ((0 : Int32) * (32768 : Int32))) x3) (fun r21 S22 => (r21, S22))) else (bn (f_Mdl_result S15 ((x2 / (2 : Int32)) + (0 : Int32)) x3) (fun r18 S19 => (r18, S19)))))) else (if (x2 &&& (32768 : Int32)) = (0 : Int32) then (bs (f_Mdl_flag S (1 : Int32) (0 : Int32)) (fun S25 => if x1 = (3 : Int32) then (bn (f_Mdl_result S25 (((2 : Int32) * x2) + (0 : Int32)) x3) (fun r31 S32 => (r31, S32))) else (bn (f_Mdl_result S25 (((2 : Int32) * x2) + (0 : Int32)) x3) (fun r28 S29 => (r28, S29))))) else (bs (f_Mdl_flag S (1 : Int32) (1 : Int32)) (fun S34 => if x1 = (3 : Int32) then (bn (f_Mdl_result S34 (((2 : Int32) * x2) + (0 : Int32)) x3) (fun r40 S41 => (r40, S41))) else (bn (f_Mdl_result S34 (((2 : Int32) * x2) + (0 : Int32)) x3) (fun r37 S38 => (r37, S38))))))) else (if x1 = (0 : Int32) then (bn (f_Mdl_result S (x2 + (1 : Int32)) x3) (fun r47 S48 => (r47, S48))) else (bn (f_Mdl_result S (x2 - (1 : Int32)) x3) (fun r44 S45 => (r44, S45))))) else (if (2 : Int32) ≤ x1 then (if (4 : Int32) ≤ x1 then (if (x2 &&& (1 : Int32)) = (0 : Int32) then (bs (f_Mdl_flag S (1 : Int32) (0 : Int32)) (fun S53 => if x1 = (5 : Int32) then (bn (f_Mdl_result S53 ((x2 / (2 : Int32)) + ((1 : Int32) * (32768 : Int32))) x3) (fun r59 S60 => (r59, S60))) else (bn (f_Mdl_result S53 ((x2 / (2 : Int32)) + (0 : Int32)) x3) (fun r56 S57 => (r56, S57))))) else (bs (f_Mdl_flag S (1 : Int32) (1 : Int32)) (fun S62 => if x1 = (5 : Int32) then (bn (f_Mdl_result S62 ((x2 / (2 : Int32)) + ((1 : Int32) * (32768 : Int32))) x3) (fun r68 S69 => (r68, S69))) else (bn (f_Mdl_result S62 ((x2 / (2 : Int32)) + (0 : Int32)) x3) (fun r65 S66 => (r65, S66)))))) else (if (x2 &&& (32768 : Int32)) = (0 : Int32) then (bs (f_Mdl_flag S (1 : Int32) (0 : Int32)) (fun S72 => if x1 = (3 : Int32) then (bn (f_Mdl_result S72 (((2 : Int32) * x2) + (1 : Int32)) x3) (fun r78 S79 => (r78, S79))) else (bn (f_Mdl_result S72 (((2 : Int32) * x2) + (0 : Int32)) x3) (fun r75 S76 => (r75, S76))))) else (bs (f_Mdl_flag S (1 : Int32) (1 : Int32)) (fun S81 => if x1 = (3 : Int32) then (bn (f_Mdl_result S81 (((2 : Int32) * x2) + (1 : Int32)) x3) (fun r87 S88 => (r87, S88))) else (bn (f_Mdl_result S81 (((2 : Int32) * x2) + (0 : Int32)) x3) (fun r84 S85 => (r84, S85))))))) else (if x1 = (0 : Int32) then (bn (f_Mdl_result S (x2 + (1 : Int32)) x3) (fun r94 S95 => (r94, S95))) else (bn (f_Mdl_result S (x2 - (1 : Int32)) x3) (fun r91 S92 => (r91, S92)))))) else (if (f_Mdl_is S (1 : Int32)) = (0 : Int32) then (if (2 : Int32) ≤ x1 then (if (4 : Int32) ≤ x1 then (if (x2 &&& (1 : Int32)) = (0 : Int32) then (bs (f_Mdl_flag S (1 : Int32) (0 : Int32)) (fun S101 => if x1 = (5 : Int32) then (bn (f_Mdl_result S101 ((x2 / (2 : Int32)) + ((0 : Int32) * (128 : Int32))) x3) (fun r107 S108 => (r107, S108))) else (bn (f_Mdl_result S101 ((x2 / (2 : Int32)) + (0 : Int32)) x3) (fun r104 S105 => (r104, S105))))) else (bs (f_Mdl_flag S (1 : Int32) (1 : Int32)) (fun S110 => if x1 = (5 : Int32) then (bn (f_Mdl_result S110 ((x2 / (2 : Int32)) + ((0 : Int32) * (128 : Int32))) x3) (fun r116 S117 => (r116, S117))) else (bn (f_Mdl_result S110 ((x2 / (2 : Int32)) + (0 : Int32)) x3) (fun r113 S114 => (r113, S114)))))) else (if (x2 &&& (128 : Int32)) = (0 : Int32) then (bs (f_Mdl_flag S (1 : Int32) (0 : Int32)) (fun S120 => if x1 = (3 : Int32) then (bn (f_Mdl_result S120 (((2 : Int32) * x2) + (0 : Int32)) x3) (fun r126 S127 => (r126, S127))) else (bn (f_Mdl_result S120 (((2 : Int32) * x2) + (0 : Int32)) x3) (fun r123 S124 => (r123, S124))))) else (bs (f_Mdl_flag S (1 : Int32) (1 : Int32)) (fun S129 => if x1 = (3 : Int32) then (bn (f_Mdl_result S129 (((2 : Int32) * x2) + (0 : Int32)) x3) (fun r135 S136 => (r135, S136))) else (bn (f_Mdl_result S129 (((2 : Int32) * x2) + (0 : Int32)) x3) (fun r132 S133 => (r132, S133))))))) else (if x1 = (0 : Int32) then (bn (f_Mdl_result S (x2 + (1 : Int32)) x3) (fun r142 S143 => (r142, S143))) else (bn (f_Mdl_result S (x2 - (1 : Int32)) x3) (fun r139 S140 => (r139, S140))))) else (if (2 : Int32) ≤ x1 then (if (4 : Int32) ≤ x1 then (if (x2 &&& (1 : Int32)) = (0 : Int32) then (bs (f_Mdl_flag S (1 : Int32) (0 : Int32)) (fun S148 => if x1 = (5 : Int32) then (bn (f_Mdl_result S148 ((x2 / (2 : Int32)) + ((1 : Int32) * (128 : Int32))) x3) (fun r154 S155 => (r154, S155))) else (bn (f_Mdl_result S148 ((x2 / (2 : Int32)) + (0 : Int32)) x3) (fun r151 S152 => (r151, S152))))) else (bs (f_Mdl_flag S (1 : Int32) (1 : Int32)) (fun S157 => if x1 = (5 : Int32) then (bn (f_Mdl_result S157 ((x2 / (2 : Int32)) + ((1 : Int32) * (128 : Int32))) x3) (fun r163 S164 => (r163, S164))) else (bn (f_Mdl_result S157 ((x2 / (2 : Int32)) + (0 : Int32)) x3) (fun r160 S161 => (r160, S161)))))) else (if (x2 &&& (128 : Int32)) = (0 : Int32) then (bs (f_Mdl_flag S (1 : Int32) (0 : Int32)) (fun S167 => if x1 = (3 : Int32) then (bn (f_Mdl_result S167 (((2 : Int32) * x2) + (1 : Int32)) x3) (fun r173 S174 => (r173, S174))) else (bn (f_Mdl_result S167 (((2 : Int32) * x2) + (0 : Int32)) x3) (fun r170 S171 => (r170, S171))))) else (bs (f_Mdl_flag S (1 : Int32) (1 : Int32)) (fun S176 => if x1 = (3 : Int32) then (bn (f_Mdl_result S176 (((2 : Int32) * x2) + (1 : Int32)) x3) (fun r182 S183 => (r182, S183))) else (bn (f_Mdl_result S176 (((2 : Int32) * x2) + (0 : Int32)) x3) (fun r179 S180 => (r179, S180))))))) else (if x1 = (0 : Int32) then (bn (f_Mdl_result S (x2 + (1 : Int32)) x3) (fun r189 S190 => (r189, S190))) else (bn (f_Mdl_result S (x2 - (1 : Int32)) x3) (fun r186 S187 => (r186, S187))))))
def f_Mdl_changeMemory (S : Sc) (x1 x2 : Int32) : Sc := if x2 = (0 : Int32) then (bs (f_Mdl_direct S (0 : Int32)) (fun S2 => bn (f_Mdl_load S2 (f_Mdl_is S (32 : Int32))) (fun r4 S5 => bn (f_Mdl_changed S5 x1 r4 (f_Mdl_is S (32 : Int32))) (fun r7 S8 => bs (f_Mdl_store S8 r7 (f_Mdl_is S (32 : Int32))) (fun S10 => S10))))) else (bn (f_Mdl_nextWord S) (fun r12 S13 => bs (f_Mdl_far S13 (((S.1 5) <<< ((16 : Int32) &&& 31)) + r12)) (fun S15 => bn (f_Mdl_load S15 (f_Mdl_is S (32 : Int32))) (fun r17 S18 => bn (f_Mdl_changed S18 x1 r17 (f_Mdl_is S (32 : Int32))) (fun r20 S21 => bs (f_Mdl_store S21 r20 (f_Mdl_is S (32 : Int32))) (fun S23 => S23))))))
def f_Mdl_change (S : Sc) (x1 : Int32) : Int32 × Sc := if x1 = (6 : Int32) then (bs (f_Mdl_changeMemory S (2 : Int32) (0 : Int32)) (fun S2 => ((1 : Int32), S2))) else (if x1 = (10 : Int32) then (bn (f_Mdl_changed S (2 : Int32) (f_Mdl_accumulator S) (f_Mdl_is S (32 : Int32))) (fun r5 S6 => bs (f_Mdl_setAccumulator S6 r5) (fun S8 => ((1 : Int32), S8)))) else (if x1 = (26 : Int32) then (bn (f_Mdl_changed S (0 : Int32) (f_Mdl_accumulator S) (f_Mdl_is S (32 : Int32))) (fun r11 S12 => bs (f_Mdl_setAccumulator S12 r11) (fun S14 => ((1 : Int32), S14)))) else (if x1 = (38 : Int32) then (bs (f_Mdl_changeMemory S (3 : Int32) (0 : Int32)) (fun S17 => ((1 : Int32), S17))) else (if x1 = (42 : Int32) then (bn (f_Mdl_changed S (3 : Int32) (f_Mdl_accumulator S) (f_Mdl_is S (32 : Int32))) (fun r20 S21 => bs (f_Mdl_setAccumulator S21 r20) (fun S23 => ((1 : Int32), S23)))) else (if x1 = (58 : Int32) then (bn (f_Mdl_changed S (1 : Int32) (f_Mdl_accumulator S) (f_Mdl_is S (32 : Int32))) (fun r26 S27 => bs (f_Mdl_setAccumulator S27 r26) (fun S29 => ((1 : Int32), S29)))) else (if x1 = (70 : Int32) then (bs (f_Mdl_changeMemory S (4 : Int32) (0 : Int32)) (fun S32 => ((1 : Int32), S32))) else (if x1 = (74 : Int32) then (bn (f_Mdl_changed S (4 : Int32) (f_Mdl_accumulator S) (f_Mdl_is S (32 : Int32))) (fun r35 S36 => bs (f_Mdl_setAccumulator S36 r35) (fun S38 => ((1 : Int32), S38)))) else (if x1 = (102 : Int32) then (bs (f_Mdl_changeMemory S (5 : Int32) (0 : Int32)) (fun S41 => ((1 : Int32), S41))) else (if x1 = (106 : Int32) then (bn (f_Mdl_changed S (5 : Int32) (f_Mdl_accumulator S) (f_Mdl_is S (32 : Int32))) (fun r44 S45 => bs (f_Mdl_setAccumulator S45 r44) (fun S47 => ((1 : Int32), S47)))) else (if x1 = (198 : Int32) then (bs (f_Mdl_changeMemory S (1 : Int32) (0 : Int32)) (fun S50 => ((1 : Int32), S50))) else (if x1 = (206 : Int32) then (bs (f_Mdl_changeMemory S (1 : Int32) (1 : Int32)) (fun S53 => ((1 : Int32), S53))) else (if x1 = (230 : Int32) then (bs (f_Mdl_changeMemory S (0 : Int32) (0 : Int32)) (fun S56 => ((1 : Int32), S56))) else (if x1 = (238 : Int32) then (bs (f_Mdl_changeMemory S (0 : Int32) (1 : Int32)) (fun S59 => ((1 : Int32), S59))) else (((0 : Int32), S)))))))))))))))
def f_Mdl_findIndex (S : Sc) (x1 : Int32) : Sc := if x1 = (0 : Int32) then (bs (f_Mdl_direct S (0 : Int32)) (fun S2 => S2)) else (bn (f_Mdl_nextWord S) (fun r4 S5 => bs (f_Mdl_far S5 (((S.1 5) <<< ((16 : Int32) &&& 31)) + r4)) (fun S7 => S7)))
def f_Mdl_indexOperand (S : Sc) (x1 : Int32) : Int32 × Sc := if (x1 &&& (15 : Int32)) = (0 : Int32) then (bn (f_Mdl_immediate S (f_Mdl_is S (16 : Int32))) (fun r2 S3 => (r2, S3))) else (if (x1 &&& (15 : Int32)) = (2 : Int32) then (bn (f_Mdl_immediate S (f_Mdl_is S (16 : Int32))) (fun r17 S18 => (r17, S18))) else (if (x1 &&& (8 : Int32)) = (0 : Int32) then (bs (f_Mdl_findIndex S (0 : Int32)) (fun S7 => bn (f_Mdl_load S7 (f_Mdl_is S7 (16 : Int32))) (fun r9 S10 => (r9, S10)))) else (bs (f_Mdl_findIndex S (1 : Int32)) (fun S12 => bn (f_Mdl_load S12 (f_Mdl_is S12 (16 : Int32))) (fun r14 S15 => (r14, S15))))))
def f_Mdl_storeAt (S : Sc) (x1 x2 x3 : Int32) : Sc := bs (f_Mdl_findIndex S x1) (fun S1 => bs (f_Mdl_store S1 x2 x3) (fun S3 => S3))
def f_Mdl_index (S : Sc) (x1 : Int32) : Int32 × Sc := if x1 = (100 : Int32) then (bs (f_Mdl_storeAt S (0 : Int32) (0 : Int32) (f_Mdl_is S (32 : Int32))) (fun S2 => ((1 : Int32), S2))) else (if x1 = (132 : Int32) then (bs (f_Mdl_storeAt S (0 : Int32) (S.1 2) (f_Mdl_is S (16 : Int32))) (fun S5 => ((1 : Int32), S5))) else (if x1 = (134 : Int32) then (bs (f_Mdl_storeAt S (0 : Int32) (S.1 1) (f_Mdl_is S (16 : Int32))) (fun S8 => ((1 : Int32), S8))) else (if x1 = (136 : Int32) then (bn (f_Mdl_result S ((S.1 2) - (1 : Int32)) (f_Mdl_is S (16 : Int32))) (fun r11 S12 => ((1 : Int32), (pr S12 2 (r11))))) else (if x1 = (140 : Int32) then (bs (f_Mdl_storeAt S (1 : Int32) (S.1 2) (f_Mdl_is S (16 : Int32))) (fun S15 => ((1 : Int32), S15))) else (if x1 = (142 : Int32) then (bs (f_Mdl_storeAt S (1 : Int32) (S.1 1) (f_Mdl_is S (16 : Int32))) (fun S18 => ((1 : Int32), S18))) else (if x1 = (156 : Int32) then (bs (f_Mdl_storeAt S (1 : Int32) (0 : Int32) (f_Mdl_is S (32 : Int32))) (fun S21 => ((1 : Int32), S21))) else (if x1 = (160 : Int32) then (bn (f_Mdl_indexOperand S x1) (fun r24 S25 => bn (f_Mdl_result S25 r24 (f_Mdl_is S (16 : Int32))) (fun r27 S28 => ((1 : Int32), (pr S28 2 (r27)))))) else (if x1 = (162 : Int32) then (bn (f_Mdl_indexOperand S x1) (fun r31 S32 => bn (f_Mdl_result S32 r31 (f_Mdl_is S (16 : Int32))) (fun r34 S35 => ((1 : Int32), (pr S35 1 (r34)))))) else (if x1 = (164 : Int32) then (bn (f_Mdl_indexOperand S x1) (fun r38 S39 => bn (f_Mdl_result S39 r38 (f_Mdl_is S (16 : Int32))) (fun r41 S42 => ((1 : Int32), (pr S42 2 (r41)))))) else (if x1 = (166 : Int32) then (bn (f_Mdl_indexOperand S x1) (fun r45 S46 => bn (f_Mdl_result S46 r45 (f_Mdl_is S (16 : Int32))) (fun r48 S49 => ((1 : Int32), (pr S49 1 (r48)))))) else (if x1 = (172 : Int32) then (bn (f_Mdl_indexOperand S x1) (fun r52 S53 => bn (f_Mdl_result S53 r52 (f_Mdl_is S (16 : Int32))) (fun r55 S56 => ((1 : Int32), (pr S56 2 (r55)))))) else (if x1 = (174 : Int32) then (bn (f_Mdl_indexOperand S x1) (fun r59 S60 => bn (f_Mdl_result S60 r59 (f_Mdl_is S (16 : Int32))) (fun r62 S63 => ((1 : Int32), (pr S63 1 (r62)))))) else (if x1 = (192 : Int32) then (bn (f_Mdl_immediate S (f_Mdl_is S (16 : Int32))) (fun r66 S67 => bs (f_Mdl_compare S67 (S.1 2) r66 (f_Mdl_is S (16 : Int32))) (fun S69 => ((1 : Int32), S69)))) else (if x1 = (200 : Int32) then (bn (f_Mdl_result S ((S.1 2) + (1 : Int32)) (f_Mdl_is S (16 : Int32))) (fun r72 S73 => ((1 : Int32), (pr S73 2 (r72))))) else (if x1 = (202 : Int32) then (bn (f_Mdl_result S ((S.1 1) - (1 : Int32)) (f_Mdl_is S (16 : Int32))) (fun r76 S77 => ((1 : Int32), (pr S77 1 (r76))))) else (if x1 = (224 : Int32) then (bn (f_Mdl_immediate S (f_Mdl_is S (16 : Int32))) (fun r80 S81 => bs (f_Mdl_compare S81 (S.1 1) r80 (f_Mdl_is S (16 : Int32))) (fun S83 => ((1 : Int32), S83)))) else (if x1 = (232 : Int32) then (bn (f_Mdl_result S ((S.1 1) + (1 : Int32)) (f_Mdl_is S (16 : Int32))) (fun r86 S87 => ((1 : Int32), (pr S87 1 (r86))))) else (((0 : Int32), S)))))))))))))))))))
def f_Mdl_transfer (S : Sc) (x1 : Int32) : Int32 × Sc := if x1 = (27 : Int32) then (((1 : Int32), (pr S 3 (S.1 0)))) else (if x1 = (59 : Int32) then (bn (f_Mdl_result S (S.1 3) (0 : Int32)) (fun r3 S4 => ((1 : Int32), (pr S4 0 (r3))))) else (if x1 = (91 : Int32) then (bn (f_Mdl_result S (S.1 0) (0 : Int32)) (fun r7 S8 => ((1 : Int32), (pr S8 4 (r7))))) else (if x1 = (123 : Int32) then (bn (f_Mdl_result S (S.1 4) (0 : Int32)) (fun r11 S12 => ((1 : Int32), (pr S12 0 (r11))))) else (if x1 = (138 : Int32) then (bn (f_Mdl_result S (S.1 1) (f_Mdl_is S (32 : Int32))) (fun r15 S16 => bs (f_Mdl_setAccumulator S16 r15) (fun S18 => ((1 : Int32), S18)))) else (if x1 = (152 : Int32) then (bn (f_Mdl_result S (S.1 2) (f_Mdl_is S (32 : Int32))) (fun r21 S22 => bs (f_Mdl_setAccumulator S22 r21) (fun S24 => ((1 : Int32), S24)))) else (if x1 = (154 : Int32) then (((1 : Int32), (pr S 3 (S.1 1)))) else (if x1 = (155 : Int32) then (bn (f_Mdl_result S (S.1 1) (f_Mdl_is S (16 : Int32))) (fun r28 S29 => ((1 : Int32), (pr S29 2 (r28))))) else (if x1 = (168 : Int32) then (bn (f_Mdl_result S (S.1 0) (f_Mdl_is S (16 : Int32))) (fun r32 S33 => ((1 : Int32), (pr S33 2 (r32))))) else (if x1 = (170 : Int32) then (bn (f_Mdl_result S (S.1 0) (f_Mdl_is S (16 : Int32))) (fun r36 S37 => ((1 : Int32), (pr S37 1 (r36))))) else (if x1 = (186 : Int32) then (bn (f_Mdl_result S (S.1 3) (f_Mdl_is S (16 : Int32))) (fun r40 S41 => ((1 : Int32), (pr S41 1 (r40))))) else (if x1 = (187 : Int32) then (bn (f_Mdl_result S (S.1 2) (f_Mdl_is S (16 : Int32))) (fun r44 S45 => ((1 : Int32), (pr S45 1 (r44))))) else (if x1 = (235 : Int32) then (bn (f_Mdl_result (pr S 0 ((((S.1 0) >>> ((8 : Int32) &&& 31)) ||| (((S.1 0) &&& (255 : Int32)) <<< ((8 : Int32) &&& 31))))) (((S.1 0) >>> ((8 : Int32) &&& 31)) ||| (((S.1 0) &&& (255 : Int32)) <<< ((8 : Int32) &&& 31))) (1 : Int32)) (fun r48 S49 => ((1 : Int32), S49))) else (((0 : Int32), S))))))))))))))
def f_Mdl_pushOf (S : Sc) (x1 x2 : Int32) : Sc := if x2 = (0 : Int32) then (bs (f_Mdl_pushWord S x1) (fun S2 => S2)) else (bs (f_Mdl_push S x1) (fun S4 => S4))
def f_Mdl_pullOf (S : Sc) (x1 : Int32) : Int32 × Sc := if x1 = (0 : Int32) then (bn (f_Mdl_pullWord S) (fun r2 S3 => bn (f_Mdl_result S3 r2 x1) (fun r5 S6 => (r5, S6)))) else (bn (f_Mdl_pull S) (fun r8 S9 => bn (f_Mdl_result S9 r8 x1) (fun r11 S12 => (r11, S12))))
def f_Mdl_stack (S : Sc) (x1 : Int32) : Int32 × Sc := if x1 = (8 : Int32) then (bs (f_Mdl_push S (S.1 6)) (fun S2 => ((1 : Int32), S2))) else (if x1 = (11 : Int32) then (bs (f_Mdl_pushWord S (S.1 4)) (fun S5 => ((1 : Int32), S5))) else (if x1 = (40 : Int32) then (bn (f_Mdl_pull S) (fun r8 S9 => bs (f_Mdl_setFlags S9 r8) (fun S11 => ((1 : Int32), S11)))) else (if x1 = (43 : Int32) then (bn (f_Mdl_pullOf S (0 : Int32)) (fun r14 S15 => ((1 : Int32), (pr S15 4 (r14))))) else (if x1 = (72 : Int32) then (bs (f_Mdl_pushOf S (f_Mdl_accumulator S) (f_Mdl_is S (32 : Int32))) (fun S18 => ((1 : Int32), S18))) else (if x1 = (75 : Int32) then (bs (f_Mdl_push S (S.1 7)) (fun S21 => ((1 : Int32), S21))) else (if x1 = (90 : Int32) then (bs (f_Mdl_pushOf S (S.1 2) (f_Mdl_is S (16 : Int32))) (fun S24 => ((1 : Int32), S24))) else (if x1 = (104 : Int32) then (bn (f_Mdl_pullOf S (f_Mdl_is S (32 : Int32))) (fun r27 S28 => bs (f_Mdl_setAccumulator S28 r27) (fun S30 => ((1 : Int32), S30)))) else (if x1 = (122 : Int32) then (bn (f_Mdl_pullOf S (f_Mdl_is S (16 : Int32))) (fun r33 S34 => ((1 : Int32), (pr S34 2 (r33))))) else (if x1 = (139 : Int32) then (bs (f_Mdl_push S (S.1 5)) (fun S37 => ((1 : Int32), S37))) else (if x1 = (171 : Int32) then (bn (f_Mdl_pullOf S (1 : Int32)) (fun r40 S41 => ((1 : Int32), (pr S41 5 (r40))))) else (if x1 = (218 : Int32) then (bs (f_Mdl_pushOf S (S.1 1) (f_Mdl_is S (16 : Int32))) (fun S44 => ((1 : Int32), S44))) else (if x1 = (244 : Int32) then (bn (f_Mdl_nextWord S) (fun r47 S48 => bs (f_Mdl_pushWord S48 r47) (fun S50 => ((1 : Int32), S50)))) else (if x1 = (250 : Int32) then (bn (f_Mdl_pullOf S (f_Mdl_is S (16 : Int32))) (fun r53 S54 => ((1 : Int32), (pr S54 1 (r53))))) else (((0 : Int32), S)))))))))))))))
def f_Mdl_branch (S : Sc) (x1 : Int32) : Sc := bn (f_Mdl_next S) (fun r1 S2 => if r1 ≤ (127 : Int32) then (if x1 = (0 : Int32) then ((pr S2 8 (S2.1 8))) else ((pr S2 8 ((((S2.1 8) + r1) &&& (65535 : Int32)))))) else (if x1 = (0 : Int32) then ((pr S2 8 (S2.1 8))) else ((pr S2 8 ((((S2.1 8) + (r1 - (256 : Int32))) &&& (65535 : Int32)))))))
def f_Mdl_call (S : Sc) (x1 : Int32) : Sc := bs (f_Mdl_pushWord S (((S.1 8) - (1 : Int32)) &&& (65535 : Int32))) (fun S1 => (pr S1 8 ((x1 &&& (65535 : Int32)))))
def f_Mdl_interruptFrom (S : Sc) (x1 : Int32) : Sc := bs (f_Mdl_push S (S.1 7)) (fun S1 => bs (f_Mdl_pushWord S1 (S1.1 8)) (fun S3 => bs (f_Mdl_push S3 (S3.1 6)) (fun S5 => bs (f_Mdl_flag S5 (4 : Int32) (1 : Int32)) (fun S7 => bs (f_Mdl_flag S7 (8 : Int32) (0 : Int32)) (fun S9 => bn (f_Mdl_readWord (pr S9 7 ((0 : Int32))) x1 (1 : Int32)) (fun r11 S12 => (pr S12 8 (r11))))))))
def f_Mdl_longJump (S : Sc) (x1 : Int32) : Int32 × Sc := if x1 = (92 : Int32) then (bn (f_Mdl_nextLong S) (fun r35 S36 => ((1 : Int32), (pr (pr S36 7 ((r35 >>> ((16 : Int32) &&& 31)))) 8 ((r35 &&& (65535 : Int32))))))) else (if x1 = (34 : Int32) then (bn (f_Mdl_nextLong S) (fun r28 S29 => bs (f_Mdl_push S29 (S29.1 7)) (fun S31 => bs (f_Mdl_call S31 r28) (fun S33 => ((1 : Int32), (pr S33 7 ((r28 >>> ((16 : Int32) &&& 31))))))))) else (if x1 = (107 : Int32) then (bn (f_Mdl_pullWord S) (fun r22 S23 => bn (f_Mdl_pull (pr S23 8 (((r22 + (1 : Int32)) &&& (65535 : Int32))))) (fun r25 S26 => ((1 : Int32), (pr S26 7 (r25)))))) else (if x1 = (0 : Int32) then (bn (f_Mdl_next S) (fun r17 S18 => bs (f_Mdl_interruptFrom S18 (486 : Int32)) (fun S20 => ((1 : Int32), S20)))) else (if x1 = (64 : Int32) then (bn (f_Mdl_pull S) (fun r6 S7 => bs (f_Mdl_setFlags S7 r6) (fun S9 => bn (f_Mdl_pullWord S9) (fun r11 S12 => bn (f_Mdl_pull (pr S12 8 (r11))) (fun r14 S15 => ((1 : Int32), (pr S15 7 (r14)))))))) else (((0 : Int32), S))))))
def f_Mdl_jump (S : Sc) (x1 : Int32) : Int32 × Sc := if x1 = (16 : Int32) then (if (f_Mdl_is S (128 : Int32)) = (0 : Int32) then (bs (f_Mdl_branch S (1 : Int32)) (fun S5 => ((1 : Int32), S5))) else (bs (f_Mdl_branch S (0 : Int32)) (fun S3 => ((1 : Int32), S3)))) else (if x1 = (32 : Int32) then (bn (f_Mdl_nextWord S) (fun r8 S9 => bs (f_Mdl_call S9 r8) (fun S11 => ((1 : Int32), S11)))) else (if x1 = (48 : Int32) then (bs (f_Mdl_branch S (f_Mdl_is S (128 : Int32))) (fun S14 => ((1 : Int32), S14))) else (if x1 = (76 : Int32) then (bn (f_Mdl_nextWord S) (fun r17 S18 => ((1 : Int32), (pr S18 8 (r17))))) else (if x1 = (80 : Int32) then (if (f_Mdl_is S (64 : Int32)) = (0 : Int32) then (bs (f_Mdl_branch S (1 : Int32)) (fun S24 => ((1 : Int32), S24))) else (bs (f_Mdl_branch S (0 : Int32)) (fun S22 => ((1 : Int32), S22)))) else (if x1 = (96 : Int32) then (bn (f_Mdl_pullWord S) (fun r27 S28 => ((1 : Int32), (pr S28 8 (((r27 + (1 : Int32)) &&& (65535 : Int32))))))) else (if x1 = (112 : Int32) then (bs (f_Mdl_branch S (f_Mdl_is S (64 : Int32))) (fun S31 => ((1 : Int32), S31))) else (if x1 = (128 : Int32) then (bs (f_Mdl_branch S (1 : Int32)) (fun S34 => ((1 : Int32), S34))) else (if x1 = (130 : Int32) then (bn (f_Mdl_nextWord S) (fun r37 S38 => ((1 : Int32), (pr S38 8 ((((S38.1 8) + r37) &&& (65535 : Int32))))))) else (if x1 = (144 : Int32) then (if (f_Mdl_is S (1 : Int32)) = (0 : Int32) then (bs (f_Mdl_branch S (1 : Int32)) (fun S44 => ((1 : Int32), S44))) else (bs (f_Mdl_branch S (0 : Int32)) (fun S42 => ((1 : Int32), S42)))) else (if x1 = (176 : Int32) then (bs (f_Mdl_branch S (f_Mdl_is S (1 : Int32))) (fun S47 => ((1 : Int32), S47))) else (if x1 = (208 : Int32) then (if (f_Mdl_is S (2 : Int32)) = (0 : Int32) then (bs (f_Mdl_branch S (1 : Int32)) (fun S53 => ((1 : Int32), S53))) else (bs (f_Mdl_branch S (0 : Int32)) (fun S51 => ((1 : Int32), S51)))) else (if x1 = (240 : Int32) then (bs (f_Mdl_branch S (f_Mdl_is S (2 : Int32))) (fun S56 => ((1 : Int32), S56))) else (bn (f_Mdl_longJump S x1) (fun r58 S59 => (r58, S59)))))))))))))))
def f_Mdl_moveBlock (S : Sc) (x1 : Int32) : Sc := bn (f_Mdl_next S) (fun r1 S2 => bn (f_Mdl_next S2) (fun r4 S5 => bn (f_Mdl_read (pr S5 5 (r1)) ((r4 <<< ((16 : Int32) &&& 31)) ||| (S5.1 1))) (fun r7 S8 => bs (f_Mdl_write S8 ((r1 <<< ((16 : Int32) &&& 31)) ||| (S8.1 2)) r7) (fun S10 => if S10.1 0 = (0 : Int32) then ((pr (pr (pr (pr S10 1 ((f_Mdl_cut ((S10.1 1) + x1) (f_Mdl_is S10 (16 : Int32))))) 2 ((f_Mdl_cut ((S10.1 2) + x1) (f_Mdl_is (pr S10 1 ((f_Mdl_cut ((S10.1 1) + x1) (f_Mdl_is S10 (16 : Int32))))) (16 : Int32))))) 8 (S10.1 8)) 0 ((((S10.1 0) - (1 : Int32)) &&& (65535 : Int32))))) else ((pr (pr (pr (pr S10 1 ((f_Mdl_cut ((S10.1 1) + x1) (f_Mdl_is S10 (16 : Int32))))) 2 ((f_Mdl_cut ((S10.1 2) + x1) (f_Mdl_is (pr S10 1 ((f_Mdl_cut ((S10.1 1) + x1) (f_Mdl_is S10 (16 : Int32))))) (16 : Int32))))) 8 ((((S.1 8) - (1 : Int32)) &&& (65535 : Int32)))) 0 ((((S10.1 0) - (1 : Int32)) &&& (65535 : Int32)))))))))
def f_Mdl_other (S : Sc) (x1 : Int32) : Int32 × Sc := if x1 = (24 : Int32) then (bs (f_Mdl_flag S (1 : Int32) (0 : Int32)) (fun S2 => ((1 : Int32), S2))) else (if x1 = (56 : Int32) then (bs (f_Mdl_flag S (1 : Int32) (1 : Int32)) (fun S5 => ((1 : Int32), S5))) else (if x1 = (68 : Int32) then (bs (f_Mdl_moveBlock S (-1 : Int32)) (fun S8 => ((1 : Int32), S8))) else (if x1 = (84 : Int32) then (bs (f_Mdl_moveBlock S (1 : Int32)) (fun S11 => ((1 : Int32), S11))) else (if x1 = (88 : Int32) then (bs (f_Mdl_flag S (4 : Int32) (0 : Int32)) (fun S14 => ((1 : Int32), S14))) else (if x1 = (120 : Int32) then (bs (f_Mdl_flag S (4 : Int32) (1 : Int32)) (fun S17 => ((1 : Int32), S17))) else (if x1 = (184 : Int32) then (bs (f_Mdl_flag S (64 : Int32) (0 : Int32)) (fun S20 => ((1 : Int32), S20))) else (if x1 = (194 : Int32) then (bn (f_Mdl_next S) (fun r23 S24 => bs (f_Mdl_setFlags S24 ((S.1 6) &&& (r23 ^^^ (-1 : Int32)))) (fun S26 => ((1 : Int32), S26)))) else (if x1 = (216 : Int32) then (bs (f_Mdl_flag S (8 : Int32) (0 : Int32)) (fun S29 => ((1 : Int32), S29))) else (if x1 = (226 : Int32) then (bn (f_Mdl_next S) (fun r32 S33 => bs (f_Mdl_setFlags S33 ((S.1 6) ||| r32)) (fun S35 => ((1 : Int32), S35)))) else (if x1 = (234 : Int32) then (((1 : Int32), S)) else (if x1 = (248 : Int32) then (bs (f_Mdl_flag S (8 : Int32) (1 : Int32)) (fun S39 => ((1 : Int32), S39))) else (((0 : Int32), S)))))))))))))
def f_Mdl_step (S : Sc) : Sc := if S.1 10 = (0 : Int32) then (if S.1 11 = (0 : Int32) then (bn (f_Mdl_next (pr S 12 (((S.1 12) + (1 : Int32))))) (fun r3 S4 => if ((r3 &&& (31 : Int32)) &&& (1 : Int32)) = (1 : Int32) then (if (r3 &&& (31 : Int32)) = (11 : Int32) then (bn (f_Mdl_change S4 r3) (fun r37 S38 => if r37 = (0 : Int32) then (bn (f_Mdl_index S38 r3) (fun r41 S42 => if r41 = (0 : Int32) then (bn (f_Mdl_transfer S42 r3) (fun r45 S46 => if r45 = (0 : Int32) then (bn (f_Mdl_stack S46 r3) (fun r49 S50 => if r49 = (0 : Int32) then (bn (f_Mdl_jump S50 r3) (fun r53 S54 => if r53 = (0 : Int32) then (bn (f_Mdl_other S54 r3) (fun r57 S58 => if r57 = (0 : Int32) then ((pr S58 9 ((1 : Int32)))) else ((pr S58 9 ((0 : Int32)))))) else ((pr S54 9 ((0 : Int32)))))) else ((pr S50 9 ((0 : Int32)))))) else ((pr S46 9 ((0 : Int32)))))) else ((pr S42 9 ((0 : Int32)))))) else ((pr S38 9 ((0 : Int32)))))) else (if (r3 &&& (31 : Int32)) = (27 : Int32) then (bn (f_Mdl_change S4 r3) (fun r66 S67 => if r66 = (0 : Int32) then (bn (f_Mdl_index S67 r3) (fun r70 S71 => if r70 = (0 : Int32) then (bn (f_Mdl_transfer S71 r3) (fun r74 S75 => if r74 = (0 : Int32) then (bn (f_Mdl_stack S75 r3) (fun r78 S79 => if r78 = (0 : Int32) then (bn (f_Mdl_jump S79 r3) (fun r82 S83 => if r82 = (0 : Int32) then (bn (f_Mdl_other S83 r3) (fun r86 S87 => if r86 = (0 : Int32) then ((pr S87 9 ((1 : Int32)))) else ((pr S87 9 ((0 : Int32)))))) else ((pr S83 9 ((0 : Int32)))))) else ((pr S79 9 ((0 : Int32)))))) else ((pr S75 9 ((0 : Int32)))))) else ((pr S71 9 ((0 : Int32)))))) else ((pr S67 9 ((0 : Int32)))))) else (bn (f_Mdl_arithmetic S4 r3) (fun r62 S63 => if r62 = (0 : Int32) then ((pr S63 9 ((1 : Int32)))) else ((pr S63 9 ((0 : Int32)))))))) else (if (r3 &&& (31 : Int32)) = (18 : Int32) then (bn (f_Mdl_arithmetic S4 r3) (fun r32 S33 => if r32 = (0 : Int32) then ((pr S33 9 ((1 : Int32)))) else ((pr S33 9 ((0 : Int32)))))) else (bn (f_Mdl_change S4 r3) (fun r8 S9 => if r8 = (0 : Int32) then (bn (f_Mdl_index S9 r3) (fun r12 S13 => if r12 = (0 : Int32) then (bn (f_Mdl_transfer S13 r3) (fun r16 S17 => if r16 = (0 : Int32) then (bn (f_Mdl_stack S17 r3) (fun r20 S21 => if r20 = (0 : Int32) then (bn (f_Mdl_jump S21 r3) (fun r24 S25 => if r24 = (0 : Int32) then (bn (f_Mdl_other S25 r3) (fun r28 S29 => if r28 = (0 : Int32) then ((pr S29 9 ((1 : Int32)))) else ((pr S29 9 ((0 : Int32)))))) else ((pr S25 9 ((0 : Int32)))))) else ((pr S21 9 ((0 : Int32)))))) else ((pr S17 9 ((0 : Int32)))))) else ((pr S13 9 ((0 : Int32)))))) else ((pr S9 9 ((0 : Int32))))))))) else (if (f_Mdl_is (pr S 12 (((S.1 12) + (1 : Int32)))) (4 : Int32)) = (0 : Int32) then (bs (f_Mdl_interruptFrom (pr S 12 (((S.1 12) + (1 : Int32)))) (494 : Int32)) (fun S178 => S178)) else (bn (f_Mdl_next (pr S 12 (((S.1 12) + (1 : Int32))))) (fun r91 S92 => if ((r91 &&& (31 : Int32)) &&& (1 : Int32)) = (1 : Int32) then (if (r91 &&& (31 : Int32)) = (11 : Int32) then (bn (f_Mdl_change S92 r91) (fun r125 S126 => if r125 = (0 : Int32) then (bn (f_Mdl_index S126 r91) (fun r129 S130 => if r129 = (0 : Int32) then (bn (f_Mdl_transfer S130 r91) (fun r133 S134 => if r133 = (0 : Int32) then (bn (f_Mdl_stack S134 r91) (fun r137 S138 => if r137 = (0 : Int32) then (bn (f_Mdl_jump S138 r91) (fun r141 S142 => if r141 = (0 : Int32) then (bn (f_Mdl_other S142 r91) (fun r145 S146 => if r145 = (0 : Int32) then ((pr S146 9 ((1 : Int32)))) else ((pr S146 9 ((0 : Int32)))))) else ((pr S142 9 ((0 : Int32)))))) else ((pr S138 9 ((0 : Int32)))))) else ((pr S134 9 ((0 : Int32)))))) else ((pr S130 9 ((0 : Int32)))))) else ((pr S126 9 ((0 : Int32)))))) else (if (r91 &&& (31 : Int32)) = (27 : Int32) then (bn (f_Mdl_change S92 r91) (fun r154 S155 => if r154 = (0 : Int32) then (bn (f_Mdl_index S155 r91) (fun r158 S159 => if r158 = (0 : Int32) then (bn (f_Mdl_transfer S159 r91) (fun r162 S163 => if r162 = (0 : Int32) then (bn (f_Mdl_stack S163 r91) (fun r166 S167 => if r166 = (0 : Int32) then (bn (f_Mdl_jump S167 r91) (fun r170 S171 => if r170 = (0 : Int32) then (bn (f_Mdl_other S171 r91) (fun r174 S175 => if r174 = (0 : Int32) then ((pr S175 9 ((1 : Int32)))) else ((pr S175 9 ((0 : Int32)))))) else ((pr S171 9 ((0 : Int32)))))) else ((pr S167 9 ((0 : Int32)))))) else ((pr S163 9 ((0 : Int32)))))) else ((pr S159 9 ((0 : Int32)))))) else ((pr S155 9 ((0 : Int32)))))) else (bn (f_Mdl_arithmetic S92 r91) (fun r150 S151 => if r150 = (0 : Int32) then ((pr S151 9 ((1 : Int32)))) else ((pr S151 9 ((0 : Int32)))))))) else (if (r91 &&& (31 : Int32)) = (18 : Int32) then (bn (f_Mdl_arithmetic S92 r91) (fun r120 S121 => if r120 = (0 : Int32) then ((pr S121 9 ((1 : Int32)))) else ((pr S121 9 ((0 : Int32)))))) else (bn (f_Mdl_change S92 r91) (fun r96 S97 => if r96 = (0 : Int32) then (bn (f_Mdl_index S97 r91) (fun r100 S101 => if r100 = (0 : Int32) then (bn (f_Mdl_transfer S101 r91) (fun r104 S105 => if r104 = (0 : Int32) then (bn (f_Mdl_stack S105 r91) (fun r108 S109 => if r108 = (0 : Int32) then (bn (f_Mdl_jump S109 r91) (fun r112 S113 => if r112 = (0 : Int32) then (bn (f_Mdl_other S113 r91) (fun r116 S117 => if r116 = (0 : Int32) then ((pr S117 9 ((1 : Int32)))) else ((pr S117 9 ((0 : Int32)))))) else ((pr S113 9 ((0 : Int32)))))) else ((pr S109 9 ((0 : Int32)))))) else ((pr S105 9 ((0 : Int32)))))) else ((pr S101 9 ((0 : Int32)))))) else ((pr S97 9 ((0 : Int32))))))))))) else (bs (f_Mdl_interruptFrom (pr (pr S 12 (((S.1 12) + (1 : Int32)))) 10 ((0 : Int32))) (490 : Int32)) (fun S180 => S180))
def f_Mdl_poke (S : Sc) (x1 x2 x3 : Int32) : Int32 × Sc := if x3 < (1 : Int32) then (((0 : Int32), S)) else (if (4 : Int32) < x3 then (((0 : Int32), S)) else (if x1 < (0 : Int32) then (((0 : Int32), S)) else (if x1 ≤ ((1024 : Int32) - x3) then (if x3 ≤ (0 : Int32) then (((1 : Int32), S)) else (if x3 ≤ (1 : Int32) then (((1 : Int32), (pm S (((x1 + (0 : Int32))).toNatClampNeg) (((x2 >>> (((8 : Int32) * (0 : Int32)) &&& 31)) &&& (255 : Int32)))))) else (if x3 ≤ (2 : Int32) then (((1 : Int32), (pm (pm S (((x1 + (0 : Int32))).toNatClampNeg) (((x2 >>> (((8 : Int32) * (0 : Int32)) &&& 31)) &&& (255 : Int32)))) (((x1 + (1 : Int32))).toNatClampNeg) (((x2 >>> (((8 : Int32) * (1 : Int32)) &&& 31)) &&& (255 : Int32)))))) else (if x3 ≤ (3 : Int32) then (((1 : Int32), (pm (pm (pm S (((x1 + (0 : Int32))).toNatClampNeg) (((x2 >>> (((8 : Int32) * (0 : Int32)) &&& 31)) &&& (255 : Int32)))) (((x1 + (1 : Int32))).toNatClampNeg) (((x2 >>> (((8 : Int32) * (1 : Int32)) &&& 31)) &&& (255 : Int32)))) (((x1 + (2 : Int32))).toNatClampNeg) (((x2 >>> (((8 : Int32) * (2 : Int32)) &&& 31)) &&& (255 : Int32)))))) else (((1 : Int32), (pm (pm (pm (pm S (((x1 + (0 : Int32))).toNatClampNeg) (((x2 >>> (((8 : Int32) * (0 : Int32)) &&& 31)) &&& (255 : Int32)))) (((x1 + (1 : Int32))).toNatClampNeg) (((x2 >>> (((8 : Int32) * (1 : Int32)) &&& 31)) &&& (255 : Int32)))) (((x1 + (2 : Int32))).toNatClampNeg) (((x2 >>> (((8 : Int32) * (2 : Int32)) &&& 31)) &&& (255 : Int32)))) (((x1 + (3 : Int32))).toNatClampNeg) (((x2 >>> (((8 : Int32) * (3 : Int32)) &&& 31)) &&& (255 : Int32)))))))))) else (((0 : Int32), S)))))
def f_Mdl_peek (S : Sc) (x1 : Int32) : Int32 := if x1 < (0 : Int32) then ((-1 : Int32)) else (if (1024 : Int32) ≤ x1 then ((-1 : Int32)) else ((S.2.1 (x1).toNatClampNeg)))
def f_Mdl_start (S : Sc) (x1 x2 : Int32) : Int32 × Sc := if x1 < (0 : Int32) then (((0 : Int32), S)) else (if (255 : Int32) < x1 then (((0 : Int32), S)) else (if x2 < (0 : Int32) then (((0 : Int32), S)) else (if x2 ≤ (65535 : Int32) then (((1 : Int32), (pr (pr (pr S 7 (x1)) 8 (x2)) 9 ((0 : Int32))))) else (((0 : Int32), S)))))
def f_Mdl_set (S : Sc) (x1 x2 : Int32) : Int32 × Sc := if x1 = (0 : Int32) then (((1 : Int32), (pr S 0 ((x2 &&& (65535 : Int32)))))) else (if x1 = (1 : Int32) then (((1 : Int32), (pr S 1 ((f_Mdl_cut x2 (f_Mdl_is S (16 : Int32))))))) else (if x1 = (2 : Int32) then (((1 : Int32), (pr S 2 ((f_Mdl_cut x2 (f_Mdl_is S (16 : Int32))))))) else (if x1 = (3 : Int32) then (((1 : Int32), (pr S 3 ((x2 &&& (65535 : Int32)))))) else (if x1 = (4 : Int32) then (((1 : Int32), (pr S 4 ((x2 &&& (65535 : Int32)))))) else (if x1 = (5 : Int32) then (((1 : Int32), (pr S 5 ((x2 &&& (255 : Int32)))))) else (if x1 = (6 : Int32) then (bs (f_Mdl_setFlags S x2) (fun S8 => ((1 : Int32), S8))) else (((0 : Int32), S))))))))
def f_Mdl_register (S : Sc) (x1 : Int32) : Int32 := if x1 = (0 : Int32) then (S.1 0) else (if x1 = (1 : Int32) then (S.1 1) else (if x1 = (2 : Int32) then (S.1 2) else (if x1 = (3 : Int32) then (S.1 3) else (if x1 = (4 : Int32) then (S.1 4) else (if x1 = (5 : Int32) then (S.1 5) else (if x1 = (6 : Int32) then (S.1 6) else (if x1 = (7 : Int32) then (S.1 7) else (if x1 = (8 : Int32) then (S.1 8) else ((-1 : Int32))))))))))
def f_Mdl_stopped (S : Sc) : Int32 := S.1 9
def f_Mdl_interrupt (S : Sc) : Int32 × Sc := if S.1 10 = (0 : Int32) then (((1 : Int32), (pr S 10 ((1 : Int32))))) else (((0 : Int32), (pr S 10 ((1 : Int32)))))
def f_Mdl_line (S : Sc) (x1 : Int32) : Sc := (pr S 11 (x1))
def f_Mdl_touches (S : Sc) : Int32 := S.1 13
def f_Mdl_touched (S : Sc) (x1 : Int32) : Int32 := if x1 < (0 : Int32) then ((-1 : Int32)) else (if (8 : Int32) ≤ x1 then ((-1 : Int32)) else (if S.1 13 ≤ x1 then ((-1 : Int32)) else ((S.2.2 (x1).toNatClampNeg))))
def f_Mdl_steps (S : Sc) : Int32 := S.1 12
theorem in_cellOf (x : Int32) : vp_in (f_Bus_cellOf x) 1024 := vp_mask 10 (by decide) (sub512 _ _)
theorem in_Mcell (x : Int32) : vp_in (f_Mdl_cell x) 1024 := by
  rw [show f_Mdl_cell x = f_Bus_cellOf x from (cell_c x).symm]
  exact in_cellOf x
theorem nI_mul (a b : Nat) : nI a * nI b = nI (a * b) := (Int32.ofNat_mul a b).symm
theorem in_prog (x y : Int32) : vp_in ((512 * (x &&& (1 : Int32))) + (y &&& (511 : Int32))) 1024 := by
  obtain ⟨u, hu, e1⟩ := m_lt 1 x
  obtain ⟨v, hv, e2⟩ := m_lt 9 y
  have e1 : x &&& 1 = nI u := e1
  have e2 : y &&& 511 = nI v := e2
  rw [e1, e2, show (512 : Int32) = nI 512 from rfl, nI_mul, nI_add]
  exact vp_in_nI (by omega) (by decide)
theorem in_bf {x : Int32} (h : x &&& 255 = x) : vp_in (x >>> ((6 : Int32) &&& 31)) 4 := vp_mask 2 (by decide) (by
  apply b_ext
  intro i hi
  show bt ((x >>> ((6 : Int32) &&& 31)) &&& 3) i = _
  rw [b_and, b_3 i hi, b_sshr6 x hi]
  by_cases z : i < 2
  · simp [z]
  · rw [decide_eq_false z, Bool.and_false]
    split
    · exact (r8_bt h (by omega)).symm
    · exact (r8_bt h (by omega)).symm)
theorem in_poke {x n k : Int32} (hk : 0 ≤ k) (h2 : ¬ (4 : Int32) < n) (h3 : ¬ x < 0) (h4 : x ≤ 1024 - n) (h5 : ¬ n ≤ k) : vp_in (x + k) 1024 := by
  obtain ⟨i, hi, rfl⟩ := nI_of h3
  have hk0 : ¬ k < 0 := Int32.not_lt.mpr hk
  obtain ⟨j, hj, rfl⟩ := nI_of hk0
  have hn0 : ¬ n < 0 := fun q => h5 (Int32.le_of_lt (Int32.lt_of_lt_of_le q hk))
  obtain ⟨t, ht, rfl⟩ := nI_of hn0
  have ht4 : t ≤ 4 := by
    have := h2
    rw [show (4 : Int32) = nI 4 from rfl, nI_ltI (by omega) ht] at this
    omega
  have hjt : j < t := by
    rw [nI_leI ht hj] at h5
    omega
  have e : (1024 : Int32) - nI t = nI (1024 - t) := by
    have e1 : (1024 : Int32) = nI (1024 - t) + nI t := by
      rw [nI_add, show 1024 - t + t = 1024 by omega]; rfl
    rw [e1, Int32.add_sub_cancel]
  rw [e, nI_leI hi (by omega)] at h4
  rw [nI_add]
  exact vp_in_nI (by omega) (by decide)
theorem in_peek {x : Int32} (h1 : ¬ x < 0) (h2 : ¬ (1024 : Int32) ≤ x) : vp_in x 1024 := by
  obtain ⟨i, hi, rfl⟩ := nI_of h1
  rw [show (1024 : Int32) = nI 1024 from rfl, nI_leI (by omega) hi] at h2
  exact vp_in_nI (by omega) (by decide)
theorem in_peek2 {x : Int32} (h1 : ¬ x < 0) (h2 : x < (1024 : Int32)) : vp_in x 1024 := in_peek h1 (Int32.not_le.mpr h2)
theorem in_touched {x : Int32} (h1 : ¬ x < 0) (h2 : ¬ (8 : Int32) ≤ x) : vp_in x 8 := by
  obtain ⟨i, hi, rfl⟩ := nI_of h1
  rw [show (8 : Int32) = nI 8 from rfl, nI_leI (by omega) hi] at h2
  exact vp_in_nI (by omega) (by decide)
theorem rng_nb {S S2 : Sc} {r : Int32} (e : f_Opd_nextByte S = (r, S2)) : r &&& 255 = r := by
  have h : (f_Opd_nextByte S).1 = r := by rw [e]
  rw [← h]
  exact m8 _
end
section
set_option maxHeartbeats 4000000 in
set_option maxRecDepth 100000 in
theorem c_Bus_bank0Place (l : Launch) (D : va_G) (cB cI : ClassId) (a : Nat → Nat) (bz : Nat) (ha : ap a 8) (S : Sc) (x0 : Int32) : MI l y_Bus_bank0Place b_Bus_bank0Place 1 (some .int) rm_Bus_bank0Place [.int x0] D cB cI (wdC cB cI a) (ow a 8) bz S (f_Bus_bank0Place x0, S) := by
  refine met_in R_Bus (by decide) rfl (Nat.le_of_ble_eq_true rfl) (wdC_D ha cB cI) ?_
  intro p e s m below meth c ls X hr hk hl hP hS
  have hx := X.1.1
  have hb := X.1.2.1
  have hown := X.1.2.2.2.1
  have hts := X.1.2.2.2.2
  have hl : lv_has ls 1 [(0, .int x0)] := hl
  refine lv_ldc (v := (16777216 : Int32)) hx hb hown (hts _ q_290) d_Bus_bank0Place_0 ?_
  refine lv_iload_n hx hb d_Bus_bank0Place_2 rfl (lv_at hl 0 rfl) ?_
  refine lv_ldc (v := (65535 : Int32)) hx hb hown (hts _ q_291) d_Bus_bank0Place_3 ?_
  refine lv_iand hx hb d_Bus_bank0Place_5 ?_
  refine lv_ior hx hb d_Bus_bank0Place_6 ?_
  exact rt_vs X hr hk hP hS (by rw [f_Bus_bank0Place]) d_Bus_bank0Place_7
set_option maxHeartbeats 4000000 in
set_option maxRecDepth 100000 in
theorem c_Bus_cellOf (l : Launch) (D : va_G) (cB cI : ClassId) (a : Nat → Nat) (bz : Nat) (ha : ap a 8) (S : Sc) (x0 : Int32) : MI l y_Bus_cellOf b_Bus_cellOf 1 (some .int) rm_Bus_cellOf [.int x0] D cB cI (wdC cB cI a) (ow a 8) bz S (f_Bus_cellOf x0, S) := by
  refine met_in R_Bus (by decide) rfl (Nat.le_of_ble_eq_true rfl) (wdC_D ha cB cI) ?_
  intro p e s m below meth c ls X hr hk hl hP hS
  have hx := X.1.1
  have hb := X.1.2.1
  have hown := X.1.2.2.2.1
  have hts := X.1.2.2.2.2
  have hl : lv_has ls 1 [(0, .int x0)] := hl
  refine lv_iload_n hx hb d_Bus_cellOf_0 rfl (lv_at hl 0 rfl) ?_
  refine lv_bipush (v := (7 : Int32)) hx hb d_Bus_cellOf_1 (by decide) ?_
  refine lv_ishr hx hb d_Bus_cellOf_3 ?_
  refine lv_sipush (v := (512 : Int32)) hx hb d_Bus_cellOf_4 (by decide) ?_
  refine lv_iand hx hb d_Bus_cellOf_7 ?_
  refine lv_iload_n hx hb d_Bus_cellOf_8 rfl (lv_at hl 0 rfl) ?_
  refine lv_sipush (v := (511 : Int32)) hx hb d_Bus_cellOf_9 (by decide) ?_
  refine lv_iand hx hb d_Bus_cellOf_12 ?_
  refine lv_ior hx hb d_Bus_cellOf_13 ?_
  exact rt_vs X hr hk hP hS (by rw [f_Bus_cellOf]) d_Bus_cellOf_14
set_option maxHeartbeats 4000000 in
set_option maxRecDepth 100000 in
theorem c_Bus_writeByte (l : Launch) (D : va_G) (cB cI : ClassId) (a : Nat → Nat) (bz : Nat) (ha : ap a 8) (S : Sc) (x1 x2 : Int32) : MV l y_Bus_writeByte b_Bus_writeByte 4 rm_Bus_writeByte [.ref (a 1), .int x1, .int x2] D cB cI (wdC cB cI a) (ow a 8) bz S (f_Bus_writeByte S x1 x2) := by
  refine met_in R_Bus (by decide) rfl (Nat.le_of_ble_eq_true rfl) (wdC_D ha cB cI) ?_
  intro p e s m below meth c ls X hr hk hl hP hS
  have hx := X.1.1
  have hb := X.1.2.1
  have hown := X.1.2.2.2.1
  have hts := X.1.2.2.2.2
  have hl : lv_has ls 4 [(0, .ref (a 1)), (1, .int x1), (2, .int x2)] := hl
  refine lv_iload_n hx hb d_Bus_writeByte_0 rfl (lv_at hl 1 rfl) ?_
  refine ks_v (rest := []) X hP hS (c_Bus_cellOf l D cB cI a bz ha S x1) (kw_Bus_cellOf hts q_296 ⟨Nat.le_of_ble_eq_true rfl, Nat.le_of_ble_eq_true rfl⟩) rfl hl.1 rfl (lv_room (Nat.le_of_ble_eq_true rfl)) d_Bus_writeByte_1 (fun H locs hP hS => ?_)
  refine lv_istore_n hx hb d_Bus_writeByte_4 rfl hl (Nat.le_of_ble_eq_true rfl) rfl (fun ls hl => ?_)
  have hl : lv_has ls 4 [(3, .int ((f_Bus_cellOf x1))), (0, .ref (a 1)), (1, .int (x1)), (2, .int (x2))] := hl
  refine lv_aload_n hx hb d_Bus_writeByte_5 rfl (lv_at hl 1 rfl) ?_
  refine gt_Bus X hP 1 (by decide) (v := .ref (a 7)) q_90 rfl d_Bus_writeByte_6 ?_
  refine lv_aload_n hx hb d_Bus_writeByte_9 rfl (lv_at hl 1 rfl) ?_
  refine gt_Bus X hP 2 (by decide) (v := .int (S.1 9)) q_91 rfl d_Bus_writeByte_10 ?_
  refine lv_bipush (v := (7 : Int32)) hx hb d_Bus_writeByte_13 (by decide) ?_
  refine lv_iand hx hb d_Bus_writeByte_15 ?_
  refine lv_iload_n hx hb d_Bus_writeByte_16 rfl (lv_at hl 0 rfl) ?_
  refine lv_sipush (v := (1024 : Int32)) hx hb d_Bus_writeByte_17 (by decide) ?_
  refine lv_iadd hx hb d_Bus_writeByte_20 ?_
  refine wri_ X hP hS 7 rfl (S1 := (pl S ((((S.1 9) &&& (7 : Int32))).toNatClampNeg) (((f_Bus_cellOf x1) + (1024 : Int32))))) (in_and7 _) rfl d_Bus_writeByte_21 (fun H locs hP hS => ?_)
  refine lv_aload_n hx hb d_Bus_writeByte_22 rfl (lv_at hl 1 rfl) ?_
  refine lv_dup hx hb d_Bus_writeByte_23 rfl ?_
  refine gt_Bus X hP 2 (by decide) (v := .int (S.1 9)) q_91 rfl d_Bus_writeByte_24 ?_
  refine lv_iconst (v := (1 : Int32)) hx hb d_Bus_writeByte_27 (by decide) ?_
  refine lv_iadd hx hb d_Bus_writeByte_28 ?_
  refine pt_Bus X hP hS 2 (by decide) (v := ((S.1 9) + (1 : Int32))) (S1 := (pr (pl S ((((S.1 9) &&& (7 : Int32))).toNatClampNeg) (((f_Bus_cellOf x1) + (1024 : Int32)))) 9 (((S.1 9) + (1 : Int32))))) q_91 rfl rfl rfl rfl d_Bus_writeByte_29 (fun H locs hP hS => ?_)
  refine lv_aload_n hx hb d_Bus_writeByte_32 rfl (lv_at hl 1 rfl) ?_
  refine gt_Bus X hP 0 (by decide) (v := .ref (a 6)) q_88 rfl d_Bus_writeByte_33 ?_
  refine lv_iload_n hx hb d_Bus_writeByte_36 rfl (lv_at hl 0 rfl) ?_
  refine lv_iload_n hx hb d_Bus_writeByte_37 rfl (lv_at hl 3 rfl) ?_
  refine lv_i2b hx hb d_Bus_writeByte_38 rfl ?_
  refine wrb_ X hP hS 6 rfl (S1 := (pm (pr (pl S ((((S.1 9) &&& (7 : Int32))).toNatClampNeg) (((f_Bus_cellOf x1) + (1024 : Int32)))) 9 (((S.1 9) + (1 : Int32)))) (((f_Bus_cellOf x1)).toNatClampNeg) (vp_nar .byte ((x2).toInt8.toInt32)))) (in_cellOf _) rfl d_Bus_writeByte_39 (fun H locs hP hS => ?_)
  exact rt_s X hr hk hP hS (by rw [f_Bus_writeByte]) d_Bus_writeByte_40
set_option maxHeartbeats 4000000 in
set_option maxRecDepth 100000 in
theorem c_Bus_readByte (l : Launch) (D : va_G) (cB cI : ClassId) (a : Nat → Nat) (bz : Nat) (ha : ap a 8) (S : Sc) (x1 : Int32) : MI l y_Bus_readByte b_Bus_readByte 3 (some .int) rm_Bus_readByte [.ref (a 1), .int x1] D cB cI (wdC cB cI a) (ow a 8) bz S (f_Bus_readByte S x1) := by
  refine met_in R_Bus (by decide) rfl (Nat.le_of_ble_eq_true rfl) (wdC_D ha cB cI) ?_
  intro p e s m below meth c ls X hr hk hl hP hS
  have hx := X.1.1
  have hb := X.1.2.1
  have hown := X.1.2.2.2.1
  have hts := X.1.2.2.2.2
  have hl : lv_has ls 3 [(0, .ref (a 1)), (1, .int x1)] := hl
  refine lv_iload_n hx hb d_Bus_readByte_0 rfl (lv_at hl 1 rfl) ?_
  refine ks_v (rest := []) X hP hS (c_Bus_cellOf l D cB cI a bz ha S x1) (kw_Bus_cellOf hts q_296 ⟨Nat.le_of_ble_eq_true rfl, Nat.le_of_ble_eq_true rfl⟩) rfl hl.1 rfl (lv_room (Nat.le_of_ble_eq_true rfl)) d_Bus_readByte_1 (fun H locs hP hS => ?_)
  refine lv_istore_n hx hb d_Bus_readByte_4 rfl hl (Nat.le_of_ble_eq_true rfl) rfl (fun ls hl => ?_)
  have hl : lv_has ls 3 [(2, .int ((f_Bus_cellOf x1))), (0, .ref (a 1)), (1, .int (x1))] := hl
  refine lv_aload_n hx hb d_Bus_readByte_5 rfl (lv_at hl 1 rfl) ?_
  refine gt_Bus X hP 1 (by decide) (v := .ref (a 7)) q_90 rfl d_Bus_readByte_6 ?_
  refine lv_aload_n hx hb d_Bus_readByte_9 rfl (lv_at hl 1 rfl) ?_
  refine gt_Bus X hP 2 (by decide) (v := .int (S.1 9)) q_91 rfl d_Bus_readByte_10 ?_
  refine lv_bipush (v := (7 : Int32)) hx hb d_Bus_readByte_13 (by decide) ?_
  refine lv_iand hx hb d_Bus_readByte_15 ?_
  refine lv_iload_n hx hb d_Bus_readByte_16 rfl (lv_at hl 0 rfl) ?_
  refine wri_ X hP hS 7 rfl (S1 := (pl S ((((S.1 9) &&& (7 : Int32))).toNatClampNeg) ((f_Bus_cellOf x1)))) (in_and7 _) rfl d_Bus_readByte_17 (fun H locs hP hS => ?_)
  refine lv_aload_n hx hb d_Bus_readByte_18 rfl (lv_at hl 1 rfl) ?_
  refine lv_dup hx hb d_Bus_readByte_19 rfl ?_
  refine gt_Bus X hP 2 (by decide) (v := .int (S.1 9)) q_91 rfl d_Bus_readByte_20 ?_
  refine lv_iconst (v := (1 : Int32)) hx hb d_Bus_readByte_23 (by decide) ?_
  refine lv_iadd hx hb d_Bus_readByte_24 ?_
  refine pt_Bus X hP hS 2 (by decide) (v := ((S.1 9) + (1 : Int32))) (S1 := (pr (pl S ((((S.1 9) &&& (7 : Int32))).toNatClampNeg) ((f_Bus_cellOf x1))) 9 (((S.1 9) + (1 : Int32))))) q_91 rfl rfl rfl rfl d_Bus_readByte_25 (fun H locs hP hS => ?_)
  refine lv_aload_n hx hb d_Bus_readByte_28 rfl (lv_at hl 1 rfl) ?_
  refine gt_Bus X hP 0 (by decide) (v := .ref (a 6)) q_88 rfl d_Bus_readByte_29 ?_
  refine lv_iload_n hx hb d_Bus_readByte_32 rfl (lv_at hl 0 rfl) ?_
  refine rdb_ X hP 6 rfl (v := S.2.1 ((f_Bus_cellOf x1)).toNatClampNeg) (in_cellOf _) rfl d_Bus_readByte_33 ?_
  refine lv_sipush (v := (255 : Int32)) hx hb d_Bus_readByte_34 (by decide) ?_
  refine lv_iand hx hb d_Bus_readByte_37 ?_
  exact rt_vs X hr hk hP hS (by rw [f_Bus_readByte]) d_Bus_readByte_38
set_option maxHeartbeats 4000000 in
set_option maxRecDepth 100000 in
theorem c_Bus_longPlace (l : Launch) (D : va_G) (cB cI : ClassId) (a : Nat → Nat) (bz : Nat) (ha : ap a 8) (S : Sc) (x0 : Int32) : MI l y_Bus_longPlace b_Bus_longPlace 1 (some .int) rm_Bus_longPlace [.int x0] D cB cI (wdC cB cI a) (ow a 8) bz S (f_Bus_longPlace x0, S) := by
  refine met_in R_Bus (by decide) rfl (Nat.le_of_ble_eq_true rfl) (wdC_D ha cB cI) ?_
  intro p e s m below meth c ls X hr hk hl hP hS
  have hx := X.1.1
  have hb := X.1.2.1
  have hown := X.1.2.2.2.1
  have hts := X.1.2.2.2.2
  have hl : lv_has ls 1 [(0, .int x0)] := hl
  refine lv_iload_n hx hb d_Bus_longPlace_0 rfl (lv_at hl 0 rfl) ?_
  refine lv_ldc (v := (16777215 : Int32)) hx hb hown (hts _ q_325) d_Bus_longPlace_1 ?_
  refine lv_iand hx hb d_Bus_longPlace_3 ?_
  exact rt_vs X hr hk hP hS (by rw [f_Bus_longPlace]) d_Bus_longPlace_4
set_option maxHeartbeats 4000000 in
set_option maxRecDepth 100000 in
theorem c_Bus_placeAfter (l : Launch) (D : va_G) (cB cI : ClassId) (a : Nat → Nat) (bz : Nat) (ha : ap a 8) (S : Sc) (x0 : Int32) : MI l y_Bus_placeAfter b_Bus_placeAfter 1 (some .int) rm_Bus_placeAfter [.int x0] D cB cI (wdC cB cI a) (ow a 8) bz S (f_Bus_placeAfter x0, S) := by
  refine met_in R_Bus (by decide) rfl (Nat.le_of_ble_eq_true rfl) (wdC_D ha cB cI) ?_
  intro p e s m below meth c ls X hr hk hl hP hS
  have hx := X.1.1
  have hb := X.1.2.1
  have hown := X.1.2.2.2.1
  have hts := X.1.2.2.2.2
  have hl : lv_has ls 1 [(0, .int x0)] := hl
  refine lv_iload_n hx hb d_Bus_placeAfter_0 rfl (lv_at hl 0 rfl) ?_
  refine lv_ldc (v := (16777216 : Int32)) hx hb hown (hts _ q_290) d_Bus_placeAfter_1 ?_
  refine lv_iand hx hb d_Bus_placeAfter_3 ?_
  refine lv_if_eq (tgt := 16) hx hb d_Bus_placeAfter_4 rfl (fun h1 => ?_) (fun h1 => ?_)
  ·
    refine lv_iload_n hx hb d_Bus_placeAfter_16 rfl (lv_at hl 0 rfl) ?_
    refine lv_iconst (v := (1 : Int32)) hx hb d_Bus_placeAfter_17 (by decide) ?_
    refine lv_iadd hx hb d_Bus_placeAfter_18 ?_
    refine ks_v (rest := []) X hP hS (c_Bus_longPlace l D cB cI a bz ha S (x0 + (1 : Int32))) (kw_Bus_longPlace hts q_322 ⟨Nat.le_of_ble_eq_true rfl, Nat.le_of_ble_eq_true rfl⟩) rfl hl.1 rfl (lv_room (Nat.le_of_ble_eq_true rfl)) d_Bus_placeAfter_19 (fun H locs hP hS => ?_)
    exact rt_vs X hr hk hP hS (by rw [f_Bus_placeAfter, if_pos h1]) d_Bus_placeAfter_22
  ·
    refine lv_iload_n hx hb d_Bus_placeAfter_7 rfl (lv_at hl 0 rfl) ?_
    refine lv_iconst (v := (1 : Int32)) hx hb d_Bus_placeAfter_8 (by decide) ?_
    refine lv_iadd hx hb d_Bus_placeAfter_9 ?_
    refine ks_v (rest := []) X hP hS (c_Bus_bank0Place l D cB cI a bz ha S (x0 + (1 : Int32))) (kw_Bus_bank0Place hts q_321 ⟨Nat.le_of_ble_eq_true rfl, Nat.le_of_ble_eq_true rfl⟩) rfl hl.1 rfl (lv_room (Nat.le_of_ble_eq_true rfl)) d_Bus_placeAfter_10 (fun H locs hP hS => ?_)
    refine lv_goto (tgt := 22) hx hb d_Bus_placeAfter_13 rfl ?_
    exact rt_vs X hr hk hP hS (by rw [f_Bus_placeAfter, if_neg h1]) d_Bus_placeAfter_22
set_option maxHeartbeats 4000000 in
set_option maxRecDepth 100000 in
theorem c_Bus_readWord (l : Launch) (D : va_G) (cB cI : ClassId) (a : Nat → Nat) (bz : Nat) (ha : ap a 8) (S : Sc) (x1 : Int32) : MI l y_Bus_readWord b_Bus_readWord 3 (some .int) rm_Bus_readWord [.ref (a 1), .int x1] D cB cI (wdC cB cI a) (ow a 8) bz S (f_Bus_readWord S x1) := by
  refine met_in R_Bus (by decide) rfl (Nat.le_of_ble_eq_true rfl) (wdC_D ha cB cI) ?_
  intro p e s m below meth c ls X hr hk hl hP hS
  have hx := X.1.1
  have hb := X.1.2.1
  have hown := X.1.2.2.2.1
  have hts := X.1.2.2.2.2
  have hl : lv_has ls 3 [(0, .ref (a 1)), (1, .int x1)] := hl
  refine lv_aload_n hx hb d_Bus_readWord_0 rfl (lv_at hl 0 rfl) ?_
  refine lv_iload_n hx hb d_Bus_readWord_1 rfl (lv_at hl 1 rfl) ?_
  refine kv_vs (rest := []) X hP hS (c_Bus_readByte l D cB cI a bz ha S x1) (kw_Bus_readByte hts q_314 ⟨Nat.le_of_ble_eq_true rfl, Nat.le_of_ble_eq_true rfl⟩) 1 rfl rfl rfl hl.1 rfl (lv_room (Nat.le_of_ble_eq_true rfl)) d_Bus_readWord_2 (fun r1 S2 H locs e3 hP hS => ?_)
  refine lv_istore_n hx hb d_Bus_readWord_5 rfl hl (Nat.le_of_ble_eq_true rfl) rfl (fun ls hl => ?_)
  have hl : lv_has ls 3 [(2, .int (r1)), (0, .ref (a 1)), (1, .int (x1))] := hl
  refine lv_iload_n hx hb d_Bus_readWord_6 rfl (lv_at hl 0 rfl) ?_
  refine lv_aload_n hx hb d_Bus_readWord_7 rfl (lv_at hl 1 rfl) ?_
  refine lv_iload_n hx hb d_Bus_readWord_8 rfl (lv_at hl 2 rfl) ?_
  refine ks_v (rest := [.ref (a 1), .int (r1)]) X hP hS (c_Bus_placeAfter l D cB cI a bz ha S2 x1) (kw_Bus_placeAfter hts q_318 ⟨Nat.le_of_ble_eq_true rfl, Nat.le_of_ble_eq_true rfl⟩) rfl hl.1 rfl (lv_room (Nat.le_of_ble_eq_true rfl)) d_Bus_readWord_9 (fun H locs hP hS => ?_)
  refine kv_vs (rest := [.int (r1)]) X hP hS (c_Bus_readByte l D cB cI a bz ha S2 (f_Bus_placeAfter x1)) (kw_Bus_readByte hts q_314 ⟨Nat.le_of_ble_eq_true rfl, Nat.le_of_ble_eq_true rfl⟩) 1 rfl rfl rfl hl.1 rfl (lv_room (Nat.le_of_ble_eq_true rfl)) d_Bus_readWord_12 (fun r4 S5 H locs e6 hP hS => ?_)
  refine lv_bipush (v := (8 : Int32)) hx hb d_Bus_readWord_15 (by decide) ?_
  refine lv_ishl hx hb d_Bus_readWord_17 ?_
  refine lv_ior hx hb d_Bus_readWord_18 ?_
  exact rt_vs X hr hk hP hS (by rw [f_Bus_readWord, bn_eq e3, bn_eq e6]) d_Bus_readWord_19
set_option maxHeartbeats 4000000 in
set_option maxRecDepth 100000 in
theorem c_Bus_programByte (l : Launch) (D : va_G) (cB cI : ClassId) (a : Nat → Nat) (bz : Nat) (ha : ap a 8) (S : Sc) (x1 x2 : Int32) : MI l y_Bus_programByte b_Bus_programByte 3 (some .int) rm_Bus_programByte [.ref (a 1), .int x1, .int x2] D cB cI (wdC cB cI a) (ow a 8) bz S (f_Bus_programByte S x1 x2, S) := by
  refine met_in R_Bus (by decide) rfl (Nat.le_of_ble_eq_true rfl) (wdC_D ha cB cI) ?_
  intro p e s m below meth c ls X hr hk hl hP hS
  have hx := X.1.1
  have hb := X.1.2.1
  have hown := X.1.2.2.2.1
  have hts := X.1.2.2.2.2
  have hl : lv_has ls 3 [(0, .ref (a 1)), (1, .int x1), (2, .int x2)] := hl
  refine lv_aload_n hx hb d_Bus_programByte_0 rfl (lv_at hl 0 rfl) ?_
  refine gt_Bus X hP 0 (by decide) (v := .ref (a 6)) q_88 rfl d_Bus_programByte_1 ?_
  refine lv_sipush (v := (512 : Int32)) hx hb d_Bus_programByte_4 (by decide) ?_
  refine lv_iload_n hx hb d_Bus_programByte_7 rfl (lv_at hl 1 rfl) ?_
  refine lv_iconst (v := (1 : Int32)) hx hb d_Bus_programByte_8 (by decide) ?_
  refine lv_iand hx hb d_Bus_programByte_9 ?_
  refine lv_imul hx hb d_Bus_programByte_10 ?_
  refine lv_iload_n hx hb d_Bus_programByte_11 rfl (lv_at hl 2 rfl) ?_
  refine lv_sipush (v := (511 : Int32)) hx hb d_Bus_programByte_12 (by decide) ?_
  refine lv_iand hx hb d_Bus_programByte_15 ?_
  refine lv_iadd hx hb d_Bus_programByte_16 ?_
  refine rdb_ X hP 6 rfl (v := S.2.1 ((((512 : Int32) * (x1 &&& (1 : Int32))) + (x2 &&& (511 : Int32)))).toNatClampNeg) (in_prog _ _) rfl d_Bus_programByte_17 ?_
  refine lv_sipush (v := (255 : Int32)) hx hb d_Bus_programByte_18 (by decide) ?_
  refine lv_iand hx hb d_Bus_programByte_21 ?_
  exact rt_vs X hr hk hP hS (by rw [f_Bus_programByte]) d_Bus_programByte_22
set_option maxHeartbeats 4000000 in
set_option maxRecDepth 100000 in
theorem c_Bus_readLong (l : Launch) (D : va_G) (cB cI : ClassId) (a : Nat → Nat) (bz : Nat) (ha : ap a 8) (S : Sc) (x1 : Int32) : MI l y_Bus_readLong b_Bus_readLong 5 (some .int) rm_Bus_readLong [.ref (a 1), .int x1] D cB cI (wdC cB cI a) (ow a 8) bz S (f_Bus_readLong S x1) := by
  refine met_in R_Bus (by decide) rfl (Nat.le_of_ble_eq_true rfl) (wdC_D ha cB cI) ?_
  intro p e s m below meth c ls X hr hk hl hP hS
  have hx := X.1.1
  have hb := X.1.2.1
  have hown := X.1.2.2.2.1
  have hts := X.1.2.2.2.2
  have hl : lv_has ls 5 [(0, .ref (a 1)), (1, .int x1)] := hl
  refine lv_iload_n hx hb d_Bus_readLong_0 rfl (lv_at hl 1 rfl) ?_
  refine ks_v (rest := []) X hP hS (c_Bus_placeAfter l D cB cI a bz ha S x1) (kw_Bus_placeAfter hts q_318 ⟨Nat.le_of_ble_eq_true rfl, Nat.le_of_ble_eq_true rfl⟩) rfl hl.1 rfl (lv_room (Nat.le_of_ble_eq_true rfl)) d_Bus_readLong_1 (fun H locs hP hS => ?_)
  refine lv_istore_n hx hb d_Bus_readLong_4 rfl hl (Nat.le_of_ble_eq_true rfl) rfl (fun ls hl => ?_)
  have hl : lv_has ls 5 [(2, .int ((f_Bus_placeAfter x1))), (0, .ref (a 1)), (1, .int (x1))] := hl
  refine lv_aload_n hx hb d_Bus_readLong_5 rfl (lv_at hl 1 rfl) ?_
  refine lv_iload_n hx hb d_Bus_readLong_6 rfl (lv_at hl 2 rfl) ?_
  refine kv_vs (rest := []) X hP hS (c_Bus_readByte l D cB cI a bz ha S x1) (kw_Bus_readByte hts q_314 ⟨Nat.le_of_ble_eq_true rfl, Nat.le_of_ble_eq_true rfl⟩) 1 rfl rfl rfl hl.1 rfl (lv_room (Nat.le_of_ble_eq_true rfl)) d_Bus_readLong_7 (fun r1 S2 H locs e3 hP hS => ?_)
  refine lv_istore_n hx hb d_Bus_readLong_10 rfl hl (Nat.le_of_ble_eq_true rfl) rfl (fun ls hl => ?_)
  have hl : lv_has ls 5 [(3, .int (r1)), (2, .int ((f_Bus_placeAfter x1))), (0, .ref (a 1)), (1, .int (x1))] := hl
  refine lv_aload_n hx hb d_Bus_readLong_11 rfl (lv_at hl 2 rfl) ?_
  refine lv_iload_n hx hb d_Bus_readLong_12 rfl (lv_at hl 1 rfl) ?_
  refine kv_vs (rest := []) X hP hS (c_Bus_readByte l D cB cI a bz ha S2 (f_Bus_placeAfter x1)) (kw_Bus_readByte hts q_314 ⟨Nat.le_of_ble_eq_true rfl, Nat.le_of_ble_eq_true rfl⟩) 1 rfl rfl rfl hl.1 rfl (lv_room (Nat.le_of_ble_eq_true rfl)) d_Bus_readLong_13 (fun r4 S5 H locs e6 hP hS => ?_)
  refine lv_istore hx hb d_Bus_readLong_16 hl (Nat.le_of_ble_eq_true rfl) rfl (fun ls hl => ?_)
  have hl : lv_has ls 5 [(4, .int (r4)), (3, .int (r1)), (2, .int ((f_Bus_placeAfter x1))), (0, .ref (a 1)), (1, .int (x1))] := hl
  refine lv_iload_n hx hb d_Bus_readLong_18 rfl (lv_at hl 1 rfl) ?_
  refine lv_iload hx hb d_Bus_readLong_19 (lv_at hl 0 rfl) ?_
  refine lv_bipush (v := (8 : Int32)) hx hb d_Bus_readLong_21 (by decide) ?_
  refine lv_ishl hx hb d_Bus_readLong_23 ?_
  refine lv_ior hx hb d_Bus_readLong_24 ?_
  refine lv_aload_n hx hb d_Bus_readLong_25 rfl (lv_at hl 3 rfl) ?_
  refine lv_iload_n hx hb d_Bus_readLong_26 rfl (lv_at hl 2 rfl) ?_
  refine ks_v (rest := [.ref (a 1), .int ((r1 ||| (r4 <<< ((8 : Int32) &&& 31))))]) X hP hS (c_Bus_placeAfter l D cB cI a bz ha S5 (f_Bus_placeAfter x1)) (kw_Bus_placeAfter hts q_318 ⟨Nat.le_of_ble_eq_true rfl, Nat.le_of_ble_eq_true rfl⟩) rfl hl.1 rfl (lv_room (Nat.le_of_ble_eq_true rfl)) d_Bus_readLong_27 (fun H locs hP hS => ?_)
  refine kv_vs (rest := [.int ((r1 ||| (r4 <<< ((8 : Int32) &&& 31))))]) X hP hS (c_Bus_readByte l D cB cI a bz ha S5 (f_Bus_placeAfter (f_Bus_placeAfter x1))) (kw_Bus_readByte hts q_314 ⟨Nat.le_of_ble_eq_true rfl, Nat.le_of_ble_eq_true rfl⟩) 1 rfl rfl rfl hl.1 rfl (lv_room (Nat.le_of_ble_eq_true rfl)) d_Bus_readLong_30 (fun r7 S8 H locs e9 hP hS => ?_)
  refine lv_bipush (v := (16 : Int32)) hx hb d_Bus_readLong_33 (by decide) ?_
  refine lv_ishl hx hb d_Bus_readLong_35 ?_
  refine lv_ior hx hb d_Bus_readLong_36 ?_
  exact rt_vs X hr hk hP hS (by rw [f_Bus_readLong, bn_eq e3, bn_eq e6, bn_eq e9]) d_Bus_readLong_37
set_option maxHeartbeats 4000000 in
set_option maxRecDepth 100000 in
theorem c_Bus_writeValue (l : Launch) (D : va_G) (cB cI : ClassId) (a : Nat → Nat) (bz : Nat) (ha : ap a 8) (S : Sc) (x1 x2 x3 : Int32) : MV l y_Bus_writeValue b_Bus_writeValue 4 rm_Bus_writeValue [.ref (a 1), .int x1, .int x2, .int x3] D cB cI (wdC cB cI a) (ow a 8) bz S (f_Bus_writeValue S x1 x2 x3) := by
  refine met_in R_Bus (by decide) rfl (Nat.le_of_ble_eq_true rfl) (wdC_D ha cB cI) ?_
  intro p e s m below meth c ls X hr hk hl hP hS
  have hx := X.1.1
  have hb := X.1.2.1
  have hown := X.1.2.2.2.1
  have hts := X.1.2.2.2.2
  have hl : lv_has ls 4 [(0, .ref (a 1)), (1, .int x1), (2, .int x2), (3, .int x3)] := hl
  refine lv_aload_n hx hb d_Bus_writeValue_0 rfl (lv_at hl 0 rfl) ?_
  refine lv_iload_n hx hb d_Bus_writeValue_1 rfl (lv_at hl 1 rfl) ?_
  refine lv_iload_n hx hb d_Bus_writeValue_2 rfl (lv_at hl 2 rfl) ?_
  refine kv_s (rest := []) X hP hS (c_Bus_writeByte l D cB cI a bz ha S x1 x2) (kw_Bus_writeByte hts q_386 ⟨Nat.le_of_ble_eq_true rfl, Nat.le_of_ble_eq_true rfl⟩) 1 rfl rfl rfl hl.1 rfl (lv_room (Nat.le_of_ble_eq_true rfl)) d_Bus_writeValue_3 (fun S1 H locs e2 hP hS => ?_)
  refine lv_iload_n hx hb d_Bus_writeValue_6 rfl (lv_at hl 3 rfl) ?_
  refine lv_if_eq (tgt := 22) hx hb d_Bus_writeValue_7 rfl (fun h3 => ?_) (fun h3 => ?_)
  ·
    exact rt_s X hr hk hP hS (by rw [f_Bus_writeValue, bs_eq e2, if_pos h3]) d_Bus_writeValue_22
  ·
    refine lv_aload_n hx hb d_Bus_writeValue_10 rfl (lv_at hl 0 rfl) ?_
    refine lv_iload_n hx hb d_Bus_writeValue_11 rfl (lv_at hl 1 rfl) ?_
    refine ks_v (rest := [.ref (a 1)]) X hP hS (c_Bus_placeAfter l D cB cI a bz ha S1 x1) (kw_Bus_placeAfter hts q_318 ⟨Nat.le_of_ble_eq_true rfl, Nat.le_of_ble_eq_true rfl⟩) rfl hl.1 rfl (lv_room (Nat.le_of_ble_eq_true rfl)) d_Bus_writeValue_12 (fun H locs hP hS => ?_)
    refine lv_iload_n hx hb d_Bus_writeValue_15 rfl (lv_at hl 2 rfl) ?_
    refine lv_bipush (v := (8 : Int32)) hx hb d_Bus_writeValue_16 (by decide) ?_
    refine lv_ishr hx hb d_Bus_writeValue_18 ?_
    refine kv_s (rest := []) X hP hS (c_Bus_writeByte l D cB cI a bz ha S1 (f_Bus_placeAfter x1) (x2 >>> ((8 : Int32) &&& 31))) (kw_Bus_writeByte hts q_386 ⟨Nat.le_of_ble_eq_true rfl, Nat.le_of_ble_eq_true rfl⟩) 1 rfl rfl rfl hl.1 rfl (lv_room (Nat.le_of_ble_eq_true rfl)) d_Bus_writeValue_19 (fun S4 H locs e5 hP hS => ?_)
    exact rt_s X hr hk hP hS (by rw [f_Bus_writeValue, bs_eq e2, if_neg h3, bs_eq e5]) d_Bus_writeValue_22
set_option maxHeartbeats 4000000 in
set_option maxRecDepth 100000 in
theorem c_Bus_readValue (l : Launch) (D : va_G) (cB cI : ClassId) (a : Nat → Nat) (bz : Nat) (ha : ap a 8) (S : Sc) (x1 x2 : Int32) : MI l y_Bus_readValue b_Bus_readValue 3 (some .int) rm_Bus_readValue [.ref (a 1), .int x1, .int x2] D cB cI (wdC cB cI a) (ow a 8) bz S (f_Bus_readValue S x1 x2) := by
  refine met_in R_Bus (by decide) rfl (Nat.le_of_ble_eq_true rfl) (wdC_D ha cB cI) ?_
  intro p e s m below meth c ls X hr hk hl hP hS
  have hx := X.1.1
  have hb := X.1.2.1
  have hown := X.1.2.2.2.1
  have hts := X.1.2.2.2.2
  have hl : lv_has ls 3 [(0, .ref (a 1)), (1, .int x1), (2, .int x2)] := hl
  refine lv_iload_n hx hb d_Bus_readValue_0 rfl (lv_at hl 2 rfl) ?_
  refine lv_if_eq (tgt := 12) hx hb d_Bus_readValue_1 rfl (fun h1 => ?_) (fun h1 => ?_)
  ·
    refine lv_aload_n hx hb d_Bus_readValue_12 rfl (lv_at hl 0 rfl) ?_
    refine lv_iload_n hx hb d_Bus_readValue_13 rfl (lv_at hl 1 rfl) ?_
    refine kv_vs (rest := []) X hP hS (c_Bus_readByte l D cB cI a bz ha S x1) (kw_Bus_readByte hts q_314 ⟨Nat.le_of_ble_eq_true rfl, Nat.le_of_ble_eq_true rfl⟩) 1 rfl rfl rfl hl.1 rfl (lv_room (Nat.le_of_ble_eq_true rfl)) d_Bus_readValue_14 (fun r2 S3 H locs e4 hP hS => ?_)
    exact rt_vs X hr hk hP hS (by rw [f_Bus_readValue, if_pos h1, bn_eq e4]) d_Bus_readValue_17
  ·
    refine lv_aload_n hx hb d_Bus_readValue_4 rfl (lv_at hl 0 rfl) ?_
    refine lv_iload_n hx hb d_Bus_readValue_5 rfl (lv_at hl 1 rfl) ?_
    refine kv_vs (rest := []) X hP hS (c_Bus_readWord l D cB cI a bz ha S x1) (kw_Bus_readWord hts q_395 ⟨Nat.le_of_ble_eq_true rfl, Nat.le_of_ble_eq_true rfl⟩) 1 rfl rfl rfl hl.1 rfl (lv_room (Nat.le_of_ble_eq_true rfl)) d_Bus_readValue_6 (fun r5 S6 H locs e7 hP hS => ?_)
    refine lv_goto (tgt := 17) hx hb d_Bus_readValue_9 rfl ?_
    exact rt_vs X hr hk hP hS (by rw [f_Bus_readValue, if_neg h1, bn_eq e7]) d_Bus_readValue_17
set_option maxHeartbeats 4000000 in
set_option maxRecDepth 100000 in
theorem c_Bus_latestTouch (l : Launch) (D : va_G) (cB cI : ClassId) (a : Nat → Nat) (bz : Nat) (ha : ap a 8) (S : Sc) (x1 : Int32) : MI l y_Bus_latestTouch b_Bus_latestTouch 2 (some .int) rm_Bus_latestTouch [.ref (a 1), .int x1] D cB cI (wdC cB cI a) (ow a 8) bz S (f_Bus_latestTouch S x1, S) := by
  refine met_in R_Bus (by decide) rfl (Nat.le_of_ble_eq_true rfl) (wdC_D ha cB cI) ?_
  intro p e s m below meth c ls X hr hk hl hP hS
  have hx := X.1.1
  have hb := X.1.2.1
  have hown := X.1.2.2.2.1
  have hts := X.1.2.2.2.2
  have hl : lv_has ls 2 [(0, .ref (a 1)), (1, .int x1)] := hl
  refine lv_aload_n hx hb d_Bus_latestTouch_0 rfl (lv_at hl 0 rfl) ?_
  refine gt_Bus X hP 1 (by decide) (v := .ref (a 7)) q_90 rfl d_Bus_latestTouch_1 ?_
  refine lv_aload_n hx hb d_Bus_latestTouch_4 rfl (lv_at hl 0 rfl) ?_
  refine gt_Bus X hP 2 (by decide) (v := .int (S.1 9)) q_91 rfl d_Bus_latestTouch_5 ?_
  refine lv_iconst (v := (1 : Int32)) hx hb d_Bus_latestTouch_8 (by decide) ?_
  refine lv_isub hx hb d_Bus_latestTouch_9 ?_
  refine lv_iload_n hx hb d_Bus_latestTouch_10 rfl (lv_at hl 1 rfl) ?_
  refine lv_isub hx hb d_Bus_latestTouch_11 ?_
  refine lv_bipush (v := (7 : Int32)) hx hb d_Bus_latestTouch_12 (by decide) ?_
  refine lv_iand hx hb d_Bus_latestTouch_14 ?_
  refine rdi_ X hP 7 rfl (v := S.2.2 (((((S.1 9) - (1 : Int32)) - x1) &&& (7 : Int32))).toNatClampNeg) (in_and7 _) rfl d_Bus_latestTouch_15 ?_
  exact rt_vs X hr hk hP hS (by rw [f_Bus_latestTouch]) d_Bus_latestTouch_16
end

section
def lw_okq (q : MethodName × Nat) : Prop := (q.1.cls ≠ "java/lang/invoke/MethodHandle" ∧ q.1.cls ≠ "java/lang/invoke/VarHandle") ∧ Cond.instantiable q.1.cls q.2 ∈ tables_1 ∧ Cond.privateMethod q.1 ∈ tables_1 ∧ Cond.instanceMethod q.1 ∈ tables_1
theorem lw_p0 : lw_okq (⟨"WideCore$Processor", "enterInterrupt", "(I)V"⟩, 8) := ⟨⟨by decide +kernel, by decide +kernel⟩, List.mem_of_getElem? (i := 97) (by decide +kernel), List.mem_of_getElem? (i := 214) (by decide +kernel), List.mem_of_getElem? (i := 215) (by decide +kernel)⟩
theorem lw_p1 : lw_okq (⟨"WideCore$Processor", "useAccumulator", "(I)Z"⟩, 8) := ⟨⟨by decide +kernel, by decide +kernel⟩, List.mem_of_getElem? (i := 97) (by decide +kernel), List.mem_of_getElem? (i := 274) (by decide +kernel), List.mem_of_getElem? (i := 275) (by decide +kernel)⟩
theorem lw_p2 : lw_okq (⟨"WideCore$Operands", "direct", "(I)I"⟩, 2) := ⟨⟨by decide +kernel, by decide +kernel⟩, List.mem_of_getElem? (i := 103) (by decide +kernel), List.mem_of_getElem? (i := 289) (by decide +kernel), List.mem_of_getElem? (i := 290) (by decide +kernel)⟩
theorem lw_p3 : lw_okq (⟨"WideCore$Operands", "inDataBank", "(II)I"⟩, 2) := ⟨⟨by decide +kernel, by decide +kernel⟩, List.mem_of_getElem? (i := 103) (by decide +kernel), List.mem_of_getElem? (i := 299) (by decide +kernel), List.mem_of_getElem? (i := 300) (by decide +kernel)⟩
theorem lw_p4 : lw_okq (⟨"WideCore$Operands", "onStack", "()I"⟩, 2) := ⟨⟨by decide +kernel, by decide +kernel⟩, List.mem_of_getElem? (i := 103) (by decide +kernel), List.mem_of_getElem? (i := 313) (by decide +kernel), List.mem_of_getElem? (i := 314) (by decide +kernel)⟩
theorem lw_p5 : lw_okq (⟨"WideCore$Processor", "addToA", "(I)V"⟩, 8) := ⟨⟨by decide +kernel, by decide +kernel⟩, List.mem_of_getElem? (i := 97) (by decide +kernel), List.mem_of_getElem? (i := 348) (by decide +kernel), List.mem_of_getElem? (i := 349) (by decide +kernel)⟩
theorem lw_p6 : lw_okq (⟨"WideCore$Processor", "compare", "(IIZ)V"⟩, 8) := ⟨⟨by decide +kernel, by decide +kernel⟩, List.mem_of_getElem? (i := 97) (by decide +kernel), List.mem_of_getElem? (i := 354) (by decide +kernel), List.mem_of_getElem? (i := 355) (by decide +kernel)⟩
theorem lw_p7 : lw_okq (⟨"WideCore$Processor", "useIndex", "(I)Z"⟩, 8) := ⟨⟨by decide +kernel, by decide +kernel⟩, List.mem_of_getElem? (i := 97) (by decide +kernel), List.mem_of_getElem? (i := 359) (by decide +kernel), List.mem_of_getElem? (i := 360) (by decide +kernel)⟩
theorem lw_p8 : lw_okq (⟨"WideCore$Processor", "storeZero", "(I)Z"⟩, 8) := ⟨⟨by decide +kernel, by decide +kernel⟩, List.mem_of_getElem? (i := 97) (by decide +kernel), List.mem_of_getElem? (i := 372) (by decide +kernel), List.mem_of_getElem? (i := 373) (by decide +kernel)⟩
theorem lw_p9 : lw_okq (⟨"WideCore$Processor", "changeMemory", "(I)Z"⟩, 8) := ⟨⟨by decide +kernel, by decide +kernel⟩, List.mem_of_getElem? (i := 97) (by decide +kernel), List.mem_of_getElem? (i := 376) (by decide +kernel), List.mem_of_getElem? (i := 377) (by decide +kernel)⟩
theorem lw_p10 : lw_okq (⟨"WideCore$Processor", "changed", "(IIZ)I"⟩, 8) := ⟨⟨by decide +kernel, by decide +kernel⟩, List.mem_of_getElem? (i := 97) (by decide +kernel), List.mem_of_getElem? (i := 380) (by decide +kernel), List.mem_of_getElem? (i := 381) (by decide +kernel)⟩
theorem lw_p11 : lw_okq (⟨"WideCore$Processor", "changeRegister", "(I)Z"⟩, 8) := ⟨⟨by decide +kernel, by decide +kernel⟩, List.mem_of_getElem? (i := 97) (by decide +kernel), List.mem_of_getElem? (i := 384) (by decide +kernel), List.mem_of_getElem? (i := 385) (by decide +kernel)⟩
theorem lw_p12 : lw_okq (⟨"WideCore$Processor", "transfer", "(I)Z"⟩, 8) := ⟨⟨by decide +kernel, by decide +kernel⟩, List.mem_of_getElem? (i := 97) (by decide +kernel), List.mem_of_getElem? (i := 388) (by decide +kernel), List.mem_of_getElem? (i := 389) (by decide +kernel)⟩
theorem lw_p13 : lw_okq (⟨"WideCore$Processor", "push", "(I)Z"⟩, 8) := ⟨⟨by decide +kernel, by decide +kernel⟩, List.mem_of_getElem? (i := 97) (by decide +kernel), List.mem_of_getElem? (i := 400) (by decide +kernel), List.mem_of_getElem? (i := 401) (by decide +kernel)⟩
theorem lw_p14 : lw_okq (⟨"WideCore$Processor", "pull", "(I)Z"⟩, 8) := ⟨⟨by decide +kernel, by decide +kernel⟩, List.mem_of_getElem? (i := 97) (by decide +kernel), List.mem_of_getElem? (i := 409) (by decide +kernel), List.mem_of_getElem? (i := 410) (by decide +kernel)⟩
theorem lw_p15 : lw_okq (⟨"WideCore$Processor", "branch", "(I)Z"⟩, 8) := ⟨⟨by decide +kernel, by decide +kernel⟩, List.mem_of_getElem? (i := 97) (by decide +kernel), List.mem_of_getElem? (i := 433) (by decide +kernel), List.mem_of_getElem? (i := 434) (by decide +kernel)⟩
def lw_privs_1 : List (MethodName × Nat) := [(⟨"WideCore$Processor", "enterInterrupt", "(I)V"⟩, 8), (⟨"WideCore$Processor", "useAccumulator", "(I)Z"⟩, 8), (⟨"WideCore$Operands", "direct", "(I)I"⟩, 2), (⟨"WideCore$Operands", "inDataBank", "(II)I"⟩, 2), (⟨"WideCore$Operands", "onStack", "()I"⟩, 2), (⟨"WideCore$Processor", "addToA", "(I)V"⟩, 8), (⟨"WideCore$Processor", "compare", "(IIZ)V"⟩, 8), (⟨"WideCore$Processor", "useIndex", "(I)Z"⟩, 8), (⟨"WideCore$Processor", "storeZero", "(I)Z"⟩, 8), (⟨"WideCore$Processor", "changeMemory", "(I)Z"⟩, 8), (⟨"WideCore$Processor", "changed", "(IIZ)I"⟩, 8), (⟨"WideCore$Processor", "changeRegister", "(I)Z"⟩, 8), (⟨"WideCore$Processor", "transfer", "(I)Z"⟩, 8), (⟨"WideCore$Processor", "push", "(I)Z"⟩, 8), (⟨"WideCore$Processor", "pull", "(I)Z"⟩, 8), (⟨"WideCore$Processor", "branch", "(I)Z"⟩, 8)]
theorem lw_r1 : ∀ q ∈ lw_privs_1, lw_okq q := List.forall_mem_cons.mpr ⟨lw_p0, List.forall_mem_cons.mpr ⟨lw_p1, List.forall_mem_cons.mpr ⟨lw_p2, List.forall_mem_cons.mpr ⟨lw_p3, List.forall_mem_cons.mpr ⟨lw_p4, List.forall_mem_cons.mpr ⟨lw_p5, List.forall_mem_cons.mpr ⟨lw_p6, List.forall_mem_cons.mpr ⟨lw_p7, List.forall_mem_cons.mpr ⟨lw_p8, List.forall_mem_cons.mpr ⟨lw_p9, List.forall_mem_cons.mpr ⟨lw_p10, List.forall_mem_cons.mpr ⟨lw_p11, List.forall_mem_cons.mpr ⟨lw_p12, List.forall_mem_cons.mpr ⟨lw_p13, List.forall_mem_cons.mpr ⟨lw_p14, List.forall_mem_cons.mpr ⟨lw_p15, fun _ h => absurd h List.not_mem_nil⟩⟩⟩⟩⟩⟩⟩⟩⟩⟩⟩⟩⟩⟩⟩⟩
theorem lw_p16 : lw_okq (⟨"WideCore$Processor", "jump", "(I)Z"⟩, 8) := ⟨⟨by decide +kernel, by decide +kernel⟩, List.mem_of_getElem? (i := 97) (by decide +kernel), List.mem_of_getElem? (i := 443) (by decide +kernel), List.mem_of_getElem? (i := 444) (by decide +kernel)⟩
theorem lw_p17 : lw_okq (⟨"WideCore$Processor", "changeFlags", "(I)Z"⟩, 8) := ⟨⟨by decide +kernel, by decide +kernel⟩, List.mem_of_getElem? (i := 97) (by decide +kernel), List.mem_of_getElem? (i := 453) (by decide +kernel), List.mem_of_getElem? (i := 454) (by decide +kernel)⟩
theorem lw_p18 : lw_okq (⟨"WideCore$Processor", "moveBlock", "(I)Z"⟩, 8) := ⟨⟨by decide +kernel, by decide +kernel⟩, List.mem_of_getElem? (i := 97) (by decide +kernel), List.mem_of_getElem? (i := 457) (by decide +kernel), List.mem_of_getElem? (i := 458) (by decide +kernel)⟩
theorem lw_p19 : lw_okq (⟨"WideCoreModel", "is", "(I)Z"⟩, 18) := ⟨⟨by decide +kernel, by decide +kernel⟩, List.mem_of_getElem? (i := 492) (by decide +kernel), List.mem_of_getElem? (i := 570) (by decide +kernel), List.mem_of_getElem? (i := 571) (by decide +kernel)⟩
theorem lw_p20 : lw_okq (⟨"WideCoreModel", "cut", "(IZ)I"⟩, 18) := ⟨⟨by decide +kernel, by decide +kernel⟩, List.mem_of_getElem? (i := 492) (by decide +kernel), List.mem_of_getElem? (i := 574) (by decide +kernel), List.mem_of_getElem? (i := 575) (by decide +kernel)⟩
theorem lw_p21 : lw_okq (⟨"WideCoreModel", "setFlags", "(I)V"⟩, 18) := ⟨⟨by decide +kernel, by decide +kernel⟩, List.mem_of_getElem? (i := 492) (by decide +kernel), List.mem_of_getElem? (i := 578) (by decide +kernel), List.mem_of_getElem? (i := 579) (by decide +kernel)⟩
theorem lw_p22 : lw_okq (⟨"WideCoreModel", "step", "()V"⟩, 18) := ⟨⟨by decide +kernel, by decide +kernel⟩, List.mem_of_getElem? (i := 492) (by decide +kernel), List.mem_of_getElem? (i := 590) (by decide +kernel), List.mem_of_getElem? (i := 591) (by decide +kernel)⟩
theorem lw_p23 : lw_okq (⟨"WideCoreModel", "interruptFrom", "(I)V"⟩, 18) := ⟨⟨by decide +kernel, by decide +kernel⟩, List.mem_of_getElem? (i := 492) (by decide +kernel), List.mem_of_getElem? (i := 594) (by decide +kernel), List.mem_of_getElem? (i := 595) (by decide +kernel)⟩
theorem lw_p24 : lw_okq (⟨"WideCoreModel", "push", "(I)V"⟩, 18) := ⟨⟨by decide +kernel, by decide +kernel⟩, List.mem_of_getElem? (i := 492) (by decide +kernel), List.mem_of_getElem? (i := 598) (by decide +kernel), List.mem_of_getElem? (i := 599) (by decide +kernel)⟩
theorem lw_p25 : lw_okq (⟨"WideCoreModel", "write", "(II)V"⟩, 18) := ⟨⟨by decide +kernel, by decide +kernel⟩, List.mem_of_getElem? (i := 492) (by decide +kernel), List.mem_of_getElem? (i := 602) (by decide +kernel), List.mem_of_getElem? (i := 603) (by decide +kernel)⟩
theorem lw_p26 : lw_okq (⟨"WideCoreModel", "touch", "(I)V"⟩, 18) := ⟨⟨by decide +kernel, by decide +kernel⟩, List.mem_of_getElem? (i := 492) (by decide +kernel), List.mem_of_getElem? (i := 609) (by decide +kernel), List.mem_of_getElem? (i := 610) (by decide +kernel)⟩
theorem lw_p27 : lw_okq (⟨"WideCoreModel", "pushWord", "(I)V"⟩, 18) := ⟨⟨by decide +kernel, by decide +kernel⟩, List.mem_of_getElem? (i := 492) (by decide +kernel), List.mem_of_getElem? (i := 613) (by decide +kernel), List.mem_of_getElem? (i := 614) (by decide +kernel)⟩
theorem lw_p28 : lw_okq (⟨"WideCoreModel", "flag", "(IZ)V"⟩, 18) := ⟨⟨by decide +kernel, by decide +kernel⟩, List.mem_of_getElem? (i := 492) (by decide +kernel), List.mem_of_getElem? (i := 617) (by decide +kernel), List.mem_of_getElem? (i := 618) (by decide +kernel)⟩
theorem lw_p29 : lw_okq (⟨"WideCoreModel", "readWord", "(IZ)I"⟩, 18) := ⟨⟨by decide +kernel, by decide +kernel⟩, List.mem_of_getElem? (i := 492) (by decide +kernel), List.mem_of_getElem? (i := 621) (by decide +kernel), List.mem_of_getElem? (i := 622) (by decide +kernel)⟩
theorem lw_p30 : lw_okq (⟨"WideCoreModel", "read", "(I)I"⟩, 18) := ⟨⟨by decide +kernel, by decide +kernel⟩, List.mem_of_getElem? (i := 492) (by decide +kernel), List.mem_of_getElem? (i := 625) (by decide +kernel), List.mem_of_getElem? (i := 626) (by decide +kernel)⟩
theorem lw_p31 : lw_okq (⟨"WideCoreModel", "after", "(IZ)I"⟩, 18) := ⟨⟨by decide +kernel, by decide +kernel⟩, List.mem_of_getElem? (i := 492) (by decide +kernel), List.mem_of_getElem? (i := 629) (by decide +kernel), List.mem_of_getElem? (i := 630) (by decide +kernel)⟩
def lw_privs_2 : List (MethodName × Nat) := [(⟨"WideCore$Processor", "jump", "(I)Z"⟩, 8), (⟨"WideCore$Processor", "changeFlags", "(I)Z"⟩, 8), (⟨"WideCore$Processor", "moveBlock", "(I)Z"⟩, 8), (⟨"WideCoreModel", "is", "(I)Z"⟩, 18), (⟨"WideCoreModel", "cut", "(IZ)I"⟩, 18), (⟨"WideCoreModel", "setFlags", "(I)V"⟩, 18), (⟨"WideCoreModel", "step", "()V"⟩, 18), (⟨"WideCoreModel", "interruptFrom", "(I)V"⟩, 18), (⟨"WideCoreModel", "push", "(I)V"⟩, 18), (⟨"WideCoreModel", "write", "(II)V"⟩, 18), (⟨"WideCoreModel", "touch", "(I)V"⟩, 18), (⟨"WideCoreModel", "pushWord", "(I)V"⟩, 18), (⟨"WideCoreModel", "flag", "(IZ)V"⟩, 18), (⟨"WideCoreModel", "readWord", "(IZ)I"⟩, 18), (⟨"WideCoreModel", "read", "(I)I"⟩, 18), (⟨"WideCoreModel", "after", "(IZ)I"⟩, 18)]
theorem lw_r2 : ∀ q ∈ lw_privs_2, lw_okq q := List.forall_mem_cons.mpr ⟨lw_p16, List.forall_mem_cons.mpr ⟨lw_p17, List.forall_mem_cons.mpr ⟨lw_p18, List.forall_mem_cons.mpr ⟨lw_p19, List.forall_mem_cons.mpr ⟨lw_p20, List.forall_mem_cons.mpr ⟨lw_p21, List.forall_mem_cons.mpr ⟨lw_p22, List.forall_mem_cons.mpr ⟨lw_p23, List.forall_mem_cons.mpr ⟨lw_p24, List.forall_mem_cons.mpr ⟨lw_p25, List.forall_mem_cons.mpr ⟨lw_p26, List.forall_mem_cons.mpr ⟨lw_p27, List.forall_mem_cons.mpr ⟨lw_p28, List.forall_mem_cons.mpr ⟨lw_p29, List.forall_mem_cons.mpr ⟨lw_p30, List.forall_mem_cons.mpr ⟨lw_p31, fun _ h => absurd h List.not_mem_nil⟩⟩⟩⟩⟩⟩⟩⟩⟩⟩⟩⟩⟩⟩⟩⟩
theorem lw_p32 : lw_okq (⟨"WideCoreModel", "next", "()I"⟩, 18) := ⟨⟨by decide +kernel, by decide +kernel⟩, List.mem_of_getElem? (i := 492) (by decide +kernel), List.mem_of_getElem? (i := 635) (by decide +kernel), List.mem_of_getElem? (i := 636) (by decide +kernel)⟩
theorem lw_p33 : lw_okq (⟨"WideCoreModel", "arithmetic", "(I)Z"⟩, 18) := ⟨⟨by decide +kernel, by decide +kernel⟩, List.mem_of_getElem? (i := 492) (by decide +kernel), List.mem_of_getElem? (i := 639) (by decide +kernel), List.mem_of_getElem? (i := 640) (by decide +kernel)⟩
theorem lw_p34 : lw_okq (⟨"WideCoreModel", "find", "(I)Z"⟩, 18) := ⟨⟨by decide +kernel, by decide +kernel⟩, List.mem_of_getElem? (i := 492) (by decide +kernel), List.mem_of_getElem? (i := 643) (by decide +kernel), List.mem_of_getElem? (i := 644) (by decide +kernel)⟩
theorem lw_p35 : lw_okq (⟨"WideCoreModel", "direct", "(I)V"⟩, 18) := ⟨⟨by decide +kernel, by decide +kernel⟩, List.mem_of_getElem? (i := 492) (by decide +kernel), List.mem_of_getElem? (i := 647) (by decide +kernel), List.mem_of_getElem? (i := 648) (by decide +kernel)⟩
theorem lw_p36 : lw_okq (⟨"WideCoreModel", "nextWord", "()I"⟩, 18) := ⟨⟨by decide +kernel, by decide +kernel⟩, List.mem_of_getElem? (i := 492) (by decide +kernel), List.mem_of_getElem? (i := 651) (by decide +kernel), List.mem_of_getElem? (i := 652) (by decide +kernel)⟩
theorem lw_p37 : lw_okq (⟨"WideCoreModel", "far", "(I)V"⟩, 18) := ⟨⟨by decide +kernel, by decide +kernel⟩, List.mem_of_getElem? (i := 492) (by decide +kernel), List.mem_of_getElem? (i := 655) (by decide +kernel), List.mem_of_getElem? (i := 656) (by decide +kernel)⟩
theorem lw_p38 : lw_okq (⟨"WideCoreModel", "nextLong", "()I"⟩, 18) := ⟨⟨by decide +kernel, by decide +kernel⟩, List.mem_of_getElem? (i := 492) (by decide +kernel), List.mem_of_getElem? (i := 659) (by decide +kernel), List.mem_of_getElem? (i := 660) (by decide +kernel)⟩
theorem lw_p39 : lw_okq (⟨"WideCoreModel", "accumulator", "()I"⟩, 18) := ⟨⟨by decide +kernel, by decide +kernel⟩, List.mem_of_getElem? (i := 492) (by decide +kernel), List.mem_of_getElem? (i := 663) (by decide +kernel), List.mem_of_getElem? (i := 664) (by decide +kernel)⟩
theorem lw_p40 : lw_okq (⟨"WideCoreModel", "store", "(IZ)V"⟩, 18) := ⟨⟨by decide +kernel, by decide +kernel⟩, List.mem_of_getElem? (i := 492) (by decide +kernel), List.mem_of_getElem? (i := 667) (by decide +kernel), List.mem_of_getElem? (i := 668) (by decide +kernel)⟩
theorem lw_p41 : lw_okq (⟨"WideCoreModel", "immediate", "(Z)I"⟩, 18) := ⟨⟨by decide +kernel, by decide +kernel⟩, List.mem_of_getElem? (i := 492) (by decide +kernel), List.mem_of_getElem? (i := 671) (by decide +kernel), List.mem_of_getElem? (i := 672) (by decide +kernel)⟩
theorem lw_p42 : lw_okq (⟨"WideCoreModel", "load", "(Z)I"⟩, 18) := ⟨⟨by decide +kernel, by decide +kernel⟩, List.mem_of_getElem? (i := 492) (by decide +kernel), List.mem_of_getElem? (i := 675) (by decide +kernel), List.mem_of_getElem? (i := 676) (by decide +kernel)⟩
theorem lw_p43 : lw_okq (⟨"WideCoreModel", "add", "(I)V"⟩, 18) := ⟨⟨by decide +kernel, by decide +kernel⟩, List.mem_of_getElem? (i := 492) (by decide +kernel), List.mem_of_getElem? (i := 679) (by decide +kernel), List.mem_of_getElem? (i := 680) (by decide +kernel)⟩
theorem lw_p44 : lw_okq (⟨"WideCoreModel", "result", "(IZ)I"⟩, 18) := ⟨⟨by decide +kernel, by decide +kernel⟩, List.mem_of_getElem? (i := 492) (by decide +kernel), List.mem_of_getElem? (i := 684) (by decide +kernel), List.mem_of_getElem? (i := 685) (by decide +kernel)⟩
theorem lw_p45 : lw_okq (⟨"WideCoreModel", "setAccumulator", "(I)V"⟩, 18) := ⟨⟨by decide +kernel, by decide +kernel⟩, List.mem_of_getElem? (i := 492) (by decide +kernel), List.mem_of_getElem? (i := 688) (by decide +kernel), List.mem_of_getElem? (i := 689) (by decide +kernel)⟩
theorem lw_p46 : lw_okq (⟨"WideCoreModel", "compare", "(IIZ)V"⟩, 18) := ⟨⟨by decide +kernel, by decide +kernel⟩, List.mem_of_getElem? (i := 492) (by decide +kernel), List.mem_of_getElem? (i := 693) (by decide +kernel), List.mem_of_getElem? (i := 694) (by decide +kernel)⟩
theorem lw_p47 : lw_okq (⟨"WideCoreModel", "change", "(I)Z"⟩, 18) := ⟨⟨by decide +kernel, by decide +kernel⟩, List.mem_of_getElem? (i := 492) (by decide +kernel), List.mem_of_getElem? (i := 697) (by decide +kernel), List.mem_of_getElem? (i := 698) (by decide +kernel)⟩
def lw_privs_3 : List (MethodName × Nat) := [(⟨"WideCoreModel", "next", "()I"⟩, 18), (⟨"WideCoreModel", "arithmetic", "(I)Z"⟩, 18), (⟨"WideCoreModel", "find", "(I)Z"⟩, 18), (⟨"WideCoreModel", "direct", "(I)V"⟩, 18), (⟨"WideCoreModel", "nextWord", "()I"⟩, 18), (⟨"WideCoreModel", "far", "(I)V"⟩, 18), (⟨"WideCoreModel", "nextLong", "()I"⟩, 18), (⟨"WideCoreModel", "accumulator", "()I"⟩, 18), (⟨"WideCoreModel", "store", "(IZ)V"⟩, 18), (⟨"WideCoreModel", "immediate", "(Z)I"⟩, 18), (⟨"WideCoreModel", "load", "(Z)I"⟩, 18), (⟨"WideCoreModel", "add", "(I)V"⟩, 18), (⟨"WideCoreModel", "result", "(IZ)I"⟩, 18), (⟨"WideCoreModel", "setAccumulator", "(I)V"⟩, 18), (⟨"WideCoreModel", "compare", "(IIZ)V"⟩, 18), (⟨"WideCoreModel", "change", "(I)Z"⟩, 18)]
theorem lw_r3 : ∀ q ∈ lw_privs_3, lw_okq q := List.forall_mem_cons.mpr ⟨lw_p32, List.forall_mem_cons.mpr ⟨lw_p33, List.forall_mem_cons.mpr ⟨lw_p34, List.forall_mem_cons.mpr ⟨lw_p35, List.forall_mem_cons.mpr ⟨lw_p36, List.forall_mem_cons.mpr ⟨lw_p37, List.forall_mem_cons.mpr ⟨lw_p38, List.forall_mem_cons.mpr ⟨lw_p39, List.forall_mem_cons.mpr ⟨lw_p40, List.forall_mem_cons.mpr ⟨lw_p41, List.forall_mem_cons.mpr ⟨lw_p42, List.forall_mem_cons.mpr ⟨lw_p43, List.forall_mem_cons.mpr ⟨lw_p44, List.forall_mem_cons.mpr ⟨lw_p45, List.forall_mem_cons.mpr ⟨lw_p46, List.forall_mem_cons.mpr ⟨lw_p47, fun _ h => absurd h List.not_mem_nil⟩⟩⟩⟩⟩⟩⟩⟩⟩⟩⟩⟩⟩⟩⟩⟩
theorem lw_p48 : lw_okq (⟨"WideCoreModel", "changeMemory", "(IZ)V"⟩, 18) := ⟨⟨by decide +kernel, by decide +kernel⟩, List.mem_of_getElem? (i := 492) (by decide +kernel), List.mem_of_getElem? (i := 701) (by decide +kernel), List.mem_of_getElem? (i := 702) (by decide +kernel)⟩
theorem lw_p49 : lw_okq (⟨"WideCoreModel", "changed", "(IIZ)I"⟩, 18) := ⟨⟨by decide +kernel, by decide +kernel⟩, List.mem_of_getElem? (i := 492) (by decide +kernel), List.mem_of_getElem? (i := 705) (by decide +kernel), List.mem_of_getElem? (i := 706) (by decide +kernel)⟩
theorem lw_p50 : lw_okq (⟨"WideCoreModel", "index", "(I)Z"⟩, 18) := ⟨⟨by decide +kernel, by decide +kernel⟩, List.mem_of_getElem? (i := 492) (by decide +kernel), List.mem_of_getElem? (i := 709) (by decide +kernel), List.mem_of_getElem? (i := 710) (by decide +kernel)⟩
theorem lw_p51 : lw_okq (⟨"WideCoreModel", "indexOperand", "(I)I"⟩, 18) := ⟨⟨by decide +kernel, by decide +kernel⟩, List.mem_of_getElem? (i := 492) (by decide +kernel), List.mem_of_getElem? (i := 713) (by decide +kernel), List.mem_of_getElem? (i := 714) (by decide +kernel)⟩
theorem lw_p52 : lw_okq (⟨"WideCoreModel", "findIndex", "(Z)V"⟩, 18) := ⟨⟨by decide +kernel, by decide +kernel⟩, List.mem_of_getElem? (i := 492) (by decide +kernel), List.mem_of_getElem? (i := 717) (by decide +kernel), List.mem_of_getElem? (i := 718) (by decide +kernel)⟩
theorem lw_p53 : lw_okq (⟨"WideCoreModel", "storeAt", "(ZIZ)V"⟩, 18) := ⟨⟨by decide +kernel, by decide +kernel⟩, List.mem_of_getElem? (i := 492) (by decide +kernel), List.mem_of_getElem? (i := 721) (by decide +kernel), List.mem_of_getElem? (i := 722) (by decide +kernel)⟩
theorem lw_p54 : lw_okq (⟨"WideCoreModel", "transfer", "(I)Z"⟩, 18) := ⟨⟨by decide +kernel, by decide +kernel⟩, List.mem_of_getElem? (i := 492) (by decide +kernel), List.mem_of_getElem? (i := 725) (by decide +kernel), List.mem_of_getElem? (i := 726) (by decide +kernel)⟩
theorem lw_p55 : lw_okq (⟨"WideCoreModel", "stack", "(I)Z"⟩, 18) := ⟨⟨by decide +kernel, by decide +kernel⟩, List.mem_of_getElem? (i := 492) (by decide +kernel), List.mem_of_getElem? (i := 729) (by decide +kernel), List.mem_of_getElem? (i := 730) (by decide +kernel)⟩
theorem lw_p56 : lw_okq (⟨"WideCoreModel", "pushOf", "(IZ)V"⟩, 18) := ⟨⟨by decide +kernel, by decide +kernel⟩, List.mem_of_getElem? (i := 492) (by decide +kernel), List.mem_of_getElem? (i := 733) (by decide +kernel), List.mem_of_getElem? (i := 734) (by decide +kernel)⟩
theorem lw_p57 : lw_okq (⟨"WideCoreModel", "pullOf", "(Z)I"⟩, 18) := ⟨⟨by decide +kernel, by decide +kernel⟩, List.mem_of_getElem? (i := 492) (by decide +kernel), List.mem_of_getElem? (i := 737) (by decide +kernel), List.mem_of_getElem? (i := 738) (by decide +kernel)⟩
theorem lw_p58 : lw_okq (⟨"WideCoreModel", "pull", "()I"⟩, 18) := ⟨⟨by decide +kernel, by decide +kernel⟩, List.mem_of_getElem? (i := 492) (by decide +kernel), List.mem_of_getElem? (i := 741) (by decide +kernel), List.mem_of_getElem? (i := 742) (by decide +kernel)⟩
theorem lw_p59 : lw_okq (⟨"WideCoreModel", "pullWord", "()I"⟩, 18) := ⟨⟨by decide +kernel, by decide +kernel⟩, List.mem_of_getElem? (i := 492) (by decide +kernel), List.mem_of_getElem? (i := 745) (by decide +kernel), List.mem_of_getElem? (i := 746) (by decide +kernel)⟩
theorem lw_p60 : lw_okq (⟨"WideCoreModel", "jump", "(I)Z"⟩, 18) := ⟨⟨by decide +kernel, by decide +kernel⟩, List.mem_of_getElem? (i := 492) (by decide +kernel), List.mem_of_getElem? (i := 749) (by decide +kernel), List.mem_of_getElem? (i := 750) (by decide +kernel)⟩
theorem lw_p61 : lw_okq (⟨"WideCoreModel", "branch", "(Z)V"⟩, 18) := ⟨⟨by decide +kernel, by decide +kernel⟩, List.mem_of_getElem? (i := 492) (by decide +kernel), List.mem_of_getElem? (i := 753) (by decide +kernel), List.mem_of_getElem? (i := 754) (by decide +kernel)⟩
theorem lw_p62 : lw_okq (⟨"WideCoreModel", "call", "(I)V"⟩, 18) := ⟨⟨by decide +kernel, by decide +kernel⟩, List.mem_of_getElem? (i := 492) (by decide +kernel), List.mem_of_getElem? (i := 757) (by decide +kernel), List.mem_of_getElem? (i := 758) (by decide +kernel)⟩
theorem lw_p63 : lw_okq (⟨"WideCoreModel", "longJump", "(I)Z"⟩, 18) := ⟨⟨by decide +kernel, by decide +kernel⟩, List.mem_of_getElem? (i := 492) (by decide +kernel), List.mem_of_getElem? (i := 761) (by decide +kernel), List.mem_of_getElem? (i := 762) (by decide +kernel)⟩
def lw_privs_4 : List (MethodName × Nat) := [(⟨"WideCoreModel", "changeMemory", "(IZ)V"⟩, 18), (⟨"WideCoreModel", "changed", "(IIZ)I"⟩, 18), (⟨"WideCoreModel", "index", "(I)Z"⟩, 18), (⟨"WideCoreModel", "indexOperand", "(I)I"⟩, 18), (⟨"WideCoreModel", "findIndex", "(Z)V"⟩, 18), (⟨"WideCoreModel", "storeAt", "(ZIZ)V"⟩, 18), (⟨"WideCoreModel", "transfer", "(I)Z"⟩, 18), (⟨"WideCoreModel", "stack", "(I)Z"⟩, 18), (⟨"WideCoreModel", "pushOf", "(IZ)V"⟩, 18), (⟨"WideCoreModel", "pullOf", "(Z)I"⟩, 18), (⟨"WideCoreModel", "pull", "()I"⟩, 18), (⟨"WideCoreModel", "pullWord", "()I"⟩, 18), (⟨"WideCoreModel", "jump", "(I)Z"⟩, 18), (⟨"WideCoreModel", "branch", "(Z)V"⟩, 18), (⟨"WideCoreModel", "call", "(I)V"⟩, 18), (⟨"WideCoreModel", "longJump", "(I)Z"⟩, 18)]
theorem lw_r4 : ∀ q ∈ lw_privs_4, lw_okq q := List.forall_mem_cons.mpr ⟨lw_p48, List.forall_mem_cons.mpr ⟨lw_p49, List.forall_mem_cons.mpr ⟨lw_p50, List.forall_mem_cons.mpr ⟨lw_p51, List.forall_mem_cons.mpr ⟨lw_p52, List.forall_mem_cons.mpr ⟨lw_p53, List.forall_mem_cons.mpr ⟨lw_p54, List.forall_mem_cons.mpr ⟨lw_p55, List.forall_mem_cons.mpr ⟨lw_p56, List.forall_mem_cons.mpr ⟨lw_p57, List.forall_mem_cons.mpr ⟨lw_p58, List.forall_mem_cons.mpr ⟨lw_p59, List.forall_mem_cons.mpr ⟨lw_p60, List.forall_mem_cons.mpr ⟨lw_p61, List.forall_mem_cons.mpr ⟨lw_p62, List.forall_mem_cons.mpr ⟨lw_p63, fun _ h => absurd h List.not_mem_nil⟩⟩⟩⟩⟩⟩⟩⟩⟩⟩⟩⟩⟩⟩⟩⟩
theorem lw_p64 : lw_okq (⟨"WideCoreModel", "other", "(I)Z"⟩, 18) := ⟨⟨by decide +kernel, by decide +kernel⟩, List.mem_of_getElem? (i := 492) (by decide +kernel), List.mem_of_getElem? (i := 765) (by decide +kernel), List.mem_of_getElem? (i := 766) (by decide +kernel)⟩
theorem lw_p65 : lw_okq (⟨"WideCoreModel", "moveBlock", "(I)V"⟩, 18) := ⟨⟨by decide +kernel, by decide +kernel⟩, List.mem_of_getElem? (i := 492) (by decide +kernel), List.mem_of_getElem? (i := 769) (by decide +kernel), List.mem_of_getElem? (i := 770) (by decide +kernel)⟩
def lw_privs_5 : List (MethodName × Nat) := [(⟨"WideCoreModel", "other", "(I)Z"⟩, 18), (⟨"WideCoreModel", "moveBlock", "(I)V"⟩, 18)]
theorem lw_r5 : ∀ q ∈ lw_privs_5, lw_okq q := List.forall_mem_cons.mpr ⟨lw_p64, List.forall_mem_cons.mpr ⟨lw_p65, fun _ h => absurd h List.not_mem_nil⟩⟩
def lw_privs : List (MethodName × Nat) := lw_privs_1 ++ (lw_privs_2 ++ (lw_privs_3 ++ (lw_privs_4 ++ (lw_privs_5))))
def lw_tbl : List Cond := k2_sels lw_privs ++ tables_1
theorem lw_privs_ok : ∀ q ∈ lw_privs, lw_okq q := by
  show ∀ q ∈ lw_privs_1 ++ (lw_privs_2 ++ (lw_privs_3 ++ (lw_privs_4 ++ (lw_privs_5)))), lw_okq q
  exact List.forall_mem_append.mpr ⟨lw_r1, List.forall_mem_append.mpr ⟨lw_r2, List.forall_mem_append.mpr ⟨lw_r3, List.forall_mem_append.mpr ⟨lw_r4, lw_r5⟩⟩⟩⟩
end
section
def R_Wc : String := "WideCore"
def F_Wc : u_T := fun k => match k with
  | 0 => ("WideCore", "bus", "LWideCore$Bus;", true)
  | 1 => ("WideCore", "registers", "LWideCore$Registers;", true)
  | _ => ("WideCore", "processor", "LWideCore$Processor;", true)
def t_Wc : Nat → FieldType := fun k => match k with
  | 0 => .object "WideCore$Bus"
  | 1 => .object "WideCore$Registers"
  | _ => .object "WideCore$Processor"
theorem n_Wc : ∀ a, a < 3 → ∀ b, b < 3 → a ≠ b → (F_Wc a).2.1 ≠ (F_Wc b).2.1 := by decide +kernel
theorem t_Wc_ok : ∀ k, k < 3 → parseFieldDescriptor (F_Wc k).2.2.1 = some (t_Wc k) := by decide +kernel
def R_Mdl : String := "WideCoreModel"
def F_Mdl : u_T := fun k => match k with
  | 0 => ("WideCoreModel", "memory", "[I", true)
  | 1 => ("WideCoreModel", "c", "I", false)
  | 2 => ("WideCoreModel", "x", "I", false)
  | 3 => ("WideCoreModel", "y", "I", false)
  | 4 => ("WideCoreModel", "s", "I", false)
  | 5 => ("WideCoreModel", "d", "I", false)
  | 6 => ("WideCoreModel", "db", "I", false)
  | 7 => ("WideCoreModel", "p", "I", false)
  | 8 => ("WideCoreModel", "pb", "I", false)
  | 9 => ("WideCoreModel", "pc", "I", false)
  | 10 => ("WideCoreModel", "stopped", "Z", false)
  | 11 => ("WideCoreModel", "nmi", "Z", false)
  | 12 => ("WideCoreModel", "irq", "Z", false)
  | 13 => ("WideCoreModel", "steps", "I", false)
  | 14 => ("WideCoreModel", "touches", "I", false)
  | 15 => ("WideCoreModel", "latest", "[I", true)
  | 16 => ("WideCoreModel", "place", "I", false)
  | _ => ("WideCoreModel", "near", "Z", false)
def t_Mdl : Nat → FieldType := fun k => match k with
  | 0 => .array .int
  | 1 => .int
  | 2 => .int
  | 3 => .int
  | 4 => .int
  | 5 => .int
  | 6 => .int
  | 7 => .int
  | 8 => .int
  | 9 => .int
  | 10 => .boolean
  | 11 => .boolean
  | 12 => .boolean
  | 13 => .int
  | 14 => .int
  | 15 => .array .int
  | 16 => .int
  | _ => .boolean
theorem n_Mdl : ∀ a, a < 18 → ∀ b, b < 18 → a ≠ b → (F_Mdl a).2.1 ≠ (F_Mdl b).2.1 := by decide +kernel
theorem t_Mdl_ok : ∀ k, k < 18 → parseFieldDescriptor (F_Mdl k).2.2.1 = some (t_Mdl k) := by decide +kernel
def R_Bus : String := "WideCore$Bus"
def F_Bus : u_T := fun k => match k with
  | 0 => ("WideCore$Bus", "cells", "[B", true)
  | 1 => ("WideCore$Bus", "latest", "[I", true)
  | _ => ("WideCore$Bus", "touchCount", "I", false)
def t_Bus : Nat → FieldType := fun k => match k with
  | 0 => .array .byte
  | 1 => .array .int
  | _ => .int
theorem n_Bus : ∀ a, a < 3 → ∀ b, b < 3 → a ≠ b → (F_Bus a).2.1 ≠ (F_Bus b).2.1 := by decide +kernel
theorem t_Bus_ok : ∀ k, k < 3 → parseFieldDescriptor (F_Bus k).2.2.1 = some (t_Bus k) := by decide +kernel
def R_Opd : String := "WideCore$Operands"
def F_Opd : u_T := fun k => match k with
  | 0 => ("WideCore$Operands", "bus", "LWideCore$Bus;", true)
  | _ => ("WideCore$Operands", "\x72", "LWideCore$Registers;", true)
def t_Opd : Nat → FieldType := fun k => match k with
  | 0 => .object "WideCore$Bus"
  | _ => .object "WideCore$Registers"
theorem n_Opd : ∀ a, a < 2 → ∀ b, b < 2 → a ≠ b → (F_Opd a).2.1 ≠ (F_Opd b).2.1 := by decide +kernel
theorem t_Opd_ok : ∀ k, k < 2 → parseFieldDescriptor (F_Opd k).2.2.1 = some (t_Opd k) := by decide +kernel
def R_Prc : String := "WideCore$Processor"
def F_Prc : u_T := fun k => match k with
  | 0 => ("WideCore$Processor", "bus", "LWideCore$Bus;", true)
  | 1 => ("WideCore$Processor", "\x72", "LWideCore$Registers;", true)
  | 2 => ("WideCore$Processor", "operands", "LWideCore$Operands;", true)
  | 3 => ("WideCore$Processor", "stack", "LWideCore$Stack;", true)
  | 4 => ("WideCore$Processor", "nmiCalled", "Z", false)
  | 5 => ("WideCore$Processor", "irqCalled", "Z", false)
  | 6 => ("WideCore$Processor", "halted", "Z", false)
  | _ => ("WideCore$Processor", "stepCount", "I", false)
def t_Prc : Nat → FieldType := fun k => match k with
  | 0 => .object "WideCore$Bus"
  | 1 => .object "WideCore$Registers"
  | 2 => .object "WideCore$Operands"
  | 3 => .object "WideCore$Stack"
  | 4 => .boolean
  | 5 => .boolean
  | 6 => .boolean
  | _ => .int
theorem n_Prc : ∀ a, a < 8 → ∀ b, b < 8 → a ≠ b → (F_Prc a).2.1 ≠ (F_Prc b).2.1 := by decide +kernel
theorem t_Prc_ok : ∀ k, k < 8 → parseFieldDescriptor (F_Prc k).2.2.1 = some (t_Prc k) := by decide +kernel
def R_Reg : String := "WideCore$Registers"
def F_Reg : u_T := fun k => match k with
  | 0 => ("WideCore$Registers", "c", "I", false)
  | 1 => ("WideCore$Registers", "x", "I", false)
  | 2 => ("WideCore$Registers", "y", "I", false)
  | 3 => ("WideCore$Registers", "s", "I", false)
  | 4 => ("WideCore$Registers", "d", "I", false)
  | 5 => ("WideCore$Registers", "dataBank", "I", false)
  | 6 => ("WideCore$Registers", "programBank", "I", false)
  | 7 => ("WideCore$Registers", "pc", "I", false)
  | _ => ("WideCore$Registers", "p", "I", false)
def t_Reg : Nat → FieldType := fun k => match k with
  | 0 => .int
  | 1 => .int
  | 2 => .int
  | 3 => .int
  | 4 => .int
  | 5 => .int
  | 6 => .int
  | 7 => .int
  | _ => .int
theorem n_Reg : ∀ a, a < 9 → ∀ b, b < 9 → a ≠ b → (F_Reg a).2.1 ≠ (F_Reg b).2.1 := by decide +kernel
theorem t_Reg_ok : ∀ k, k < 9 → parseFieldDescriptor (F_Reg k).2.2.1 = some (t_Reg k) := by decide +kernel
def R_Stk : String := "WideCore$Stack"
def F_Stk : u_T := fun k => match k with
  | 0 => ("WideCore$Stack", "bus", "LWideCore$Bus;", true)
  | _ => ("WideCore$Stack", "\x72", "LWideCore$Registers;", true)
def t_Stk : Nat → FieldType := fun k => match k with
  | 0 => .object "WideCore$Bus"
  | _ => .object "WideCore$Registers"
theorem n_Stk : ∀ a, a < 2 → ∀ b, b < 2 → a ≠ b → (F_Stk a).2.1 ≠ (F_Stk b).2.1 := by decide +kernel
theorem t_Stk_ok : ∀ k, k < 2 → parseFieldDescriptor (F_Stk k).2.2.1 = some (t_Stk k) := by decide +kernel
abbrev b_Wc_init : ByteArray := prog_1_method_1_code
def y_Wc_init : MethodName := ⟨R_Wc, "<init>", "()V"⟩
abbrev b_Wc_poke : ByteArray := prog_1_method_2_code
def y_Wc_poke : MethodName := ⟨R_Wc, "poke", "(III)Z"⟩
abbrev b_Wc_peek : ByteArray := prog_1_method_3_code
def y_Wc_peek : MethodName := ⟨R_Wc, "peek", "(I)I"⟩
abbrev b_Wc_start : ByteArray := prog_1_method_4_code
def y_Wc_start : MethodName := ⟨R_Wc, "start", "(II)Z"⟩
abbrev b_Wc_set : ByteArray := prog_1_method_5_code
def y_Wc_set : MethodName := ⟨R_Wc, "set", "(II)Z"⟩
abbrev b_Wc_register : ByteArray := prog_1_method_6_code
def y_Wc_register : MethodName := ⟨R_Wc, "register", "(I)I"⟩
abbrev b_Wc_run : ByteArray := prog_1_method_7_code
def y_Wc_run : MethodName := ⟨R_Wc, "run", "(I)I"⟩
abbrev b_Wc_stopped : ByteArray := prog_1_method_8_code
def y_Wc_stopped : MethodName := ⟨R_Wc, "stopped", "()Z"⟩
abbrev b_Wc_interrupt : ByteArray := prog_1_method_9_code
def y_Wc_interrupt : MethodName := ⟨R_Wc, "interrupt", "()Z"⟩
abbrev b_Wc_line : ByteArray := prog_1_method_10_code
def y_Wc_line : MethodName := ⟨R_Wc, "line", "(Z)V"⟩
abbrev b_Wc_touches : ByteArray := prog_1_method_11_code
def y_Wc_touches : MethodName := ⟨R_Wc, "touches", "()I"⟩
abbrev b_Wc_touched : ByteArray := prog_1_method_12_code
def y_Wc_touched : MethodName := ⟨R_Wc, "touched", "(I)I"⟩
abbrev b_Wc_steps : ByteArray := prog_1_method_13_code
def y_Wc_steps : MethodName := ⟨R_Wc, "steps", "()I"⟩
abbrev b_Mdl_init : ByteArray := prog_8_method_1_code
def y_Mdl_init : MethodName := ⟨R_Mdl, "<init>", "()V"⟩
abbrev b_Mdl_is : ByteArray := prog_8_method_2_code
def y_Mdl_is : MethodName := ⟨R_Mdl, "is", "(I)Z"⟩
abbrev b_Mdl_flag : ByteArray := prog_8_method_3_code
def y_Mdl_flag : MethodName := ⟨R_Mdl, "flag", "(IZ)V"⟩
abbrev b_Mdl_cell : ByteArray := prog_8_method_4_code
def y_Mdl_cell : MethodName := ⟨R_Mdl, "cell", "(I)I"⟩
abbrev b_Mdl_touch : ByteArray := prog_8_method_5_code
def y_Mdl_touch : MethodName := ⟨R_Mdl, "touch", "(I)V"⟩
abbrev b_Mdl_read : ByteArray := prog_8_method_6_code
def y_Mdl_read : MethodName := ⟨R_Mdl, "read", "(I)I"⟩
abbrev b_Mdl_write : ByteArray := prog_8_method_7_code
def y_Mdl_write : MethodName := ⟨R_Mdl, "write", "(II)V"⟩
abbrev b_Mdl_after : ByteArray := prog_8_method_8_code
def y_Mdl_after : MethodName := ⟨R_Mdl, "after", "(IZ)I"⟩
abbrev b_Mdl_readWord : ByteArray := prog_8_method_9_code
def y_Mdl_readWord : MethodName := ⟨R_Mdl, "readWord", "(IZ)I"⟩
abbrev b_Mdl_push : ByteArray := prog_8_method_10_code
def y_Mdl_push : MethodName := ⟨R_Mdl, "push", "(I)V"⟩
abbrev b_Mdl_pushWord : ByteArray := prog_8_method_11_code
def y_Mdl_pushWord : MethodName := ⟨R_Mdl, "pushWord", "(I)V"⟩
abbrev b_Mdl_pull : ByteArray := prog_8_method_12_code
def y_Mdl_pull : MethodName := ⟨R_Mdl, "pull", "()I"⟩
abbrev b_Mdl_pullWord : ByteArray := prog_8_method_13_code
def y_Mdl_pullWord : MethodName := ⟨R_Mdl, "pullWord", "()I"⟩
abbrev b_Mdl_next : ByteArray := prog_8_method_14_code
def y_Mdl_next : MethodName := ⟨R_Mdl, "next", "()I"⟩
abbrev b_Mdl_nextWord : ByteArray := prog_8_method_15_code
def y_Mdl_nextWord : MethodName := ⟨R_Mdl, "nextWord", "()I"⟩
abbrev b_Mdl_nextLong : ByteArray := prog_8_method_16_code
def y_Mdl_nextLong : MethodName := ⟨R_Mdl, "nextLong", "()I"⟩
abbrev b_Mdl_accumulator : ByteArray := prog_8_method_17_code
def y_Mdl_accumulator : MethodName := ⟨R_Mdl, "accumulator", "()I"⟩
abbrev b_Mdl_setAccumulator : ByteArray := prog_8_method_18_code
def y_Mdl_setAccumulator : MethodName := ⟨R_Mdl, "setAccumulator", "(I)V"⟩
abbrev b_Mdl_cut : ByteArray := prog_8_method_19_code
def y_Mdl_cut : MethodName := ⟨R_Mdl, "cut", "(IZ)I"⟩
abbrev b_Mdl_result : ByteArray := prog_8_method_20_code
def y_Mdl_result : MethodName := ⟨R_Mdl, "result", "(IZ)I"⟩
abbrev b_Mdl_setFlags : ByteArray := prog_8_method_21_code
def y_Mdl_setFlags : MethodName := ⟨R_Mdl, "setFlags", "(I)V"⟩
abbrev b_Mdl_direct : ByteArray := prog_8_method_22_code
def y_Mdl_direct : MethodName := ⟨R_Mdl, "direct", "(I)V"⟩
abbrev b_Mdl_far : ByteArray := prog_8_method_23_code
def y_Mdl_far : MethodName := ⟨R_Mdl, "far", "(I)V"⟩
abbrev b_Mdl_find : ByteArray := prog_8_method_24_code
def y_Mdl_find : MethodName := ⟨R_Mdl, "find", "(I)Z"⟩
abbrev b_Mdl_load : ByteArray := prog_8_method_25_code
def y_Mdl_load : MethodName := ⟨R_Mdl, "load", "(Z)I"⟩
abbrev b_Mdl_store : ByteArray := prog_8_method_26_code
def y_Mdl_store : MethodName := ⟨R_Mdl, "store", "(IZ)V"⟩
abbrev b_Mdl_immediate : ByteArray := prog_8_method_27_code
def y_Mdl_immediate : MethodName := ⟨R_Mdl, "immediate", "(Z)I"⟩
abbrev b_Mdl_add : ByteArray := prog_8_method_28_code
def y_Mdl_add : MethodName := ⟨R_Mdl, "add", "(I)V"⟩
abbrev b_Mdl_compare : ByteArray := prog_8_method_29_code
def y_Mdl_compare : MethodName := ⟨R_Mdl, "compare", "(IIZ)V"⟩
abbrev b_Mdl_arithmetic : ByteArray := prog_8_method_30_code
def y_Mdl_arithmetic : MethodName := ⟨R_Mdl, "arithmetic", "(I)Z"⟩
abbrev b_Mdl_changed : ByteArray := prog_8_method_31_code
def y_Mdl_changed : MethodName := ⟨R_Mdl, "changed", "(IIZ)I"⟩
abbrev b_Mdl_changeMemory : ByteArray := prog_8_method_32_code
def y_Mdl_changeMemory : MethodName := ⟨R_Mdl, "changeMemory", "(IZ)V"⟩
abbrev b_Mdl_change : ByteArray := prog_8_method_33_code
def y_Mdl_change : MethodName := ⟨R_Mdl, "change", "(I)Z"⟩
abbrev b_Mdl_findIndex : ByteArray := prog_8_method_34_code
def y_Mdl_findIndex : MethodName := ⟨R_Mdl, "findIndex", "(Z)V"⟩
abbrev b_Mdl_indexOperand : ByteArray := prog_8_method_35_code
def y_Mdl_indexOperand : MethodName := ⟨R_Mdl, "indexOperand", "(I)I"⟩
abbrev b_Mdl_storeAt : ByteArray := prog_8_method_36_code
def y_Mdl_storeAt : MethodName := ⟨R_Mdl, "storeAt", "(ZIZ)V"⟩
abbrev b_Mdl_index : ByteArray := prog_8_method_37_code
def y_Mdl_index : MethodName := ⟨R_Mdl, "index", "(I)Z"⟩
abbrev b_Mdl_transfer : ByteArray := prog_8_method_38_code
def y_Mdl_transfer : MethodName := ⟨R_Mdl, "transfer", "(I)Z"⟩
abbrev b_Mdl_pushOf : ByteArray := prog_8_method_39_code
def y_Mdl_pushOf : MethodName := ⟨R_Mdl, "pushOf", "(IZ)V"⟩
abbrev b_Mdl_pullOf : ByteArray := prog_8_method_40_code
def y_Mdl_pullOf : MethodName := ⟨R_Mdl, "pullOf", "(Z)I"⟩
abbrev b_Mdl_stack : ByteArray := prog_8_method_41_code
def y_Mdl_stack : MethodName := ⟨R_Mdl, "stack", "(I)Z"⟩
abbrev b_Mdl_branch : ByteArray := prog_8_method_42_code
def y_Mdl_branch : MethodName := ⟨R_Mdl, "branch", "(Z)V"⟩
abbrev b_Mdl_call : ByteArray := prog_8_method_43_code
def y_Mdl_call : MethodName := ⟨R_Mdl, "call", "(I)V"⟩
abbrev b_Mdl_jump : ByteArray := prog_8_method_44_code
def y_Mdl_jump : MethodName := ⟨R_Mdl, "jump", "(I)Z"⟩
abbrev b_Mdl_longJump : ByteArray := prog_8_method_45_code
def y_Mdl_longJump : MethodName := ⟨R_Mdl, "longJump", "(I)Z"⟩
abbrev b_Mdl_moveBlock : ByteArray := prog_8_method_46_code
def y_Mdl_moveBlock : MethodName := ⟨R_Mdl, "moveBlock", "(I)V"⟩
abbrev b_Mdl_other : ByteArray := prog_8_method_47_code
def y_Mdl_other : MethodName := ⟨R_Mdl, "other", "(I)Z"⟩
abbrev b_Mdl_interruptFrom : ByteArray := prog_8_method_48_code
def y_Mdl_interruptFrom : MethodName := ⟨R_Mdl, "interruptFrom", "(I)V"⟩
abbrev b_Mdl_step : ByteArray := prog_8_method_49_code
def y_Mdl_step : MethodName := ⟨R_Mdl, "step", "()V"⟩
abbrev b_Mdl_poke : ByteArray := prog_8_method_50_code
def y_Mdl_poke : MethodName := ⟨R_Mdl, "poke", "(III)Z"⟩
abbrev b_Mdl_peek : ByteArray := prog_8_method_51_code
def y_Mdl_peek : MethodName := ⟨R_Mdl, "peek", "(I)I"⟩
abbrev b_Mdl_start : ByteArray := prog_8_method_52_code
def y_Mdl_start : MethodName := ⟨R_Mdl, "start", "(II)Z"⟩
abbrev b_Mdl_set : ByteArray := prog_8_method_53_code
def y_Mdl_set : MethodName := ⟨R_Mdl, "set", "(II)Z"⟩
abbrev b_Mdl_register : ByteArray := prog_8_method_54_code
def y_Mdl_register : MethodName := ⟨R_Mdl, "register", "(I)I"⟩
abbrev b_Mdl_run : ByteArray := prog_8_method_55_code
def y_Mdl_run : MethodName := ⟨R_Mdl, "run", "(I)I"⟩
abbrev b_Mdl_stopped : ByteArray := prog_8_method_56_code
def y_Mdl_stopped : MethodName := ⟨R_Mdl, "stopped", "()Z"⟩
abbrev b_Mdl_interrupt : ByteArray := prog_8_method_57_code
def y_Mdl_interrupt : MethodName := ⟨R_Mdl, "interrupt", "()Z"⟩
abbrev b_Mdl_line : ByteArray := prog_8_method_58_code
def y_Mdl_line : MethodName := ⟨R_Mdl, "line", "(Z)V"⟩
abbrev b_Mdl_touches : ByteArray := prog_8_method_59_code
def y_Mdl_touches : MethodName := ⟨R_Mdl, "touches", "()I"⟩
abbrev b_Mdl_touched : ByteArray := prog_8_method_60_code
def y_Mdl_touched : MethodName := ⟨R_Mdl, "touched", "(I)I"⟩
abbrev b_Mdl_steps : ByteArray := prog_8_method_61_code
def y_Mdl_steps : MethodName := ⟨R_Mdl, "steps", "()I"⟩
abbrev b_Bus_init : ByteArray := prog_2_method_1_code
def y_Bus_init : MethodName := ⟨R_Bus, "<init>", "()V"⟩
abbrev b_Bus_longPlace : ByteArray := prog_2_method_2_code
def y_Bus_longPlace : MethodName := ⟨R_Bus, "longPlace", "(I)I"⟩
abbrev b_Bus_bank0Place : ByteArray := prog_2_method_3_code
def y_Bus_bank0Place : MethodName := ⟨R_Bus, "bank0Place", "(I)I"⟩
abbrev b_Bus_placeAfter : ByteArray := prog_2_method_4_code
def y_Bus_placeAfter : MethodName := ⟨R_Bus, "placeAfter", "(I)I"⟩
abbrev b_Bus_cellOf : ByteArray := prog_2_method_5_code
def y_Bus_cellOf : MethodName := ⟨R_Bus, "cellOf", "(I)I"⟩
abbrev b_Bus_programByte : ByteArray := prog_2_method_6_code
def y_Bus_programByte : MethodName := ⟨R_Bus, "programByte", "(II)I"⟩
abbrev b_Bus_readByte : ByteArray := prog_2_method_7_code
def y_Bus_readByte : MethodName := ⟨R_Bus, "readByte", "(I)I"⟩
abbrev b_Bus_writeByte : ByteArray := prog_2_method_8_code
def y_Bus_writeByte : MethodName := ⟨R_Bus, "writeByte", "(II)V"⟩
abbrev b_Bus_readWord : ByteArray := prog_2_method_9_code
def y_Bus_readWord : MethodName := ⟨R_Bus, "readWord", "(I)I"⟩
abbrev b_Bus_readLong : ByteArray := prog_2_method_10_code
def y_Bus_readLong : MethodName := ⟨R_Bus, "readLong", "(I)I"⟩
abbrev b_Bus_readValue : ByteArray := prog_2_method_11_code
def y_Bus_readValue : MethodName := ⟨R_Bus, "readValue", "(IZ)I"⟩
abbrev b_Bus_writeValue : ByteArray := prog_2_method_12_code
def y_Bus_writeValue : MethodName := ⟨R_Bus, "writeValue", "(IIZ)V"⟩
abbrev b_Bus_latestTouch : ByteArray := prog_2_method_13_code
def y_Bus_latestTouch : MethodName := ⟨R_Bus, "latestTouch", "(I)I"⟩
abbrev b_Opd_init : ByteArray := prog_3_method_1_code
def y_Opd_init : MethodName := ⟨R_Opd, "<init>", "(LWideCore$Bus;LWideCore$Registers;)V"⟩
abbrev b_Opd_isMode : ByteArray := prog_3_method_2_code
def y_Opd_isMode : MethodName := ⟨R_Opd, "isMode", "(I)Z"⟩
abbrev b_Opd_nextByte : ByteArray := prog_3_method_3_code
def y_Opd_nextByte : MethodName := ⟨R_Opd, "nextByte", "()I"⟩
abbrev b_Opd_nextWord : ByteArray := prog_3_method_4_code
def y_Opd_nextWord : MethodName := ⟨R_Opd, "nextWord", "()I"⟩
abbrev b_Opd_nextLong : ByteArray := prog_3_method_5_code
def y_Opd_nextLong : MethodName := ⟨R_Opd, "nextLong", "()I"⟩
abbrev b_Opd_nextValue : ByteArray := prog_3_method_6_code
def y_Opd_nextValue : MethodName := ⟨R_Opd, "nextValue", "(Z)I"⟩
abbrev b_Opd_place : ByteArray := prog_3_method_7_code
def y_Opd_place : MethodName := ⟨R_Opd, "place", "(I)I"⟩
abbrev b_Opd_direct : ByteArray := prog_3_method_8_code
def y_Opd_direct : MethodName := ⟨R_Opd, "direct", "(I)I"⟩
abbrev b_Opd_onStack : ByteArray := prog_3_method_9_code
def y_Opd_onStack : MethodName := ⟨R_Opd, "onStack", "()I"⟩
abbrev b_Opd_inDataBank : ByteArray := prog_3_method_10_code
def y_Opd_inDataBank : MethodName := ⟨R_Opd, "inDataBank", "(II)I"⟩
abbrev b_Prc_init : ByteArray := prog_4_method_1_code
def y_Prc_init : MethodName := ⟨R_Prc, "<init>", "(LWideCore$Bus;LWideCore$Registers;)V"⟩
abbrev b_Prc_makeStep : ByteArray := prog_4_method_2_code
def y_Prc_makeStep : MethodName := ⟨R_Prc, "makeStep", "()V"⟩
abbrev b_Prc_enterInterrupt : ByteArray := prog_4_method_3_code
def y_Prc_enterInterrupt : MethodName := ⟨R_Prc, "enterInterrupt", "(I)V"⟩
abbrev b_Prc_useAccumulator : ByteArray := prog_4_method_4_code
def y_Prc_useAccumulator : MethodName := ⟨R_Prc, "useAccumulator", "(I)Z"⟩
abbrev b_Prc_addToA : ByteArray := prog_4_method_5_code
def y_Prc_addToA : MethodName := ⟨R_Prc, "addToA", "(I)V"⟩
abbrev b_Prc_compare : ByteArray := prog_4_method_6_code
def y_Prc_compare : MethodName := ⟨R_Prc, "compare", "(IIZ)V"⟩
abbrev b_Prc_useIndex : ByteArray := prog_4_method_7_code
def y_Prc_useIndex : MethodName := ⟨R_Prc, "useIndex", "(I)Z"⟩
abbrev b_Prc_storeZero : ByteArray := prog_4_method_8_code
def y_Prc_storeZero : MethodName := ⟨R_Prc, "storeZero", "(I)Z"⟩
abbrev b_Prc_changeMemory : ByteArray := prog_4_method_9_code
def y_Prc_changeMemory : MethodName := ⟨R_Prc, "changeMemory", "(I)Z"⟩
abbrev b_Prc_changeRegister : ByteArray := prog_4_method_10_code
def y_Prc_changeRegister : MethodName := ⟨R_Prc, "changeRegister", "(I)Z"⟩
abbrev b_Prc_changed : ByteArray := prog_4_method_11_code
def y_Prc_changed : MethodName := ⟨R_Prc, "changed", "(IIZ)I"⟩
abbrev b_Prc_transfer : ByteArray := prog_4_method_12_code
def y_Prc_transfer : MethodName := ⟨R_Prc, "transfer", "(I)Z"⟩
abbrev b_Prc_push : ByteArray := prog_4_method_13_code
def y_Prc_push : MethodName := ⟨R_Prc, "push", "(I)Z"⟩
abbrev b_Prc_pull : ByteArray := prog_4_method_14_code
def y_Prc_pull : MethodName := ⟨R_Prc, "pull", "(I)Z"⟩
abbrev b_Prc_branch : ByteArray := prog_4_method_15_code
def y_Prc_branch : MethodName := ⟨R_Prc, "branch", "(I)Z"⟩
abbrev b_Prc_jump : ByteArray := prog_4_method_16_code
def y_Prc_jump : MethodName := ⟨R_Prc, "jump", "(I)Z"⟩
abbrev b_Prc_changeFlags : ByteArray := prog_4_method_17_code
def y_Prc_changeFlags : MethodName := ⟨R_Prc, "changeFlags", "(I)Z"⟩
abbrev b_Prc_moveBlock : ByteArray := prog_4_method_18_code
def y_Prc_moveBlock : MethodName := ⟨R_Prc, "moveBlock", "(I)Z"⟩
abbrev b_Reg_init : ByteArray := prog_5_method_1_code
def y_Reg_init : MethodName := ⟨R_Reg, "<init>", "()V"⟩
abbrev b_Reg_maskOf : ByteArray := prog_5_method_2_code
def y_Reg_maskOf : MethodName := ⟨R_Reg, "maskOf", "(Z)I"⟩
abbrev b_Reg_signOf : ByteArray := prog_5_method_3_code
def y_Reg_signOf : MethodName := ⟨R_Reg, "signOf", "(Z)I"⟩
abbrev b_Reg_has : ByteArray := prog_5_method_4_code
def y_Reg_has : MethodName := ⟨R_Reg, "has", "(I)Z"⟩
abbrev b_Reg_putFlag : ByteArray := prog_5_method_5_code
def y_Reg_putFlag : MethodName := ⟨R_Reg, "putFlag", "(IZ)V"⟩
abbrev b_Reg_wideA : ByteArray := prog_5_method_6_code
def y_Reg_wideA : MethodName := ⟨R_Reg, "wideA", "()Z"⟩
abbrev b_Reg_wideIndex : ByteArray := prog_5_method_7_code
def y_Reg_wideIndex : MethodName := ⟨R_Reg, "wideIndex", "()Z"⟩
abbrev b_Reg_indexMask : ByteArray := prog_5_method_8_code
def y_Reg_indexMask : MethodName := ⟨R_Reg, "indexMask", "()I"⟩
abbrev b_Reg_a : ByteArray := prog_5_method_9_code
def y_Reg_a : MethodName := ⟨R_Reg, "a", "()I"⟩
abbrev b_Reg_replaceP : ByteArray := prog_5_method_10_code
def y_Reg_replaceP : MethodName := ⟨R_Reg, "replaceP", "(I)V"⟩
abbrev b_Reg_showResult : ByteArray := prog_5_method_11_code
def y_Reg_showResult : MethodName := ⟨R_Reg, "showResult", "(IZ)V"⟩
abbrev b_Reg_loadA : ByteArray := prog_5_method_12_code
def y_Reg_loadA : MethodName := ⟨R_Reg, "loadA", "(I)V"⟩
abbrev b_Reg_loadX : ByteArray := prog_5_method_13_code
def y_Reg_loadX : MethodName := ⟨R_Reg, "loadX", "(I)V"⟩
abbrev b_Reg_loadY : ByteArray := prog_5_method_14_code
def y_Reg_loadY : MethodName := ⟨R_Reg, "loadY", "(I)V"⟩
abbrev b_Reg_loadC : ByteArray := prog_5_method_15_code
def y_Reg_loadC : MethodName := ⟨R_Reg, "loadC", "(I)V"⟩
abbrev b_Reg_loadD : ByteArray := prog_5_method_16_code
def y_Reg_loadD : MethodName := ⟨R_Reg, "loadD", "(I)V"⟩
abbrev b_Reg_loadDataBank : ByteArray := prog_5_method_17_code
def y_Reg_loadDataBank : MethodName := ⟨R_Reg, "loadDataBank", "(I)V"⟩
abbrev b_Reg_jumpTo : ByteArray := prog_5_method_18_code
def y_Reg_jumpTo : MethodName := ⟨R_Reg, "jumpTo", "(I)V"⟩
abbrev b_Reg_jumpLong : ByteArray := prog_5_method_19_code
def y_Reg_jumpLong : MethodName := ⟨R_Reg, "jumpLong", "(I)V"⟩
abbrev b_Stk_init : ByteArray := prog_6_method_1_code
def y_Stk_init : MethodName := ⟨R_Stk, "<init>", "(LWideCore$Bus;LWideCore$Registers;)V"⟩
abbrev b_Stk_pushByte : ByteArray := prog_6_method_2_code
def y_Stk_pushByte : MethodName := ⟨R_Stk, "pushByte", "(I)V"⟩
abbrev b_Stk_pushWord : ByteArray := prog_6_method_3_code
def y_Stk_pushWord : MethodName := ⟨R_Stk, "pushWord", "(I)V"⟩
abbrev b_Stk_pushValue : ByteArray := prog_6_method_4_code
def y_Stk_pushValue : MethodName := ⟨R_Stk, "pushValue", "(IZ)V"⟩
abbrev b_Stk_pullByte : ByteArray := prog_6_method_5_code
def y_Stk_pullByte : MethodName := ⟨R_Stk, "pullByte", "()I"⟩
abbrev b_Stk_pullWord : ByteArray := prog_6_method_6_code
def y_Stk_pullWord : MethodName := ⟨R_Stk, "pullWord", "()I"⟩
abbrev b_Stk_pullValue : ByteArray := prog_6_method_7_code
def y_Stk_pullValue : MethodName := ⟨R_Stk, "pullValue", "(Z)I"⟩
def WS : List Cond := lw_tbl.filter goodWord
theorem WS_good {x : Cond} (h : x ∈ WS) : goodWord x = true := (List.mem_filter.mp h).2
theorem WS_at (k : Nat) {x : Cond} (h : lw_tbl[k]? = some x) (hg : goodWord x = true) : x ∈ WS := List.mem_filter.mpr ⟨List.mem_of_getElem? h, hg⟩
abbrev classes : List vw_C := [(R_Wc, F_Wc, 3), (R_Bus, F_Bus, 3), (R_Reg, F_Reg, 9), (R_Prc, F_Prc, 8), (R_Opd, F_Opd, 2), (R_Stk, F_Stk, 2), (R_Mdl, F_Mdl, 18)]
end
section
set_option maxRecDepth 100000 in
theorem q_0 : Cond.selects R_Prc y_Prc_enterInterrupt y_Prc_enterInterrupt ∈ WS := WS_at 0 rfl rfl
set_option maxRecDepth 100000 in
theorem q_1 : Cond.selects R_Prc y_Prc_useAccumulator y_Prc_useAccumulator ∈ WS := WS_at 1 rfl rfl
set_option maxRecDepth 100000 in
theorem q_2 : Cond.selects R_Opd y_Opd_direct y_Opd_direct ∈ WS := WS_at 2 rfl rfl
set_option maxRecDepth 100000 in
theorem q_3 : Cond.selects R_Opd y_Opd_inDataBank y_Opd_inDataBank ∈ WS := WS_at 3 rfl rfl
set_option maxRecDepth 100000 in
theorem q_4 : Cond.selects R_Opd y_Opd_onStack y_Opd_onStack ∈ WS := WS_at 4 rfl rfl
set_option maxRecDepth 100000 in
theorem q_5 : Cond.selects R_Prc y_Prc_addToA y_Prc_addToA ∈ WS := WS_at 5 rfl rfl
set_option maxRecDepth 100000 in
theorem q_6 : Cond.selects R_Prc y_Prc_compare y_Prc_compare ∈ WS := WS_at 6 rfl rfl
set_option maxRecDepth 100000 in
theorem q_7 : Cond.selects R_Prc y_Prc_useIndex y_Prc_useIndex ∈ WS := WS_at 7 rfl rfl
set_option maxRecDepth 100000 in
theorem q_8 : Cond.selects R_Prc y_Prc_storeZero y_Prc_storeZero ∈ WS := WS_at 8 rfl rfl
set_option maxRecDepth 100000 in
theorem q_9 : Cond.selects R_Prc y_Prc_changeMemory y_Prc_changeMemory ∈ WS := WS_at 9 rfl rfl
set_option maxRecDepth 100000 in
theorem q_10 : Cond.selects R_Prc y_Prc_changed y_Prc_changed ∈ WS := WS_at 10 rfl rfl
set_option maxRecDepth 100000 in
theorem q_11 : Cond.selects R_Prc y_Prc_changeRegister y_Prc_changeRegister ∈ WS := WS_at 11 rfl rfl
set_option maxRecDepth 100000 in
theorem q_12 : Cond.selects R_Prc y_Prc_transfer y_Prc_transfer ∈ WS := WS_at 12 rfl rfl
set_option maxRecDepth 100000 in
theorem q_13 : Cond.selects R_Prc y_Prc_push y_Prc_push ∈ WS := WS_at 13 rfl rfl
set_option maxRecDepth 100000 in
theorem q_14 : Cond.selects R_Prc y_Prc_pull y_Prc_pull ∈ WS := WS_at 14 rfl rfl
set_option maxRecDepth 100000 in
theorem q_15 : Cond.selects R_Prc y_Prc_branch y_Prc_branch ∈ WS := WS_at 15 rfl rfl
set_option maxRecDepth 100000 in
theorem q_16 : Cond.selects R_Prc y_Prc_jump y_Prc_jump ∈ WS := WS_at 16 rfl rfl
set_option maxRecDepth 100000 in
theorem q_17 : Cond.selects R_Prc y_Prc_changeFlags y_Prc_changeFlags ∈ WS := WS_at 17 rfl rfl
set_option maxRecDepth 100000 in
theorem q_18 : Cond.selects R_Prc y_Prc_moveBlock y_Prc_moveBlock ∈ WS := WS_at 18 rfl rfl
set_option maxRecDepth 100000 in
theorem q_19 : Cond.selects R_Mdl y_Mdl_is y_Mdl_is ∈ WS := WS_at 19 rfl rfl
set_option maxRecDepth 100000 in
theorem q_20 : Cond.selects R_Mdl y_Mdl_cut y_Mdl_cut ∈ WS := WS_at 20 rfl rfl
set_option maxRecDepth 100000 in
theorem q_21 : Cond.selects R_Mdl y_Mdl_setFlags y_Mdl_setFlags ∈ WS := WS_at 21 rfl rfl
set_option maxRecDepth 100000 in
theorem q_22 : Cond.selects R_Mdl y_Mdl_step y_Mdl_step ∈ WS := WS_at 22 rfl rfl
set_option maxRecDepth 100000 in
theorem q_23 : Cond.selects R_Mdl y_Mdl_interruptFrom y_Mdl_interruptFrom ∈ WS := WS_at 23 rfl rfl
set_option maxRecDepth 100000 in
theorem q_24 : Cond.selects R_Mdl y_Mdl_push y_Mdl_push ∈ WS := WS_at 24 rfl rfl
set_option maxRecDepth 100000 in
theorem q_25 : Cond.selects R_Mdl y_Mdl_write y_Mdl_write ∈ WS := WS_at 25 rfl rfl
set_option maxRecDepth 100000 in
theorem q_26 : Cond.selects R_Mdl y_Mdl_touch y_Mdl_touch ∈ WS := WS_at 26 rfl rfl
set_option maxRecDepth 100000 in
theorem q_27 : Cond.selects R_Mdl y_Mdl_pushWord y_Mdl_pushWord ∈ WS := WS_at 27 rfl rfl
set_option maxRecDepth 100000 in
theorem q_28 : Cond.selects R_Mdl y_Mdl_flag y_Mdl_flag ∈ WS := WS_at 28 rfl rfl
set_option maxRecDepth 100000 in
theorem q_29 : Cond.selects R_Mdl y_Mdl_readWord y_Mdl_readWord ∈ WS := WS_at 29 rfl rfl
set_option maxRecDepth 100000 in
theorem q_30 : Cond.selects R_Mdl y_Mdl_read y_Mdl_read ∈ WS := WS_at 30 rfl rfl
set_option maxRecDepth 100000 in
theorem q_31 : Cond.selects R_Mdl y_Mdl_after y_Mdl_after ∈ WS := WS_at 31 rfl rfl
set_option maxRecDepth 100000 in
theorem q_32 : Cond.selects R_Mdl y_Mdl_next y_Mdl_next ∈ WS := WS_at 32 rfl rfl
set_option maxRecDepth 100000 in
theorem q_33 : Cond.selects R_Mdl y_Mdl_arithmetic y_Mdl_arithmetic ∈ WS := WS_at 33 rfl rfl
set_option maxRecDepth 100000 in
theorem q_34 : Cond.selects R_Mdl y_Mdl_find y_Mdl_find ∈ WS := WS_at 34 rfl rfl
set_option maxRecDepth 100000 in
theorem q_35 : Cond.selects R_Mdl y_Mdl_direct y_Mdl_direct ∈ WS := WS_at 35 rfl rfl
set_option maxRecDepth 100000 in
theorem q_36 : Cond.selects R_Mdl y_Mdl_nextWord y_Mdl_nextWord ∈ WS := WS_at 36 rfl rfl
set_option maxRecDepth 100000 in
theorem q_37 : Cond.selects R_Mdl y_Mdl_far y_Mdl_far ∈ WS := WS_at 37 rfl rfl
set_option maxRecDepth 100000 in
theorem q_38 : Cond.selects R_Mdl y_Mdl_nextLong y_Mdl_nextLong ∈ WS := WS_at 38 rfl rfl
set_option maxRecDepth 100000 in
theorem q_39 : Cond.selects R_Mdl y_Mdl_accumulator y_Mdl_accumulator ∈ WS := WS_at 39 rfl rfl
set_option maxRecDepth 100000 in
theorem q_40 : Cond.selects R_Mdl y_Mdl_store y_Mdl_store ∈ WS := WS_at 40 rfl rfl
set_option maxRecDepth 100000 in
theorem q_41 : Cond.selects R_Mdl y_Mdl_immediate y_Mdl_immediate ∈ WS := WS_at 41 rfl rfl
set_option maxRecDepth 100000 in
theorem q_42 : Cond.selects R_Mdl y_Mdl_load y_Mdl_load ∈ WS := WS_at 42 rfl rfl
set_option maxRecDepth 100000 in
theorem q_43 : Cond.selects R_Mdl y_Mdl_add y_Mdl_add ∈ WS := WS_at 43 rfl rfl
set_option maxRecDepth 100000 in
theorem q_44 : Cond.selects R_Mdl y_Mdl_result y_Mdl_result ∈ WS := WS_at 44 rfl rfl
set_option maxRecDepth 100000 in
theorem q_45 : Cond.selects R_Mdl y_Mdl_setAccumulator y_Mdl_setAccumulator ∈ WS := WS_at 45 rfl rfl
set_option maxRecDepth 100000 in
theorem q_46 : Cond.selects R_Mdl y_Mdl_compare y_Mdl_compare ∈ WS := WS_at 46 rfl rfl
set_option maxRecDepth 100000 in
theorem q_47 : Cond.selects R_Mdl y_Mdl_change y_Mdl_change ∈ WS := WS_at 47 rfl rfl
set_option maxRecDepth 100000 in
theorem q_48 : Cond.selects R_Mdl y_Mdl_changeMemory y_Mdl_changeMemory ∈ WS := WS_at 48 rfl rfl
set_option maxRecDepth 100000 in
theorem q_49 : Cond.selects R_Mdl y_Mdl_changed y_Mdl_changed ∈ WS := WS_at 49 rfl rfl
set_option maxRecDepth 100000 in
theorem q_50 : Cond.selects R_Mdl y_Mdl_index y_Mdl_index ∈ WS := WS_at 50 rfl rfl
set_option maxRecDepth 100000 in
theorem q_51 : Cond.selects R_Mdl y_Mdl_indexOperand y_Mdl_indexOperand ∈ WS := WS_at 51 rfl rfl
set_option maxRecDepth 100000 in
theorem q_52 : Cond.selects R_Mdl y_Mdl_findIndex y_Mdl_findIndex ∈ WS := WS_at 52 rfl rfl
set_option maxRecDepth 100000 in
theorem q_53 : Cond.selects R_Mdl y_Mdl_storeAt y_Mdl_storeAt ∈ WS := WS_at 53 rfl rfl
set_option maxRecDepth 100000 in
theorem q_54 : Cond.selects R_Mdl y_Mdl_transfer y_Mdl_transfer ∈ WS := WS_at 54 rfl rfl
set_option maxRecDepth 100000 in
theorem q_55 : Cond.selects R_Mdl y_Mdl_stack y_Mdl_stack ∈ WS := WS_at 55 rfl rfl
set_option maxRecDepth 100000 in
theorem q_56 : Cond.selects R_Mdl y_Mdl_pushOf y_Mdl_pushOf ∈ WS := WS_at 56 rfl rfl
set_option maxRecDepth 100000 in
theorem q_57 : Cond.selects R_Mdl y_Mdl_pullOf y_Mdl_pullOf ∈ WS := WS_at 57 rfl rfl
set_option maxRecDepth 100000 in
theorem q_58 : Cond.selects R_Mdl y_Mdl_pull y_Mdl_pull ∈ WS := WS_at 58 rfl rfl
set_option maxRecDepth 100000 in
theorem q_59 : Cond.selects R_Mdl y_Mdl_pullWord y_Mdl_pullWord ∈ WS := WS_at 59 rfl rfl
set_option maxRecDepth 100000 in
theorem q_60 : Cond.selects R_Mdl y_Mdl_jump y_Mdl_jump ∈ WS := WS_at 60 rfl rfl
set_option maxRecDepth 100000 in
theorem q_61 : Cond.selects R_Mdl y_Mdl_branch y_Mdl_branch ∈ WS := WS_at 61 rfl rfl
set_option maxRecDepth 100000 in
theorem q_62 : Cond.selects R_Mdl y_Mdl_call y_Mdl_call ∈ WS := WS_at 62 rfl rfl
set_option maxRecDepth 100000 in
theorem q_63 : Cond.selects R_Mdl y_Mdl_longJump y_Mdl_longJump ∈ WS := WS_at 63 rfl rfl
set_option maxRecDepth 100000 in
theorem q_64 : Cond.selects R_Mdl y_Mdl_other y_Mdl_other ∈ WS := WS_at 64 rfl rfl
set_option maxRecDepth 100000 in
theorem q_65 : Cond.selects R_Mdl y_Mdl_moveBlock y_Mdl_moveBlock ∈ WS := WS_at 65 rfl rfl
set_option maxRecDepth 100000 in
theorem q_67 : Cond.initialized R_Wc ∈ WS := WS_at 67 rfl rfl
set_option maxRecDepth 100000 in
theorem q_68 : Cond.initialized R_Bus ∈ WS := WS_at 68 rfl rfl
set_option maxRecDepth 100000 in
theorem q_69 : Cond.initialized R_Reg ∈ WS := WS_at 69 rfl rfl
set_option maxRecDepth 100000 in
theorem q_70 : Cond.initialized R_Prc ∈ WS := WS_at 70 rfl rfl
set_option maxRecDepth 100000 in
theorem q_71 : Cond.initialized R_Opd ∈ WS := WS_at 71 rfl rfl
set_option maxRecDepth 100000 in
theorem q_72 : Cond.initialized R_Stk ∈ WS := WS_at 72 rfl rfl
set_option maxRecDepth 100000 in
theorem q_73 : Cond.initialized R_Mdl ∈ WS := WS_at 73 rfl rfl
set_option maxRecDepth 100000 in
theorem q_79 : Cond.methodLink R_Wc 1 objectInit ∈ WS := WS_at 79 rfl rfl
set_option maxRecDepth 100000 in
theorem q_80 : Cond.instanceMethod objectInit ∈ WS := WS_at 80 rfl rfl
set_option maxRecDepth 100000 in
theorem q_81 : Cond.code objectInit ⟨#[0xb1]⟩ 1 none ∈ WS := WS_at 81 rfl rfl
set_option maxRecDepth 100000 in
theorem q_82 : Cond.classLink R_Wc 7 R_Bus ∈ WS := WS_at 82 rfl rfl
set_option maxRecDepth 100000 in
theorem q_83 : Cond.instantiable R_Bus 3 ∈ WS := WS_at 83 rfl rfl
set_option maxRecDepth 100000 in
theorem q_85 : Cond.instanceMethod y_Bus_init ∈ WS := WS_at 85 rfl rfl
set_option maxRecDepth 100000 in
theorem q_86 : Cond.code y_Bus_init b_Bus_init 1 none ∈ WS := WS_at 86 rfl rfl
set_option maxRecDepth 100000 in
theorem q_87 : Cond.methodLink R_Bus 1 objectInit ∈ WS := WS_at 87 rfl rfl
set_option maxRecDepth 100000 in
theorem q_88 : Cond.fieldLink R_Bus 9 "WideCore$Bus" "cells" "[B" ∈ WS := WS_at 88 rfl rfl
set_option maxRecDepth 100000 in
theorem q_89 : Cond.fieldLink R_Wc 32 "WideCore$Bus" "cells" "[B" ∈ WS := WS_at 89 rfl rfl
set_option maxRecDepth 100000 in
theorem q_90 : Cond.fieldLink R_Bus 13 "WideCore$Bus" "latest" "[I" ∈ WS := WS_at 90 rfl rfl
set_option maxRecDepth 100000 in
theorem q_91 : Cond.fieldLink R_Bus 30 "WideCore$Bus" "touchCount" "I" ∈ WS := WS_at 91 rfl rfl
set_option maxRecDepth 100000 in
theorem q_92 : Cond.fieldLink R_Wc 86 "WideCore$Bus" "touchCount" "I" ∈ WS := WS_at 92 rfl rfl
set_option maxRecDepth 100000 in
theorem q_93 : Cond.laysFinal R_Bus R_Bus "cells" "[B" ∈ WS := WS_at 93 rfl rfl
set_option maxRecDepth 100000 in
theorem q_95 : Cond.laysFinal R_Bus R_Bus "latest" "[I" ∈ WS := WS_at 95 rfl rfl
set_option maxRecDepth 100000 in
theorem q_97 : Cond.lays R_Bus R_Bus "touchCount" "I" ∈ WS := WS_at 97 rfl rfl
set_option maxRecDepth 100000 in
theorem q_100 : Cond.arrayClass .byte ∈ WS := WS_at 100 rfl rfl
set_option maxRecDepth 100000 in
theorem q_101 : Cond.arrayClass .int ∈ WS := WS_at 101 rfl rfl
set_option maxRecDepth 100000 in
theorem q_102 : Cond.classLink R_Wc 16 R_Reg ∈ WS := WS_at 102 rfl rfl
set_option maxRecDepth 100000 in
theorem q_103 : Cond.instantiable R_Reg 9 ∈ WS := WS_at 103 rfl rfl
set_option maxRecDepth 100000 in
theorem q_105 : Cond.instanceMethod y_Reg_init ∈ WS := WS_at 105 rfl rfl
set_option maxRecDepth 100000 in
theorem q_106 : Cond.code y_Reg_init b_Reg_init 1 none ∈ WS := WS_at 106 rfl rfl
set_option maxRecDepth 100000 in
theorem q_107 : Cond.methodLink R_Reg 1 objectInit ∈ WS := WS_at 107 rfl rfl
set_option maxRecDepth 100000 in
theorem q_108 : Cond.fieldLink R_Prc 135 "WideCore$Registers" "c" "I" ∈ WS := WS_at 108 rfl rfl
set_option maxRecDepth 100000 in
theorem q_109 : Cond.fieldLink R_Wc 48 "WideCore$Registers" "c" "I" ∈ WS := WS_at 109 rfl rfl
set_option maxRecDepth 100000 in
theorem q_110 : Cond.fieldLink R_Reg 26 "WideCore$Registers" "c" "I" ∈ WS := WS_at 110 rfl rfl
set_option maxRecDepth 100000 in
theorem q_111 : Cond.fieldLink R_Wc 55 "WideCore$Registers" "x" "I" ∈ WS := WS_at 111 rfl rfl
set_option maxRecDepth 100000 in
theorem q_112 : Cond.fieldLink R_Opd 44 "WideCore$Registers" "x" "I" ∈ WS := WS_at 112 rfl rfl
set_option maxRecDepth 100000 in
theorem q_113 : Cond.fieldLink R_Prc 180 "WideCore$Registers" "x" "I" ∈ WS := WS_at 113 rfl rfl
set_option maxRecDepth 100000 in
theorem q_114 : Cond.fieldLink R_Reg 32 "WideCore$Registers" "x" "I" ∈ WS := WS_at 114 rfl rfl
set_option maxRecDepth 100000 in
theorem q_115 : Cond.fieldLink R_Wc 58 "WideCore$Registers" "y" "I" ∈ WS := WS_at 115 rfl rfl
set_option maxRecDepth 100000 in
theorem q_116 : Cond.fieldLink R_Opd 50 "WideCore$Registers" "y" "I" ∈ WS := WS_at 116 rfl rfl
set_option maxRecDepth 100000 in
theorem q_117 : Cond.fieldLink R_Prc 183 "WideCore$Registers" "y" "I" ∈ WS := WS_at 117 rfl rfl
set_option maxRecDepth 100000 in
theorem q_118 : Cond.fieldLink R_Reg 39 "WideCore$Registers" "y" "I" ∈ WS := WS_at 118 rfl rfl
set_option maxRecDepth 100000 in
theorem q_119 : Cond.fieldLink R_Reg 7 "WideCore$Registers" "s" "I" ∈ WS := WS_at 119 rfl rfl
set_option maxRecDepth 100000 in
theorem q_120 : Cond.fieldLink R_Stk 17 "WideCore$Registers" "s" "I" ∈ WS := WS_at 120 rfl rfl
set_option maxRecDepth 100000 in
theorem q_121 : Cond.fieldLink R_Wc 61 "WideCore$Registers" "s" "I" ∈ WS := WS_at 121 rfl rfl
set_option maxRecDepth 100000 in
theorem q_122 : Cond.fieldLink R_Opd 74 "WideCore$Registers" "s" "I" ∈ WS := WS_at 122 rfl rfl
set_option maxRecDepth 100000 in
theorem q_123 : Cond.fieldLink R_Prc 190 "WideCore$Registers" "s" "I" ∈ WS := WS_at 123 rfl rfl
set_option maxRecDepth 100000 in
theorem q_124 : Cond.fieldLink R_Wc 64 "WideCore$Registers" "d" "I" ∈ WS := WS_at 124 rfl rfl
set_option maxRecDepth 100000 in
theorem q_125 : Cond.fieldLink R_Opd 68 "WideCore$Registers" "d" "I" ∈ WS := WS_at 125 rfl rfl
set_option maxRecDepth 100000 in
theorem q_126 : Cond.fieldLink R_Prc 196 "WideCore$Registers" "d" "I" ∈ WS := WS_at 126 rfl rfl
set_option maxRecDepth 100000 in
theorem q_127 : Cond.fieldLink R_Reg 49 "WideCore$Registers" "d" "I" ∈ WS := WS_at 127 rfl rfl
set_option maxRecDepth 100000 in
theorem q_128 : Cond.fieldLink R_Wc 67 "WideCore$Registers" "dataBank" "I" ∈ WS := WS_at 128 rfl rfl
set_option maxRecDepth 100000 in
theorem q_129 : Cond.fieldLink R_Opd 77 "WideCore$Registers" "dataBank" "I" ∈ WS := WS_at 129 rfl rfl
set_option maxRecDepth 100000 in
theorem q_130 : Cond.fieldLink R_Prc 205 "WideCore$Registers" "dataBank" "I" ∈ WS := WS_at 130 rfl rfl
set_option maxRecDepth 100000 in
theorem q_131 : Cond.fieldLink R_Reg 52 "WideCore$Registers" "dataBank" "I" ∈ WS := WS_at 131 rfl rfl
set_option maxRecDepth 100000 in
theorem q_132 : Cond.fieldLink R_Prc 97 "WideCore$Registers" "programBank" "I" ∈ WS := WS_at 132 rfl rfl
set_option maxRecDepth 100000 in
theorem q_133 : Cond.fieldLink R_Opd 17 "WideCore$Registers" "programBank" "I" ∈ WS := WS_at 133 rfl rfl
set_option maxRecDepth 100000 in
theorem q_134 : Cond.fieldLink R_Wc 37 "WideCore$Registers" "programBank" "I" ∈ WS := WS_at 134 rfl rfl
set_option maxRecDepth 100000 in
theorem q_135 : Cond.fieldLink R_Reg 58 "WideCore$Registers" "programBank" "I" ∈ WS := WS_at 135 rfl rfl
set_option maxRecDepth 100000 in
theorem q_136 : Cond.fieldLink R_Opd 23 "WideCore$Registers" "pc" "I" ∈ WS := WS_at 136 rfl rfl
set_option maxRecDepth 100000 in
theorem q_137 : Cond.fieldLink R_Prc 103 "WideCore$Registers" "pc" "I" ∈ WS := WS_at 137 rfl rfl
set_option maxRecDepth 100000 in
theorem q_138 : Cond.fieldLink R_Wc 41 "WideCore$Registers" "pc" "I" ∈ WS := WS_at 138 rfl rfl
set_option maxRecDepth 100000 in
theorem q_139 : Cond.fieldLink R_Reg 55 "WideCore$Registers" "pc" "I" ∈ WS := WS_at 139 rfl rfl
set_option maxRecDepth 100000 in
theorem q_140 : Cond.fieldLink R_Reg 13 "WideCore$Registers" "p" "I" ∈ WS := WS_at 140 rfl rfl
set_option maxRecDepth 100000 in
theorem q_141 : Cond.fieldLink R_Prc 109 "WideCore$Registers" "p" "I" ∈ WS := WS_at 141 rfl rfl
set_option maxRecDepth 100000 in
theorem q_142 : Cond.fieldLink R_Wc 74 "WideCore$Registers" "p" "I" ∈ WS := WS_at 142 rfl rfl
set_option maxRecDepth 100000 in
theorem q_143 : Cond.lays R_Reg R_Reg "c" "I" ∈ WS := WS_at 143 rfl rfl
set_option maxRecDepth 100000 in
theorem q_145 : Cond.lays R_Reg R_Reg "x" "I" ∈ WS := WS_at 145 rfl rfl
set_option maxRecDepth 100000 in
theorem q_147 : Cond.lays R_Reg R_Reg "y" "I" ∈ WS := WS_at 147 rfl rfl
set_option maxRecDepth 100000 in
theorem q_149 : Cond.lays R_Reg R_Reg "s" "I" ∈ WS := WS_at 149 rfl rfl
set_option maxRecDepth 100000 in
theorem q_151 : Cond.lays R_Reg R_Reg "d" "I" ∈ WS := WS_at 151 rfl rfl
set_option maxRecDepth 100000 in
theorem q_153 : Cond.lays R_Reg R_Reg "dataBank" "I" ∈ WS := WS_at 153 rfl rfl
set_option maxRecDepth 100000 in
theorem q_155 : Cond.lays R_Reg R_Reg "programBank" "I" ∈ WS := WS_at 155 rfl rfl
set_option maxRecDepth 100000 in
theorem q_157 : Cond.lays R_Reg R_Reg "pc" "I" ∈ WS := WS_at 157 rfl rfl
set_option maxRecDepth 100000 in
theorem q_159 : Cond.lays R_Reg R_Reg "p" "I" ∈ WS := WS_at 159 rfl rfl
set_option maxRecDepth 100000 in
theorem q_162 : Cond.classLink R_Wc 23 R_Prc ∈ WS := WS_at 162 rfl rfl
set_option maxRecDepth 100000 in
theorem q_163 : Cond.instantiable R_Prc 8 ∈ WS := WS_at 163 rfl rfl
set_option maxRecDepth 100000 in
theorem q_164 : Cond.methodLink R_Wc 25 y_Prc_init ∈ WS := WS_at 164 rfl rfl
set_option maxRecDepth 100000 in
theorem q_165 : Cond.instanceMethod y_Prc_init ∈ WS := WS_at 165 rfl rfl
set_option maxRecDepth 100000 in
theorem q_166 : Cond.code y_Prc_init b_Prc_init 3 none ∈ WS := WS_at 166 rfl rfl
set_option maxRecDepth 100000 in
theorem q_167 : Cond.methodLink R_Prc 1 objectInit ∈ WS := WS_at 167 rfl rfl
set_option maxRecDepth 100000 in
theorem q_168 : Cond.classLink R_Prc 17 R_Opd ∈ WS := WS_at 168 rfl rfl
set_option maxRecDepth 100000 in
theorem q_169 : Cond.instantiable R_Opd 2 ∈ WS := WS_at 169 rfl rfl
set_option maxRecDepth 100000 in
theorem q_170 : Cond.methodLink R_Prc 19 y_Opd_init ∈ WS := WS_at 170 rfl rfl
set_option maxRecDepth 100000 in
theorem q_171 : Cond.instanceMethod y_Opd_init ∈ WS := WS_at 171 rfl rfl
set_option maxRecDepth 100000 in
theorem q_172 : Cond.code y_Opd_init b_Opd_init 3 none ∈ WS := WS_at 172 rfl rfl
set_option maxRecDepth 100000 in
theorem q_173 : Cond.methodLink R_Opd 1 objectInit ∈ WS := WS_at 173 rfl rfl
set_option maxRecDepth 100000 in
theorem q_174 : Cond.fieldLink R_Opd 7 "WideCore$Operands" "bus" "LWideCore$Bus;" ∈ WS := WS_at 174 rfl rfl
set_option maxRecDepth 100000 in
theorem q_175 : Cond.fieldLink R_Opd 13 "WideCore$Operands" "\x72" "LWideCore$Registers;" ∈ WS := WS_at 175 rfl rfl
set_option maxRecDepth 100000 in
theorem q_176 : Cond.laysFinal R_Opd R_Opd "bus" "LWideCore$Bus;" ∈ WS := WS_at 176 rfl rfl
set_option maxRecDepth 100000 in
theorem q_178 : Cond.laysFinal R_Opd R_Opd "\x72" "LWideCore$Registers;" ∈ WS := WS_at 178 rfl rfl
set_option maxRecDepth 100000 in
theorem q_181 : Cond.classLink R_Prc 26 R_Stk ∈ WS := WS_at 181 rfl rfl
set_option maxRecDepth 100000 in
theorem q_182 : Cond.instantiable R_Stk 2 ∈ WS := WS_at 182 rfl rfl
set_option maxRecDepth 100000 in
theorem q_183 : Cond.methodLink R_Prc 28 y_Stk_init ∈ WS := WS_at 183 rfl rfl
set_option maxRecDepth 100000 in
theorem q_184 : Cond.instanceMethod y_Stk_init ∈ WS := WS_at 184 rfl rfl
set_option maxRecDepth 100000 in
theorem q_185 : Cond.code y_Stk_init b_Stk_init 3 none ∈ WS := WS_at 185 rfl rfl
set_option maxRecDepth 100000 in
theorem q_186 : Cond.methodLink R_Stk 1 objectInit ∈ WS := WS_at 186 rfl rfl
set_option maxRecDepth 100000 in
theorem q_187 : Cond.fieldLink R_Stk 7 "WideCore$Stack" "bus" "LWideCore$Bus;" ∈ WS := WS_at 187 rfl rfl
set_option maxRecDepth 100000 in
theorem q_188 : Cond.fieldLink R_Stk 13 "WideCore$Stack" "\x72" "LWideCore$Registers;" ∈ WS := WS_at 188 rfl rfl
set_option maxRecDepth 100000 in
theorem q_189 : Cond.laysFinal R_Stk R_Stk "bus" "LWideCore$Bus;" ∈ WS := WS_at 189 rfl rfl
set_option maxRecDepth 100000 in
theorem q_191 : Cond.laysFinal R_Stk R_Stk "\x72" "LWideCore$Registers;" ∈ WS := WS_at 191 rfl rfl
set_option maxRecDepth 100000 in
theorem q_194 : Cond.fieldLink R_Prc 7 "WideCore$Processor" "bus" "LWideCore$Bus;" ∈ WS := WS_at 194 rfl rfl
set_option maxRecDepth 100000 in
theorem q_195 : Cond.fieldLink R_Prc 13 "WideCore$Processor" "\x72" "LWideCore$Registers;" ∈ WS := WS_at 195 rfl rfl
set_option maxRecDepth 100000 in
theorem q_196 : Cond.fieldLink R_Prc 22 "WideCore$Processor" "operands" "LWideCore$Operands;" ∈ WS := WS_at 196 rfl rfl
set_option maxRecDepth 100000 in
theorem q_197 : Cond.fieldLink R_Prc 29 "WideCore$Processor" "stack" "LWideCore$Stack;" ∈ WS := WS_at 197 rfl rfl
set_option maxRecDepth 100000 in
theorem q_198 : Cond.fieldLink R_Prc 37 "WideCore$Processor" "nmiCalled" "Z" ∈ WS := WS_at 198 rfl rfl
set_option maxRecDepth 100000 in
theorem q_199 : Cond.fieldLink R_Wc 80 "WideCore$Processor" "nmiCalled" "Z" ∈ WS := WS_at 199 rfl rfl
set_option maxRecDepth 100000 in
theorem q_200 : Cond.fieldLink R_Prc 45 "WideCore$Processor" "irqCalled" "Z" ∈ WS := WS_at 200 rfl rfl
set_option maxRecDepth 100000 in
theorem q_201 : Cond.fieldLink R_Wc 83 "WideCore$Processor" "irqCalled" "Z" ∈ WS := WS_at 201 rfl rfl
set_option maxRecDepth 100000 in
theorem q_202 : Cond.fieldLink R_Prc 94 "WideCore$Processor" "halted" "Z" ∈ WS := WS_at 202 rfl rfl
set_option maxRecDepth 100000 in
theorem q_203 : Cond.fieldLink R_Wc 44 "WideCore$Processor" "halted" "Z" ∈ WS := WS_at 203 rfl rfl
set_option maxRecDepth 100000 in
theorem q_204 : Cond.fieldLink R_Prc 33 "WideCore$Processor" "stepCount" "I" ∈ WS := WS_at 204 rfl rfl
set_option maxRecDepth 100000 in
theorem q_205 : Cond.fieldLink R_Wc 93 "WideCore$Processor" "stepCount" "I" ∈ WS := WS_at 205 rfl rfl
set_option maxRecDepth 100000 in
theorem q_206 : Cond.laysFinal R_Prc R_Prc "bus" "LWideCore$Bus;" ∈ WS := WS_at 206 rfl rfl
set_option maxRecDepth 100000 in
theorem q_208 : Cond.laysFinal R_Prc R_Prc "\x72" "LWideCore$Registers;" ∈ WS := WS_at 208 rfl rfl
set_option maxRecDepth 100000 in
theorem q_210 : Cond.laysFinal R_Prc R_Prc "operands" "LWideCore$Operands;" ∈ WS := WS_at 210 rfl rfl
set_option maxRecDepth 100000 in
theorem q_212 : Cond.laysFinal R_Prc R_Prc "stack" "LWideCore$Stack;" ∈ WS := WS_at 212 rfl rfl
set_option maxRecDepth 100000 in
theorem q_214 : Cond.lays R_Prc R_Prc "nmiCalled" "Z" ∈ WS := WS_at 214 rfl rfl
set_option maxRecDepth 100000 in
theorem q_216 : Cond.lays R_Prc R_Prc "irqCalled" "Z" ∈ WS := WS_at 216 rfl rfl
set_option maxRecDepth 100000 in
theorem q_218 : Cond.lays R_Prc R_Prc "halted" "Z" ∈ WS := WS_at 218 rfl rfl
set_option maxRecDepth 100000 in
theorem q_220 : Cond.lays R_Prc R_Prc "stepCount" "I" ∈ WS := WS_at 220 rfl rfl
set_option maxRecDepth 100000 in
theorem q_223 : Cond.fieldLink R_Wc 10 "WideCore" "bus" "LWideCore$Bus;" ∈ WS := WS_at 223 rfl rfl
set_option maxRecDepth 100000 in
theorem q_224 : Cond.fieldLink R_Wc 19 "WideCore" "registers" "LWideCore$Registers;" ∈ WS := WS_at 224 rfl rfl
set_option maxRecDepth 100000 in
theorem q_225 : Cond.fieldLink R_Wc 28 "WideCore" "processor" "LWideCore$Processor;" ∈ WS := WS_at 225 rfl rfl
set_option maxRecDepth 100000 in
theorem q_226 : Cond.laysFinal R_Wc R_Wc "bus" "LWideCore$Bus;" ∈ WS := WS_at 226 rfl rfl
set_option maxRecDepth 100000 in
theorem q_228 : Cond.laysFinal R_Wc R_Wc "registers" "LWideCore$Registers;" ∈ WS := WS_at 228 rfl rfl
set_option maxRecDepth 100000 in
theorem q_230 : Cond.laysFinal R_Wc R_Wc "processor" "LWideCore$Processor;" ∈ WS := WS_at 230 rfl rfl
set_option maxRecDepth 100000 in
theorem q_234 : Cond.instanceMethod y_Wc_poke ∈ WS := WS_at 234 rfl rfl
set_option maxRecDepth 100000 in
theorem q_235 : Cond.selects R_Wc y_Wc_poke y_Wc_poke ∈ WS := WS_at 235 rfl rfl
set_option maxRecDepth 100000 in
theorem q_236 : Cond.code y_Wc_poke b_Wc_poke 5 (some .boolean) ∈ WS := WS_at 236 rfl rfl
set_option maxRecDepth 100000 in
theorem q_238 : Cond.instanceMethod y_Wc_peek ∈ WS := WS_at 238 rfl rfl
set_option maxRecDepth 100000 in
theorem q_239 : Cond.selects R_Wc y_Wc_peek y_Wc_peek ∈ WS := WS_at 239 rfl rfl
set_option maxRecDepth 100000 in
theorem q_240 : Cond.code y_Wc_peek b_Wc_peek 2 (some .int) ∈ WS := WS_at 240 rfl rfl
set_option maxRecDepth 100000 in
theorem q_242 : Cond.instanceMethod y_Wc_start ∈ WS := WS_at 242 rfl rfl
set_option maxRecDepth 100000 in
theorem q_243 : Cond.selects R_Wc y_Wc_start y_Wc_start ∈ WS := WS_at 243 rfl rfl
set_option maxRecDepth 100000 in
theorem q_244 : Cond.code y_Wc_start b_Wc_start 3 (some .boolean) ∈ WS := WS_at 244 rfl rfl
set_option maxRecDepth 100000 in
theorem q_245 : Cond.constant R_Wc 36 65535 ∈ WS := WS_at 245 rfl rfl
set_option maxRecDepth 100000 in
theorem q_247 : Cond.instanceMethod y_Wc_set ∈ WS := WS_at 247 rfl rfl
set_option maxRecDepth 100000 in
theorem q_248 : Cond.selects R_Wc y_Wc_set y_Wc_set ∈ WS := WS_at 248 rfl rfl
set_option maxRecDepth 100000 in
theorem q_249 : Cond.code y_Wc_set b_Wc_set 3 (some .boolean) ∈ WS := WS_at 249 rfl rfl
set_option maxRecDepth 100000 in
theorem q_250 : Cond.methodLink R_Wc 51 y_Reg_indexMask ∈ WS := WS_at 250 rfl rfl
set_option maxRecDepth 100000 in
theorem q_251 : Cond.instanceMethod y_Reg_indexMask ∈ WS := WS_at 251 rfl rfl
set_option maxRecDepth 100000 in
theorem q_252 : Cond.selects R_Reg y_Reg_indexMask y_Reg_indexMask ∈ WS := WS_at 252 rfl rfl
set_option maxRecDepth 100000 in
theorem q_253 : Cond.code y_Reg_indexMask b_Reg_indexMask 1 (some .int) ∈ WS := WS_at 253 rfl rfl
set_option maxRecDepth 100000 in
theorem q_254 : Cond.methodLink R_Reg 18 y_Reg_wideIndex ∈ WS := WS_at 254 rfl rfl
set_option maxRecDepth 100000 in
theorem q_255 : Cond.instanceMethod y_Reg_wideIndex ∈ WS := WS_at 255 rfl rfl
set_option maxRecDepth 100000 in
theorem q_256 : Cond.selects R_Reg y_Reg_wideIndex y_Reg_wideIndex ∈ WS := WS_at 256 rfl rfl
set_option maxRecDepth 100000 in
theorem q_257 : Cond.code y_Reg_wideIndex b_Reg_wideIndex 1 (some .boolean) ∈ WS := WS_at 257 rfl rfl
set_option maxRecDepth 100000 in
theorem q_258 : Cond.methodLink R_Reg 22 y_Reg_maskOf ∈ WS := WS_at 258 rfl rfl
set_option maxRecDepth 100000 in
theorem q_259 : Cond.static y_Reg_maskOf ∈ WS := WS_at 259 rfl rfl
set_option maxRecDepth 100000 in
theorem q_260 : Cond.code y_Reg_maskOf b_Reg_maskOf 1 (some .int) ∈ WS := WS_at 260 rfl rfl
set_option maxRecDepth 100000 in
theorem q_261 : Cond.constant R_Reg 16 65535 ∈ WS := WS_at 261 rfl rfl
set_option maxRecDepth 100000 in
theorem q_262 : Cond.methodLink R_Wc 70 y_Reg_replaceP ∈ WS := WS_at 262 rfl rfl
set_option maxRecDepth 100000 in
theorem q_263 : Cond.instanceMethod y_Reg_replaceP ∈ WS := WS_at 263 rfl rfl
set_option maxRecDepth 100000 in
theorem q_264 : Cond.selects R_Reg y_Reg_replaceP y_Reg_replaceP ∈ WS := WS_at 264 rfl rfl
set_option maxRecDepth 100000 in
theorem q_265 : Cond.code y_Reg_replaceP b_Reg_replaceP 2 none ∈ WS := WS_at 265 rfl rfl
set_option maxRecDepth 100000 in
theorem q_266 : Cond.methodLink R_Reg 35 y_Reg_indexMask ∈ WS := WS_at 266 rfl rfl
set_option maxRecDepth 100000 in
theorem q_268 : Cond.instanceMethod y_Wc_register ∈ WS := WS_at 268 rfl rfl
set_option maxRecDepth 100000 in
theorem q_269 : Cond.selects R_Wc y_Wc_register y_Wc_register ∈ WS := WS_at 269 rfl rfl
set_option maxRecDepth 100000 in
theorem q_270 : Cond.code y_Wc_register b_Wc_register 2 (some .int) ∈ WS := WS_at 270 rfl rfl
set_option maxRecDepth 100000 in
theorem q_276 : Cond.instanceMethod y_Prc_makeStep ∈ WS := WS_at 276 rfl rfl
set_option maxRecDepth 100000 in
theorem q_277 : Cond.selects R_Prc y_Prc_makeStep y_Prc_makeStep ∈ WS := WS_at 277 rfl rfl
set_option maxRecDepth 100000 in
theorem q_278 : Cond.code y_Prc_makeStep b_Prc_makeStep 3 none ∈ WS := WS_at 278 rfl rfl
set_option maxRecDepth 100000 in
theorem q_279 : Cond.methodLink R_Prc 41 y_Prc_enterInterrupt ∈ WS := WS_at 279 rfl rfl
set_option maxRecDepth 100000 in
theorem q_281 : Cond.instanceMethod y_Prc_enterInterrupt ∈ WS := WS_at 281 rfl rfl
set_option maxRecDepth 100000 in
theorem q_282 : Cond.code y_Prc_enterInterrupt b_Prc_enterInterrupt 2 none ∈ WS := WS_at 282 rfl rfl
set_option maxRecDepth 100000 in
theorem q_283 : Cond.methodLink R_Prc 100 y_Stk_pushByte ∈ WS := WS_at 283 rfl rfl
set_option maxRecDepth 100000 in
theorem q_284 : Cond.instanceMethod y_Stk_pushByte ∈ WS := WS_at 284 rfl rfl
set_option maxRecDepth 100000 in
theorem q_285 : Cond.selects R_Stk y_Stk_pushByte y_Stk_pushByte ∈ WS := WS_at 285 rfl rfl
set_option maxRecDepth 100000 in
theorem q_286 : Cond.code y_Stk_pushByte b_Stk_pushByte 2 none ∈ WS := WS_at 286 rfl rfl
set_option maxRecDepth 100000 in
theorem q_287 : Cond.methodLink R_Stk 23 y_Bus_bank0Place ∈ WS := WS_at 287 rfl rfl
set_option maxRecDepth 100000 in
theorem q_288 : Cond.static y_Bus_bank0Place ∈ WS := WS_at 288 rfl rfl
set_option maxRecDepth 100000 in
theorem q_289 : Cond.code y_Bus_bank0Place b_Bus_bank0Place 1 (some .int) ∈ WS := WS_at 289 rfl rfl
set_option maxRecDepth 100000 in
theorem q_290 : Cond.constant R_Bus 18 16777216 ∈ WS := WS_at 290 rfl rfl
set_option maxRecDepth 100000 in
theorem q_291 : Cond.constant R_Bus 19 65535 ∈ WS := WS_at 291 rfl rfl
set_option maxRecDepth 100000 in
theorem q_292 : Cond.methodLink R_Stk 29 y_Bus_writeByte ∈ WS := WS_at 292 rfl rfl
set_option maxRecDepth 100000 in
theorem q_293 : Cond.instanceMethod y_Bus_writeByte ∈ WS := WS_at 293 rfl rfl
set_option maxRecDepth 100000 in
theorem q_294 : Cond.selects R_Bus y_Bus_writeByte y_Bus_writeByte ∈ WS := WS_at 294 rfl rfl
set_option maxRecDepth 100000 in
theorem q_295 : Cond.code y_Bus_writeByte b_Bus_writeByte 4 none ∈ WS := WS_at 295 rfl rfl
set_option maxRecDepth 100000 in
theorem q_296 : Cond.methodLink R_Bus 27 y_Bus_cellOf ∈ WS := WS_at 296 rfl rfl
set_option maxRecDepth 100000 in
theorem q_297 : Cond.static y_Bus_cellOf ∈ WS := WS_at 297 rfl rfl
set_option maxRecDepth 100000 in
theorem q_298 : Cond.code y_Bus_cellOf b_Bus_cellOf 1 (some .int) ∈ WS := WS_at 298 rfl rfl
set_option maxRecDepth 100000 in
theorem q_299 : Cond.constant R_Stk 33 65535 ∈ WS := WS_at 299 rfl rfl
set_option maxRecDepth 100000 in
theorem q_300 : Cond.methodLink R_Prc 106 y_Stk_pushWord ∈ WS := WS_at 300 rfl rfl
set_option maxRecDepth 100000 in
theorem q_301 : Cond.instanceMethod y_Stk_pushWord ∈ WS := WS_at 301 rfl rfl
set_option maxRecDepth 100000 in
theorem q_302 : Cond.selects R_Stk y_Stk_pushWord y_Stk_pushWord ∈ WS := WS_at 302 rfl rfl
set_option maxRecDepth 100000 in
theorem q_303 : Cond.code y_Stk_pushWord b_Stk_pushWord 2 none ∈ WS := WS_at 303 rfl rfl
set_option maxRecDepth 100000 in
theorem q_304 : Cond.methodLink R_Stk 34 y_Stk_pushByte ∈ WS := WS_at 304 rfl rfl
set_option maxRecDepth 100000 in
theorem q_305 : Cond.methodLink R_Prc 112 y_Reg_putFlag ∈ WS := WS_at 305 rfl rfl
set_option maxRecDepth 100000 in
theorem q_306 : Cond.instanceMethod y_Reg_putFlag ∈ WS := WS_at 306 rfl rfl
set_option maxRecDepth 100000 in
theorem q_307 : Cond.selects R_Reg y_Reg_putFlag y_Reg_putFlag ∈ WS := WS_at 307 rfl rfl
set_option maxRecDepth 100000 in
theorem q_308 : Cond.code y_Reg_putFlag b_Reg_putFlag 3 none ∈ WS := WS_at 308 rfl rfl
set_option maxRecDepth 100000 in
theorem q_309 : Cond.methodLink R_Prc 116 y_Bus_bank0Place ∈ WS := WS_at 309 rfl rfl
set_option maxRecDepth 100000 in
theorem q_310 : Cond.methodLink R_Prc 122 y_Bus_readWord ∈ WS := WS_at 310 rfl rfl
set_option maxRecDepth 100000 in
theorem q_311 : Cond.instanceMethod y_Bus_readWord ∈ WS := WS_at 311 rfl rfl
set_option maxRecDepth 100000 in
theorem q_312 : Cond.selects R_Bus y_Bus_readWord y_Bus_readWord ∈ WS := WS_at 312 rfl rfl
set_option maxRecDepth 100000 in
theorem q_313 : Cond.code y_Bus_readWord b_Bus_readWord 3 (some .int) ∈ WS := WS_at 313 rfl rfl
set_option maxRecDepth 100000 in
theorem q_314 : Cond.methodLink R_Bus 34 y_Bus_readByte ∈ WS := WS_at 314 rfl rfl
set_option maxRecDepth 100000 in
theorem q_315 : Cond.instanceMethod y_Bus_readByte ∈ WS := WS_at 315 rfl rfl
set_option maxRecDepth 100000 in
theorem q_316 : Cond.selects R_Bus y_Bus_readByte y_Bus_readByte ∈ WS := WS_at 316 rfl rfl
set_option maxRecDepth 100000 in
theorem q_317 : Cond.code y_Bus_readByte b_Bus_readByte 3 (some .int) ∈ WS := WS_at 317 rfl rfl
set_option maxRecDepth 100000 in
theorem q_318 : Cond.methodLink R_Bus 37 y_Bus_placeAfter ∈ WS := WS_at 318 rfl rfl
set_option maxRecDepth 100000 in
theorem q_319 : Cond.static y_Bus_placeAfter ∈ WS := WS_at 319 rfl rfl
set_option maxRecDepth 100000 in
theorem q_320 : Cond.code y_Bus_placeAfter b_Bus_placeAfter 1 (some .int) ∈ WS := WS_at 320 rfl rfl
set_option maxRecDepth 100000 in
theorem q_321 : Cond.methodLink R_Bus 20 y_Bus_bank0Place ∈ WS := WS_at 321 rfl rfl
set_option maxRecDepth 100000 in
theorem q_322 : Cond.methodLink R_Bus 24 y_Bus_longPlace ∈ WS := WS_at 322 rfl rfl
set_option maxRecDepth 100000 in
theorem q_323 : Cond.static y_Bus_longPlace ∈ WS := WS_at 323 rfl rfl
set_option maxRecDepth 100000 in
theorem q_324 : Cond.code y_Bus_longPlace b_Bus_longPlace 1 (some .int) ∈ WS := WS_at 324 rfl rfl
set_option maxRecDepth 100000 in
theorem q_325 : Cond.constant R_Bus 17 16777215 ∈ WS := WS_at 325 rfl rfl
set_option maxRecDepth 100000 in
theorem q_326 : Cond.methodLink R_Prc 50 y_Reg_has ∈ WS := WS_at 326 rfl rfl
set_option maxRecDepth 100000 in
theorem q_327 : Cond.instanceMethod y_Reg_has ∈ WS := WS_at 327 rfl rfl
set_option maxRecDepth 100000 in
theorem q_328 : Cond.selects R_Reg y_Reg_has y_Reg_has ∈ WS := WS_at 328 rfl rfl
set_option maxRecDepth 100000 in
theorem q_329 : Cond.code y_Reg_has b_Reg_has 2 (some .boolean) ∈ WS := WS_at 329 rfl rfl
set_option maxRecDepth 100000 in
theorem q_330 : Cond.methodLink R_Prc 54 y_Opd_nextByte ∈ WS := WS_at 330 rfl rfl
set_option maxRecDepth 100000 in
theorem q_331 : Cond.instanceMethod y_Opd_nextByte ∈ WS := WS_at 331 rfl rfl
set_option maxRecDepth 100000 in
theorem q_332 : Cond.selects R_Opd y_Opd_nextByte y_Opd_nextByte ∈ WS := WS_at 332 rfl rfl
set_option maxRecDepth 100000 in
theorem q_333 : Cond.code y_Opd_nextByte b_Opd_nextByte 2 (some .int) ∈ WS := WS_at 333 rfl rfl
set_option maxRecDepth 100000 in
theorem q_334 : Cond.methodLink R_Opd 26 y_Bus_programByte ∈ WS := WS_at 334 rfl rfl
set_option maxRecDepth 100000 in
theorem q_335 : Cond.instanceMethod y_Bus_programByte ∈ WS := WS_at 335 rfl rfl
set_option maxRecDepth 100000 in
theorem q_336 : Cond.selects R_Bus y_Bus_programByte y_Bus_programByte ∈ WS := WS_at 336 rfl rfl
set_option maxRecDepth 100000 in
theorem q_337 : Cond.code y_Bus_programByte b_Bus_programByte 3 (some .int) ∈ WS := WS_at 337 rfl rfl
set_option maxRecDepth 100000 in
theorem q_338 : Cond.constant R_Opd 32 65535 ∈ WS := WS_at 338 rfl rfl
set_option maxRecDepth 100000 in
theorem q_339 : Cond.methodLink R_Prc 58 y_Prc_useAccumulator ∈ WS := WS_at 339 rfl rfl
set_option maxRecDepth 100000 in
theorem q_341 : Cond.instanceMethod y_Prc_useAccumulator ∈ WS := WS_at 341 rfl rfl
set_option maxRecDepth 100000 in
theorem q_342 : Cond.code y_Prc_useAccumulator b_Prc_useAccumulator 6 (some .boolean) ∈ WS := WS_at 342 rfl rfl
set_option maxRecDepth 100000 in
theorem q_343 : Cond.methodLink R_Prc 125 y_Opd_isMode ∈ WS := WS_at 343 rfl rfl
set_option maxRecDepth 100000 in
theorem q_344 : Cond.static y_Opd_isMode ∈ WS := WS_at 344 rfl rfl
set_option maxRecDepth 100000 in
theorem q_345 : Cond.code y_Opd_isMode b_Opd_isMode 1 (some .boolean) ∈ WS := WS_at 345 rfl rfl
set_option maxRecDepth 100000 in
theorem q_346 : Cond.methodLink R_Prc 128 y_Reg_wideA ∈ WS := WS_at 346 rfl rfl
set_option maxRecDepth 100000 in
theorem q_347 : Cond.instanceMethod y_Reg_wideA ∈ WS := WS_at 347 rfl rfl
set_option maxRecDepth 100000 in
theorem q_348 : Cond.selects R_Reg y_Reg_wideA y_Reg_wideA ∈ WS := WS_at 348 rfl rfl
set_option maxRecDepth 100000 in
theorem q_349 : Cond.code y_Reg_wideA b_Reg_wideA 1 (some .boolean) ∈ WS := WS_at 349 rfl rfl
set_option maxRecDepth 100000 in
theorem q_350 : Cond.methodLink R_Prc 132 y_Opd_place ∈ WS := WS_at 350 rfl rfl
set_option maxRecDepth 100000 in
theorem q_351 : Cond.instanceMethod y_Opd_place ∈ WS := WS_at 351 rfl rfl
set_option maxRecDepth 100000 in
theorem q_352 : Cond.selects R_Opd y_Opd_place y_Opd_place ∈ WS := WS_at 352 rfl rfl
set_option maxRecDepth 100000 in
theorem q_353 : Cond.code y_Opd_place b_Opd_place 2 (some .int) ∈ WS := WS_at 353 rfl rfl
set_option maxRecDepth 100000 in
theorem q_354 : Cond.methodLink R_Opd 40 y_Opd_direct ∈ WS := WS_at 354 rfl rfl
set_option maxRecDepth 100000 in
theorem q_356 : Cond.instanceMethod y_Opd_direct ∈ WS := WS_at 356 rfl rfl
set_option maxRecDepth 100000 in
theorem q_357 : Cond.code y_Opd_direct b_Opd_direct 2 (some .int) ∈ WS := WS_at 357 rfl rfl
set_option maxRecDepth 100000 in
theorem q_358 : Cond.methodLink R_Opd 33 y_Opd_nextByte ∈ WS := WS_at 358 rfl rfl
set_option maxRecDepth 100000 in
theorem q_359 : Cond.methodLink R_Opd 71 y_Bus_bank0Place ∈ WS := WS_at 359 rfl rfl
set_option maxRecDepth 100000 in
theorem q_360 : Cond.methodLink R_Opd 37 y_Opd_nextWord ∈ WS := WS_at 360 rfl rfl
set_option maxRecDepth 100000 in
theorem q_361 : Cond.instanceMethod y_Opd_nextWord ∈ WS := WS_at 361 rfl rfl
set_option maxRecDepth 100000 in
theorem q_362 : Cond.selects R_Opd y_Opd_nextWord y_Opd_nextWord ∈ WS := WS_at 362 rfl rfl
set_option maxRecDepth 100000 in
theorem q_363 : Cond.code y_Opd_nextWord b_Opd_nextWord 2 (some .int) ∈ WS := WS_at 363 rfl rfl
set_option maxRecDepth 100000 in
theorem q_364 : Cond.methodLink R_Opd 47 y_Opd_inDataBank ∈ WS := WS_at 364 rfl rfl
set_option maxRecDepth 100000 in
theorem q_366 : Cond.instanceMethod y_Opd_inDataBank ∈ WS := WS_at 366 rfl rfl
set_option maxRecDepth 100000 in
theorem q_367 : Cond.code y_Opd_inDataBank b_Opd_inDataBank 3 (some .int) ∈ WS := WS_at 367 rfl rfl
set_option maxRecDepth 100000 in
theorem q_368 : Cond.methodLink R_Opd 56 y_Bus_longPlace ∈ WS := WS_at 368 rfl rfl
set_option maxRecDepth 100000 in
theorem q_369 : Cond.methodLink R_Opd 53 y_Opd_nextLong ∈ WS := WS_at 369 rfl rfl
set_option maxRecDepth 100000 in
theorem q_370 : Cond.instanceMethod y_Opd_nextLong ∈ WS := WS_at 370 rfl rfl
set_option maxRecDepth 100000 in
theorem q_371 : Cond.selects R_Opd y_Opd_nextLong y_Opd_nextLong ∈ WS := WS_at 371 rfl rfl
set_option maxRecDepth 100000 in
theorem q_372 : Cond.code y_Opd_nextLong b_Opd_nextLong 3 (some .int) ∈ WS := WS_at 372 rfl rfl
set_option maxRecDepth 100000 in
theorem q_373 : Cond.methodLink R_Opd 59 y_Bus_readWord ∈ WS := WS_at 373 rfl rfl
set_option maxRecDepth 100000 in
theorem q_374 : Cond.methodLink R_Opd 62 y_Bus_readLong ∈ WS := WS_at 374 rfl rfl
set_option maxRecDepth 100000 in
theorem q_375 : Cond.instanceMethod y_Bus_readLong ∈ WS := WS_at 375 rfl rfl
set_option maxRecDepth 100000 in
theorem q_376 : Cond.selects R_Bus y_Bus_readLong y_Bus_readLong ∈ WS := WS_at 376 rfl rfl
set_option maxRecDepth 100000 in
theorem q_377 : Cond.code y_Bus_readLong b_Bus_readLong 5 (some .int) ∈ WS := WS_at 377 rfl rfl
set_option maxRecDepth 100000 in
theorem q_378 : Cond.methodLink R_Opd 65 y_Opd_onStack ∈ WS := WS_at 378 rfl rfl
set_option maxRecDepth 100000 in
theorem q_380 : Cond.instanceMethod y_Opd_onStack ∈ WS := WS_at 380 rfl rfl
set_option maxRecDepth 100000 in
theorem q_381 : Cond.code y_Opd_onStack b_Opd_onStack 1 (some .int) ∈ WS := WS_at 381 rfl rfl
set_option maxRecDepth 100000 in
theorem q_382 : Cond.methodLink R_Prc 138 y_Bus_writeValue ∈ WS := WS_at 382 rfl rfl
set_option maxRecDepth 100000 in
theorem q_383 : Cond.instanceMethod y_Bus_writeValue ∈ WS := WS_at 383 rfl rfl
set_option maxRecDepth 100000 in
theorem q_384 : Cond.selects R_Bus y_Bus_writeValue y_Bus_writeValue ∈ WS := WS_at 384 rfl rfl
set_option maxRecDepth 100000 in
theorem q_385 : Cond.code y_Bus_writeValue b_Bus_writeValue 4 none ∈ WS := WS_at 385 rfl rfl
set_option maxRecDepth 100000 in
theorem q_386 : Cond.methodLink R_Bus 43 y_Bus_writeByte ∈ WS := WS_at 386 rfl rfl
set_option maxRecDepth 100000 in
theorem q_387 : Cond.methodLink R_Prc 142 y_Opd_nextValue ∈ WS := WS_at 387 rfl rfl
set_option maxRecDepth 100000 in
theorem q_388 : Cond.instanceMethod y_Opd_nextValue ∈ WS := WS_at 388 rfl rfl
set_option maxRecDepth 100000 in
theorem q_389 : Cond.selects R_Opd y_Opd_nextValue y_Opd_nextValue ∈ WS := WS_at 389 rfl rfl
set_option maxRecDepth 100000 in
theorem q_390 : Cond.code y_Opd_nextValue b_Opd_nextValue 2 (some .int) ∈ WS := WS_at 390 rfl rfl
set_option maxRecDepth 100000 in
theorem q_391 : Cond.methodLink R_Prc 146 y_Bus_readValue ∈ WS := WS_at 391 rfl rfl
set_option maxRecDepth 100000 in
theorem q_392 : Cond.instanceMethod y_Bus_readValue ∈ WS := WS_at 392 rfl rfl
set_option maxRecDepth 100000 in
theorem q_393 : Cond.selects R_Bus y_Bus_readValue y_Bus_readValue ∈ WS := WS_at 393 rfl rfl
set_option maxRecDepth 100000 in
theorem q_394 : Cond.code y_Bus_readValue b_Bus_readValue 3 (some .int) ∈ WS := WS_at 394 rfl rfl
set_option maxRecDepth 100000 in
theorem q_395 : Cond.methodLink R_Bus 40 y_Bus_readWord ∈ WS := WS_at 395 rfl rfl
set_option maxRecDepth 100000 in
theorem q_396 : Cond.methodLink R_Prc 150 y_Reg_a ∈ WS := WS_at 396 rfl rfl
set_option maxRecDepth 100000 in
theorem q_397 : Cond.instanceMethod y_Reg_a ∈ WS := WS_at 397 rfl rfl
set_option maxRecDepth 100000 in
theorem q_398 : Cond.selects R_Reg y_Reg_a y_Reg_a ∈ WS := WS_at 398 rfl rfl
set_option maxRecDepth 100000 in
theorem q_399 : Cond.code y_Reg_a b_Reg_a 1 (some .int) ∈ WS := WS_at 399 rfl rfl
set_option maxRecDepth 100000 in
theorem q_400 : Cond.methodLink R_Reg 29 y_Reg_wideA ∈ WS := WS_at 400 rfl rfl
set_option maxRecDepth 100000 in
theorem q_401 : Cond.methodLink R_Prc 153 y_Reg_loadA ∈ WS := WS_at 401 rfl rfl
set_option maxRecDepth 100000 in
theorem q_402 : Cond.instanceMethod y_Reg_loadA ∈ WS := WS_at 402 rfl rfl
set_option maxRecDepth 100000 in
theorem q_403 : Cond.selects R_Reg y_Reg_loadA y_Reg_loadA ∈ WS := WS_at 403 rfl rfl
set_option maxRecDepth 100000 in
theorem q_404 : Cond.code y_Reg_loadA b_Reg_loadA 3 none ∈ WS := WS_at 404 rfl rfl
set_option maxRecDepth 100000 in
theorem q_405 : Cond.methodLink R_Reg 45 y_Reg_showResult ∈ WS := WS_at 405 rfl rfl
set_option maxRecDepth 100000 in
theorem q_406 : Cond.instanceMethod y_Reg_showResult ∈ WS := WS_at 406 rfl rfl
set_option maxRecDepth 100000 in
theorem q_407 : Cond.selects R_Reg y_Reg_showResult y_Reg_showResult ∈ WS := WS_at 407 rfl rfl
set_option maxRecDepth 100000 in
theorem q_408 : Cond.code y_Reg_showResult b_Reg_showResult 5 none ∈ WS := WS_at 408 rfl rfl
set_option maxRecDepth 100000 in
theorem q_409 : Cond.methodLink R_Reg 42 y_Reg_signOf ∈ WS := WS_at 409 rfl rfl
set_option maxRecDepth 100000 in
theorem q_410 : Cond.static y_Reg_signOf ∈ WS := WS_at 410 rfl rfl
set_option maxRecDepth 100000 in
theorem q_411 : Cond.code y_Reg_signOf b_Reg_signOf 1 (some .int) ∈ WS := WS_at 411 rfl rfl
set_option maxRecDepth 100000 in
theorem q_412 : Cond.constant R_Reg 17 32768 ∈ WS := WS_at 412 rfl rfl
set_option maxRecDepth 100000 in
theorem q_413 : Cond.methodLink R_Prc 156 y_Prc_addToA ∈ WS := WS_at 413 rfl rfl
set_option maxRecDepth 100000 in
theorem q_415 : Cond.instanceMethod y_Prc_addToA ∈ WS := WS_at 415 rfl rfl
set_option maxRecDepth 100000 in
theorem q_416 : Cond.code y_Prc_addToA b_Prc_addToA 6 none ∈ WS := WS_at 416 rfl rfl
set_option maxRecDepth 100000 in
theorem q_417 : Cond.methodLink R_Prc 165 y_Reg_signOf ∈ WS := WS_at 417 rfl rfl
set_option maxRecDepth 100000 in
theorem q_418 : Cond.methodLink R_Prc 162 y_Reg_maskOf ∈ WS := WS_at 418 rfl rfl
set_option maxRecDepth 100000 in
theorem q_419 : Cond.methodLink R_Prc 159 y_Prc_compare ∈ WS := WS_at 419 rfl rfl
set_option maxRecDepth 100000 in
theorem q_421 : Cond.instanceMethod y_Prc_compare ∈ WS := WS_at 421 rfl rfl
set_option maxRecDepth 100000 in
theorem q_422 : Cond.code y_Prc_compare b_Prc_compare 4 none ∈ WS := WS_at 422 rfl rfl
set_option maxRecDepth 100000 in
theorem q_423 : Cond.methodLink R_Prc 168 y_Reg_showResult ∈ WS := WS_at 423 rfl rfl
set_option maxRecDepth 100000 in
theorem q_424 : Cond.methodLink R_Prc 61 y_Prc_useIndex ∈ WS := WS_at 424 rfl rfl
set_option maxRecDepth 100000 in
theorem q_426 : Cond.instanceMethod y_Prc_useIndex ∈ WS := WS_at 426 rfl rfl
set_option maxRecDepth 100000 in
theorem q_427 : Cond.code y_Prc_useIndex b_Prc_useIndex 3 (some .boolean) ∈ WS := WS_at 427 rfl rfl
set_option maxRecDepth 100000 in
theorem q_428 : Cond.methodLink R_Prc 171 y_Reg_wideIndex ∈ WS := WS_at 428 rfl rfl
set_option maxRecDepth 100000 in
theorem q_429 : Cond.methodLink R_Prc 174 y_Reg_loadX ∈ WS := WS_at 429 rfl rfl
set_option maxRecDepth 100000 in
theorem q_430 : Cond.instanceMethod y_Reg_loadX ∈ WS := WS_at 430 rfl rfl
set_option maxRecDepth 100000 in
theorem q_431 : Cond.selects R_Reg y_Reg_loadX y_Reg_loadX ∈ WS := WS_at 431 rfl rfl
set_option maxRecDepth 100000 in
theorem q_432 : Cond.code y_Reg_loadX b_Reg_loadX 2 none ∈ WS := WS_at 432 rfl rfl
set_option maxRecDepth 100000 in
theorem q_433 : Cond.methodLink R_Prc 177 y_Reg_loadY ∈ WS := WS_at 433 rfl rfl
set_option maxRecDepth 100000 in
theorem q_434 : Cond.instanceMethod y_Reg_loadY ∈ WS := WS_at 434 rfl rfl
set_option maxRecDepth 100000 in
theorem q_435 : Cond.selects R_Reg y_Reg_loadY y_Reg_loadY ∈ WS := WS_at 435 rfl rfl
set_option maxRecDepth 100000 in
theorem q_436 : Cond.code y_Reg_loadY b_Reg_loadY 2 none ∈ WS := WS_at 436 rfl rfl
set_option maxRecDepth 100000 in
theorem q_437 : Cond.methodLink R_Prc 64 y_Prc_storeZero ∈ WS := WS_at 437 rfl rfl
set_option maxRecDepth 100000 in
theorem q_439 : Cond.instanceMethod y_Prc_storeZero ∈ WS := WS_at 439 rfl rfl
set_option maxRecDepth 100000 in
theorem q_440 : Cond.code y_Prc_storeZero b_Prc_storeZero 2 (some .boolean) ∈ WS := WS_at 440 rfl rfl
set_option maxRecDepth 100000 in
theorem q_441 : Cond.methodLink R_Prc 67 y_Prc_changeMemory ∈ WS := WS_at 441 rfl rfl
set_option maxRecDepth 100000 in
theorem q_443 : Cond.instanceMethod y_Prc_changeMemory ∈ WS := WS_at 443 rfl rfl
set_option maxRecDepth 100000 in
theorem q_444 : Cond.code y_Prc_changeMemory b_Prc_changeMemory 6 (some .boolean) ∈ WS := WS_at 444 rfl rfl
set_option maxRecDepth 100000 in
theorem q_445 : Cond.methodLink R_Prc 186 y_Prc_changed ∈ WS := WS_at 445 rfl rfl
set_option maxRecDepth 100000 in
theorem q_447 : Cond.instanceMethod y_Prc_changed ∈ WS := WS_at 447 rfl rfl
set_option maxRecDepth 100000 in
theorem q_448 : Cond.code y_Prc_changed b_Prc_changed 7 (some .int) ∈ WS := WS_at 448 rfl rfl
set_option maxRecDepth 100000 in
theorem q_449 : Cond.methodLink R_Prc 70 y_Prc_changeRegister ∈ WS := WS_at 449 rfl rfl
set_option maxRecDepth 100000 in
theorem q_451 : Cond.instanceMethod y_Prc_changeRegister ∈ WS := WS_at 451 rfl rfl
set_option maxRecDepth 100000 in
theorem q_452 : Cond.code y_Prc_changeRegister b_Prc_changeRegister 3 (some .boolean) ∈ WS := WS_at 452 rfl rfl
set_option maxRecDepth 100000 in
theorem q_453 : Cond.methodLink R_Prc 73 y_Prc_transfer ∈ WS := WS_at 453 rfl rfl
set_option maxRecDepth 100000 in
theorem q_455 : Cond.instanceMethod y_Prc_transfer ∈ WS := WS_at 455 rfl rfl
set_option maxRecDepth 100000 in
theorem q_456 : Cond.code y_Prc_transfer b_Prc_transfer 2 (some .boolean) ∈ WS := WS_at 456 rfl rfl
set_option maxRecDepth 100000 in
theorem q_457 : Cond.methodLink R_Prc 193 y_Reg_loadD ∈ WS := WS_at 457 rfl rfl
set_option maxRecDepth 100000 in
theorem q_458 : Cond.instanceMethod y_Reg_loadD ∈ WS := WS_at 458 rfl rfl
set_option maxRecDepth 100000 in
theorem q_459 : Cond.selects R_Reg y_Reg_loadD y_Reg_loadD ∈ WS := WS_at 459 rfl rfl
set_option maxRecDepth 100000 in
theorem q_460 : Cond.code y_Reg_loadD b_Reg_loadD 2 none ∈ WS := WS_at 460 rfl rfl
set_option maxRecDepth 100000 in
theorem q_461 : Cond.methodLink R_Prc 199 y_Reg_loadC ∈ WS := WS_at 461 rfl rfl
set_option maxRecDepth 100000 in
theorem q_462 : Cond.instanceMethod y_Reg_loadC ∈ WS := WS_at 462 rfl rfl
set_option maxRecDepth 100000 in
theorem q_463 : Cond.selects R_Reg y_Reg_loadC y_Reg_loadC ∈ WS := WS_at 463 rfl rfl
set_option maxRecDepth 100000 in
theorem q_464 : Cond.code y_Reg_loadC b_Reg_loadC 2 none ∈ WS := WS_at 464 rfl rfl
set_option maxRecDepth 100000 in
theorem q_465 : Cond.methodLink R_Prc 76 y_Prc_push ∈ WS := WS_at 465 rfl rfl
set_option maxRecDepth 100000 in
theorem q_467 : Cond.instanceMethod y_Prc_push ∈ WS := WS_at 467 rfl rfl
set_option maxRecDepth 100000 in
theorem q_468 : Cond.code y_Prc_push b_Prc_push 2 (some .boolean) ∈ WS := WS_at 468 rfl rfl
set_option maxRecDepth 100000 in
theorem q_469 : Cond.methodLink R_Prc 202 y_Stk_pushValue ∈ WS := WS_at 469 rfl rfl
set_option maxRecDepth 100000 in
theorem q_470 : Cond.instanceMethod y_Stk_pushValue ∈ WS := WS_at 470 rfl rfl
set_option maxRecDepth 100000 in
theorem q_471 : Cond.selects R_Stk y_Stk_pushValue y_Stk_pushValue ∈ WS := WS_at 471 rfl rfl
set_option maxRecDepth 100000 in
theorem q_472 : Cond.code y_Stk_pushValue b_Stk_pushValue 3 none ∈ WS := WS_at 472 rfl rfl
set_option maxRecDepth 100000 in
theorem q_473 : Cond.methodLink R_Prc 208 y_Opd_nextWord ∈ WS := WS_at 473 rfl rfl
set_option maxRecDepth 100000 in
theorem q_474 : Cond.methodLink R_Prc 79 y_Prc_pull ∈ WS := WS_at 474 rfl rfl
set_option maxRecDepth 100000 in
theorem q_476 : Cond.instanceMethod y_Prc_pull ∈ WS := WS_at 476 rfl rfl
set_option maxRecDepth 100000 in
theorem q_477 : Cond.code y_Prc_pull b_Prc_pull 2 (some .boolean) ∈ WS := WS_at 477 rfl rfl
set_option maxRecDepth 100000 in
theorem q_478 : Cond.methodLink R_Prc 211 y_Stk_pullValue ∈ WS := WS_at 478 rfl rfl
set_option maxRecDepth 100000 in
theorem q_479 : Cond.instanceMethod y_Stk_pullValue ∈ WS := WS_at 479 rfl rfl
set_option maxRecDepth 100000 in
theorem q_480 : Cond.selects R_Stk y_Stk_pullValue y_Stk_pullValue ∈ WS := WS_at 480 rfl rfl
set_option maxRecDepth 100000 in
theorem q_481 : Cond.code y_Stk_pullValue b_Stk_pullValue 2 (some .int) ∈ WS := WS_at 481 rfl rfl
set_option maxRecDepth 100000 in
theorem q_482 : Cond.methodLink R_Stk 45 y_Stk_pullWord ∈ WS := WS_at 482 rfl rfl
set_option maxRecDepth 100000 in
theorem q_483 : Cond.instanceMethod y_Stk_pullWord ∈ WS := WS_at 483 rfl rfl
set_option maxRecDepth 100000 in
theorem q_484 : Cond.selects R_Stk y_Stk_pullWord y_Stk_pullWord ∈ WS := WS_at 484 rfl rfl
set_option maxRecDepth 100000 in
theorem q_485 : Cond.code y_Stk_pullWord b_Stk_pullWord 2 (some .int) ∈ WS := WS_at 485 rfl rfl
set_option maxRecDepth 100000 in
theorem q_486 : Cond.methodLink R_Stk 41 y_Stk_pullByte ∈ WS := WS_at 486 rfl rfl
set_option maxRecDepth 100000 in
theorem q_487 : Cond.instanceMethod y_Stk_pullByte ∈ WS := WS_at 487 rfl rfl
set_option maxRecDepth 100000 in
theorem q_488 : Cond.selects R_Stk y_Stk_pullByte y_Stk_pullByte ∈ WS := WS_at 488 rfl rfl
set_option maxRecDepth 100000 in
theorem q_489 : Cond.code y_Stk_pullByte b_Stk_pullByte 1 (some .int) ∈ WS := WS_at 489 rfl rfl
set_option maxRecDepth 100000 in
theorem q_490 : Cond.methodLink R_Stk 38 y_Bus_readByte ∈ WS := WS_at 490 rfl rfl
set_option maxRecDepth 100000 in
theorem q_491 : Cond.methodLink R_Prc 214 y_Stk_pullWord ∈ WS := WS_at 491 rfl rfl
set_option maxRecDepth 100000 in
theorem q_492 : Cond.methodLink R_Prc 217 y_Stk_pullByte ∈ WS := WS_at 492 rfl rfl
set_option maxRecDepth 100000 in
theorem q_493 : Cond.methodLink R_Prc 220 y_Reg_loadDataBank ∈ WS := WS_at 493 rfl rfl
set_option maxRecDepth 100000 in
theorem q_494 : Cond.instanceMethod y_Reg_loadDataBank ∈ WS := WS_at 494 rfl rfl
set_option maxRecDepth 100000 in
theorem q_495 : Cond.selects R_Reg y_Reg_loadDataBank y_Reg_loadDataBank ∈ WS := WS_at 495 rfl rfl
set_option maxRecDepth 100000 in
theorem q_496 : Cond.code y_Reg_loadDataBank b_Reg_loadDataBank 2 none ∈ WS := WS_at 496 rfl rfl
set_option maxRecDepth 100000 in
theorem q_497 : Cond.methodLink R_Prc 223 y_Reg_replaceP ∈ WS := WS_at 497 rfl rfl
set_option maxRecDepth 100000 in
theorem q_498 : Cond.methodLink R_Prc 82 y_Prc_branch ∈ WS := WS_at 498 rfl rfl
set_option maxRecDepth 100000 in
theorem q_500 : Cond.instanceMethod y_Prc_branch ∈ WS := WS_at 500 rfl rfl
set_option maxRecDepth 100000 in
theorem q_501 : Cond.code y_Prc_branch b_Prc_branch 4 (some .boolean) ∈ WS := WS_at 501 rfl rfl
set_option maxRecDepth 100000 in
theorem q_502 : Cond.methodLink R_Prc 226 y_Reg_jumpTo ∈ WS := WS_at 502 rfl rfl
set_option maxRecDepth 100000 in
theorem q_503 : Cond.instanceMethod y_Reg_jumpTo ∈ WS := WS_at 503 rfl rfl
set_option maxRecDepth 100000 in
theorem q_504 : Cond.selects R_Reg y_Reg_jumpTo y_Reg_jumpTo ∈ WS := WS_at 504 rfl rfl
set_option maxRecDepth 100000 in
theorem q_505 : Cond.code y_Reg_jumpTo b_Reg_jumpTo 2 none ∈ WS := WS_at 505 rfl rfl
set_option maxRecDepth 100000 in
theorem q_506 : Cond.fieldLink R_Prc 229 "WideCore$Processor" "BRANCH_FLAGS" "[I" ∈ WS := WS_at 506 rfl rfl
set_option maxRecDepth 100000 in
theorem q_508 : Cond.methodLink R_Prc 85 y_Prc_jump ∈ WS := WS_at 508 rfl rfl
set_option maxRecDepth 100000 in
theorem q_510 : Cond.instanceMethod y_Prc_jump ∈ WS := WS_at 510 rfl rfl
set_option maxRecDepth 100000 in
theorem q_511 : Cond.code y_Prc_jump b_Prc_jump 3 (some .boolean) ∈ WS := WS_at 511 rfl rfl
set_option maxRecDepth 100000 in
theorem q_512 : Cond.methodLink R_Prc 233 y_Opd_nextLong ∈ WS := WS_at 512 rfl rfl
set_option maxRecDepth 100000 in
theorem q_513 : Cond.methodLink R_Prc 236 y_Reg_jumpLong ∈ WS := WS_at 513 rfl rfl
set_option maxRecDepth 100000 in
theorem q_514 : Cond.instanceMethod y_Reg_jumpLong ∈ WS := WS_at 514 rfl rfl
set_option maxRecDepth 100000 in
theorem q_515 : Cond.selects R_Reg y_Reg_jumpLong y_Reg_jumpLong ∈ WS := WS_at 515 rfl rfl
set_option maxRecDepth 100000 in
theorem q_516 : Cond.code y_Reg_jumpLong b_Reg_jumpLong 2 none ∈ WS := WS_at 516 rfl rfl
set_option maxRecDepth 100000 in
theorem q_517 : Cond.constant R_Prc 239 65535 ∈ WS := WS_at 517 rfl rfl
set_option maxRecDepth 100000 in
theorem q_518 : Cond.methodLink R_Prc 88 y_Prc_changeFlags ∈ WS := WS_at 518 rfl rfl
set_option maxRecDepth 100000 in
theorem q_520 : Cond.instanceMethod y_Prc_changeFlags ∈ WS := WS_at 520 rfl rfl
set_option maxRecDepth 100000 in
theorem q_521 : Cond.code y_Prc_changeFlags b_Prc_changeFlags 2 (some .boolean) ∈ WS := WS_at 521 rfl rfl
set_option maxRecDepth 100000 in
theorem q_522 : Cond.methodLink R_Prc 91 y_Prc_moveBlock ∈ WS := WS_at 522 rfl rfl
set_option maxRecDepth 100000 in
theorem q_524 : Cond.instanceMethod y_Prc_moveBlock ∈ WS := WS_at 524 rfl rfl
set_option maxRecDepth 100000 in
theorem q_525 : Cond.code y_Prc_moveBlock b_Prc_moveBlock 6 (some .boolean) ∈ WS := WS_at 525 rfl rfl
set_option maxRecDepth 100000 in
theorem q_526 : Cond.methodLink R_Prc 240 y_Bus_readByte ∈ WS := WS_at 526 rfl rfl
set_option maxRecDepth 100000 in
theorem q_527 : Cond.methodLink R_Prc 243 y_Bus_writeByte ∈ WS := WS_at 527 rfl rfl
set_option maxRecDepth 100000 in
theorem q_528 : Cond.methodLink R_Prc 247 y_Reg_indexMask ∈ WS := WS_at 528 rfl rfl
set_option maxRecDepth 100000 in
theorem q_530 : Cond.instanceMethod y_Wc_stopped ∈ WS := WS_at 530 rfl rfl
set_option maxRecDepth 100000 in
theorem q_531 : Cond.selects R_Wc y_Wc_stopped y_Wc_stopped ∈ WS := WS_at 531 rfl rfl
set_option maxRecDepth 100000 in
theorem q_532 : Cond.code y_Wc_stopped b_Wc_stopped 1 (some .boolean) ∈ WS := WS_at 532 rfl rfl
set_option maxRecDepth 100000 in
theorem q_534 : Cond.instanceMethod y_Wc_interrupt ∈ WS := WS_at 534 rfl rfl
set_option maxRecDepth 100000 in
theorem q_535 : Cond.selects R_Wc y_Wc_interrupt y_Wc_interrupt ∈ WS := WS_at 535 rfl rfl
set_option maxRecDepth 100000 in
theorem q_536 : Cond.code y_Wc_interrupt b_Wc_interrupt 1 (some .boolean) ∈ WS := WS_at 536 rfl rfl
set_option maxRecDepth 100000 in
theorem q_538 : Cond.instanceMethod y_Wc_line ∈ WS := WS_at 538 rfl rfl
set_option maxRecDepth 100000 in
theorem q_539 : Cond.selects R_Wc y_Wc_line y_Wc_line ∈ WS := WS_at 539 rfl rfl
set_option maxRecDepth 100000 in
theorem q_540 : Cond.code y_Wc_line b_Wc_line 2 none ∈ WS := WS_at 540 rfl rfl
set_option maxRecDepth 100000 in
theorem q_542 : Cond.instanceMethod y_Wc_touches ∈ WS := WS_at 542 rfl rfl
set_option maxRecDepth 100000 in
theorem q_543 : Cond.selects R_Wc y_Wc_touches y_Wc_touches ∈ WS := WS_at 543 rfl rfl
set_option maxRecDepth 100000 in
theorem q_544 : Cond.code y_Wc_touches b_Wc_touches 1 (some .int) ∈ WS := WS_at 544 rfl rfl
set_option maxRecDepth 100000 in
theorem q_546 : Cond.instanceMethod y_Wc_touched ∈ WS := WS_at 546 rfl rfl
set_option maxRecDepth 100000 in
theorem q_547 : Cond.selects R_Wc y_Wc_touched y_Wc_touched ∈ WS := WS_at 547 rfl rfl
set_option maxRecDepth 100000 in
theorem q_548 : Cond.code y_Wc_touched b_Wc_touched 2 (some .int) ∈ WS := WS_at 548 rfl rfl
set_option maxRecDepth 100000 in
theorem q_549 : Cond.methodLink R_Wc 89 y_Bus_latestTouch ∈ WS := WS_at 549 rfl rfl
set_option maxRecDepth 100000 in
theorem q_550 : Cond.instanceMethod y_Bus_latestTouch ∈ WS := WS_at 550 rfl rfl
set_option maxRecDepth 100000 in
theorem q_551 : Cond.selects R_Bus y_Bus_latestTouch y_Bus_latestTouch ∈ WS := WS_at 551 rfl rfl
set_option maxRecDepth 100000 in
theorem q_552 : Cond.code y_Bus_latestTouch b_Bus_latestTouch 2 (some .int) ∈ WS := WS_at 552 rfl rfl
set_option maxRecDepth 100000 in
theorem q_554 : Cond.instanceMethod y_Wc_steps ∈ WS := WS_at 554 rfl rfl
set_option maxRecDepth 100000 in
theorem q_555 : Cond.selects R_Wc y_Wc_steps y_Wc_steps ∈ WS := WS_at 555 rfl rfl
set_option maxRecDepth 100000 in
theorem q_556 : Cond.code y_Wc_steps b_Wc_steps 1 (some .int) ∈ WS := WS_at 556 rfl rfl
set_option maxRecDepth 100000 in
theorem q_562 : Cond.methodLink R_Mdl 1 objectInit ∈ WS := WS_at 562 rfl rfl
set_option maxRecDepth 100000 in
theorem q_563 : Cond.fieldLink R_Mdl 7 "WideCoreModel" "memory" "[I" ∈ WS := WS_at 563 rfl rfl
set_option maxRecDepth 100000 in
theorem q_564 : Cond.fieldLink R_Mdl 71 "WideCoreModel" "c" "I" ∈ WS := WS_at 564 rfl rfl
set_option maxRecDepth 100000 in
theorem q_565 : Cond.fieldLink R_Mdl 83 "WideCoreModel" "x" "I" ∈ WS := WS_at 565 rfl rfl
set_option maxRecDepth 100000 in
theorem q_566 : Cond.fieldLink R_Mdl 86 "WideCoreModel" "y" "I" ∈ WS := WS_at 566 rfl rfl
set_option maxRecDepth 100000 in
theorem q_567 : Cond.fieldLink R_Mdl 13 "WideCoreModel" "s" "I" ∈ WS := WS_at 567 rfl rfl
set_option maxRecDepth 100000 in
theorem q_568 : Cond.fieldLink R_Mdl 89 "WideCoreModel" "d" "I" ∈ WS := WS_at 568 rfl rfl
set_option maxRecDepth 100000 in
theorem q_569 : Cond.fieldLink R_Mdl 102 "WideCoreModel" "db" "I" ∈ WS := WS_at 569 rfl rfl
set_option maxRecDepth 100000 in
theorem q_570 : Cond.fieldLink R_Mdl 17 "WideCoreModel" "p" "I" ∈ WS := WS_at 570 rfl rfl
set_option maxRecDepth 100000 in
theorem q_571 : Cond.fieldLink R_Mdl 55 "WideCoreModel" "pb" "I" ∈ WS := WS_at 571 rfl rfl
set_option maxRecDepth 100000 in
theorem q_572 : Cond.fieldLink R_Mdl 58 "WideCoreModel" "pc" "I" ∈ WS := WS_at 572 rfl rfl
set_option maxRecDepth 100000 in
theorem q_573 : Cond.fieldLink R_Mdl 221 "WideCoreModel" "stopped" "Z" ∈ WS := WS_at 573 rfl rfl
set_option maxRecDepth 100000 in
theorem q_574 : Cond.fieldLink R_Mdl 194 "WideCoreModel" "nmi" "Z" ∈ WS := WS_at 574 rfl rfl
set_option maxRecDepth 100000 in
theorem q_575 : Cond.fieldLink R_Mdl 197 "WideCoreModel" "irq" "Z" ∈ WS := WS_at 575 rfl rfl
set_option maxRecDepth 100000 in
theorem q_576 : Cond.fieldLink R_Mdl 191 "WideCoreModel" "steps" "I" ∈ WS := WS_at 576 rfl rfl
set_option maxRecDepth 100000 in
theorem q_577 : Cond.fieldLink R_Mdl 23 "WideCoreModel" "touches" "I" ∈ WS := WS_at 577 rfl rfl
set_option maxRecDepth 100000 in
theorem q_578 : Cond.fieldLink R_Mdl 20 "WideCoreModel" "latest" "[I" ∈ WS := WS_at 578 rfl rfl
set_option maxRecDepth 100000 in
theorem q_579 : Cond.fieldLink R_Mdl 92 "WideCoreModel" "place" "I" ∈ WS := WS_at 579 rfl rfl
set_option maxRecDepth 100000 in
theorem q_580 : Cond.fieldLink R_Mdl 95 "WideCoreModel" "near" "Z" ∈ WS := WS_at 580 rfl rfl
set_option maxRecDepth 100000 in
theorem q_581 : Cond.laysFinal R_Mdl R_Mdl "memory" "[I" ∈ WS := WS_at 581 rfl rfl
set_option maxRecDepth 100000 in
theorem q_583 : Cond.lays R_Mdl R_Mdl "c" "I" ∈ WS := WS_at 583 rfl rfl
set_option maxRecDepth 100000 in
theorem q_585 : Cond.lays R_Mdl R_Mdl "x" "I" ∈ WS := WS_at 585 rfl rfl
set_option maxRecDepth 100000 in
theorem q_587 : Cond.lays R_Mdl R_Mdl "y" "I" ∈ WS := WS_at 587 rfl rfl
set_option maxRecDepth 100000 in
theorem q_589 : Cond.lays R_Mdl R_Mdl "s" "I" ∈ WS := WS_at 589 rfl rfl
set_option maxRecDepth 100000 in
theorem q_591 : Cond.lays R_Mdl R_Mdl "d" "I" ∈ WS := WS_at 591 rfl rfl
set_option maxRecDepth 100000 in
theorem q_593 : Cond.lays R_Mdl R_Mdl "db" "I" ∈ WS := WS_at 593 rfl rfl
set_option maxRecDepth 100000 in
theorem q_595 : Cond.lays R_Mdl R_Mdl "p" "I" ∈ WS := WS_at 595 rfl rfl
set_option maxRecDepth 100000 in
theorem q_597 : Cond.lays R_Mdl R_Mdl "pb" "I" ∈ WS := WS_at 597 rfl rfl
set_option maxRecDepth 100000 in
theorem q_599 : Cond.lays R_Mdl R_Mdl "pc" "I" ∈ WS := WS_at 599 rfl rfl
set_option maxRecDepth 100000 in
theorem q_601 : Cond.lays R_Mdl R_Mdl "stopped" "Z" ∈ WS := WS_at 601 rfl rfl
set_option maxRecDepth 100000 in
theorem q_603 : Cond.lays R_Mdl R_Mdl "nmi" "Z" ∈ WS := WS_at 603 rfl rfl
set_option maxRecDepth 100000 in
theorem q_605 : Cond.lays R_Mdl R_Mdl "irq" "Z" ∈ WS := WS_at 605 rfl rfl
set_option maxRecDepth 100000 in
theorem q_607 : Cond.lays R_Mdl R_Mdl "steps" "I" ∈ WS := WS_at 607 rfl rfl
set_option maxRecDepth 100000 in
theorem q_609 : Cond.lays R_Mdl R_Mdl "touches" "I" ∈ WS := WS_at 609 rfl rfl
set_option maxRecDepth 100000 in
theorem q_611 : Cond.laysFinal R_Mdl R_Mdl "latest" "[I" ∈ WS := WS_at 611 rfl rfl
set_option maxRecDepth 100000 in
theorem q_613 : Cond.lays R_Mdl R_Mdl "place" "I" ∈ WS := WS_at 613 rfl rfl
set_option maxRecDepth 100000 in
theorem q_615 : Cond.lays R_Mdl R_Mdl "near" "Z" ∈ WS := WS_at 615 rfl rfl
set_option maxRecDepth 100000 in
theorem q_619 : Cond.instanceMethod y_Mdl_poke ∈ WS := WS_at 619 rfl rfl
set_option maxRecDepth 100000 in
theorem q_620 : Cond.selects R_Mdl y_Mdl_poke y_Mdl_poke ∈ WS := WS_at 620 rfl rfl
set_option maxRecDepth 100000 in
theorem q_621 : Cond.code y_Mdl_poke b_Mdl_poke 5 (some .boolean) ∈ WS := WS_at 621 rfl rfl
set_option maxRecDepth 100000 in
theorem q_623 : Cond.instanceMethod y_Mdl_peek ∈ WS := WS_at 623 rfl rfl
set_option maxRecDepth 100000 in
theorem q_624 : Cond.selects R_Mdl y_Mdl_peek y_Mdl_peek ∈ WS := WS_at 624 rfl rfl
set_option maxRecDepth 100000 in
theorem q_625 : Cond.code y_Mdl_peek b_Mdl_peek 2 (some .int) ∈ WS := WS_at 625 rfl rfl
set_option maxRecDepth 100000 in
theorem q_627 : Cond.instanceMethod y_Mdl_start ∈ WS := WS_at 627 rfl rfl
set_option maxRecDepth 100000 in
theorem q_628 : Cond.selects R_Mdl y_Mdl_start y_Mdl_start ∈ WS := WS_at 628 rfl rfl
set_option maxRecDepth 100000 in
theorem q_629 : Cond.code y_Mdl_start b_Mdl_start 3 (some .boolean) ∈ WS := WS_at 629 rfl rfl
set_option maxRecDepth 100000 in
theorem q_630 : Cond.constant R_Mdl 35 65535 ∈ WS := WS_at 630 rfl rfl
set_option maxRecDepth 100000 in
theorem q_632 : Cond.instanceMethod y_Mdl_set ∈ WS := WS_at 632 rfl rfl
set_option maxRecDepth 100000 in
theorem q_633 : Cond.selects R_Mdl y_Mdl_set y_Mdl_set ∈ WS := WS_at 633 rfl rfl
set_option maxRecDepth 100000 in
theorem q_634 : Cond.code y_Mdl_set b_Mdl_set 3 (some .boolean) ∈ WS := WS_at 634 rfl rfl
set_option maxRecDepth 100000 in
theorem q_635 : Cond.methodLink R_Mdl 67 y_Mdl_is ∈ WS := WS_at 635 rfl rfl
set_option maxRecDepth 100000 in
theorem q_637 : Cond.instanceMethod y_Mdl_is ∈ WS := WS_at 637 rfl rfl
set_option maxRecDepth 100000 in
theorem q_638 : Cond.code y_Mdl_is b_Mdl_is 2 (some .boolean) ∈ WS := WS_at 638 rfl rfl
set_option maxRecDepth 100000 in
theorem q_639 : Cond.methodLink R_Mdl 75 y_Mdl_cut ∈ WS := WS_at 639 rfl rfl
set_option maxRecDepth 100000 in
theorem q_641 : Cond.instanceMethod y_Mdl_cut ∈ WS := WS_at 641 rfl rfl
set_option maxRecDepth 100000 in
theorem q_642 : Cond.code y_Mdl_cut b_Mdl_cut 3 (some .int) ∈ WS := WS_at 642 rfl rfl
set_option maxRecDepth 100000 in
theorem q_643 : Cond.methodLink R_Mdl 173 y_Mdl_setFlags ∈ WS := WS_at 643 rfl rfl
set_option maxRecDepth 100000 in
theorem q_645 : Cond.instanceMethod y_Mdl_setFlags ∈ WS := WS_at 645 rfl rfl
set_option maxRecDepth 100000 in
theorem q_646 : Cond.code y_Mdl_setFlags b_Mdl_setFlags 2 none ∈ WS := WS_at 646 rfl rfl
set_option maxRecDepth 100000 in
theorem q_648 : Cond.instanceMethod y_Mdl_register ∈ WS := WS_at 648 rfl rfl
set_option maxRecDepth 100000 in
theorem q_649 : Cond.selects R_Mdl y_Mdl_register y_Mdl_register ∈ WS := WS_at 649 rfl rfl
set_option maxRecDepth 100000 in
theorem q_650 : Cond.code y_Mdl_register b_Mdl_register 2 (some .int) ∈ WS := WS_at 650 rfl rfl
set_option maxRecDepth 100000 in
theorem q_657 : Cond.instanceMethod y_Mdl_step ∈ WS := WS_at 657 rfl rfl
set_option maxRecDepth 100000 in
theorem q_658 : Cond.code y_Mdl_step b_Mdl_step 5 none ∈ WS := WS_at 658 rfl rfl
set_option maxRecDepth 100000 in
theorem q_659 : Cond.methodLink R_Mdl 185 y_Mdl_interruptFrom ∈ WS := WS_at 659 rfl rfl
set_option maxRecDepth 100000 in
theorem q_661 : Cond.instanceMethod y_Mdl_interruptFrom ∈ WS := WS_at 661 rfl rfl
set_option maxRecDepth 100000 in
theorem q_662 : Cond.code y_Mdl_interruptFrom b_Mdl_interruptFrom 2 none ∈ WS := WS_at 662 rfl rfl
set_option maxRecDepth 100000 in
theorem q_663 : Cond.methodLink R_Mdl 48 y_Mdl_push ∈ WS := WS_at 663 rfl rfl
set_option maxRecDepth 100000 in
theorem q_665 : Cond.instanceMethod y_Mdl_push ∈ WS := WS_at 665 rfl rfl
set_option maxRecDepth 100000 in
theorem q_666 : Cond.code y_Mdl_push b_Mdl_push 2 none ∈ WS := WS_at 666 rfl rfl
set_option maxRecDepth 100000 in
theorem q_667 : Cond.methodLink R_Mdl 44 y_Mdl_write ∈ WS := WS_at 667 rfl rfl
set_option maxRecDepth 100000 in
theorem q_669 : Cond.instanceMethod y_Mdl_write ∈ WS := WS_at 669 rfl rfl
set_option maxRecDepth 100000 in
theorem q_670 : Cond.code y_Mdl_write b_Mdl_write 3 none ∈ WS := WS_at 670 rfl rfl
set_option maxRecDepth 100000 in
theorem q_671 : Cond.methodLink R_Mdl 26 y_Mdl_cell ∈ WS := WS_at 671 rfl rfl
set_option maxRecDepth 100000 in
theorem q_672 : Cond.static y_Mdl_cell ∈ WS := WS_at 672 rfl rfl
set_option maxRecDepth 100000 in
theorem q_673 : Cond.code y_Mdl_cell b_Mdl_cell 1 (some .int) ∈ WS := WS_at 673 rfl rfl
set_option maxRecDepth 100000 in
theorem q_674 : Cond.methodLink R_Mdl 30 y_Mdl_touch ∈ WS := WS_at 674 rfl rfl
set_option maxRecDepth 100000 in
theorem q_676 : Cond.instanceMethod y_Mdl_touch ∈ WS := WS_at 676 rfl rfl
set_option maxRecDepth 100000 in
theorem q_677 : Cond.code y_Mdl_touch b_Mdl_touch 3 none ∈ WS := WS_at 677 rfl rfl
set_option maxRecDepth 100000 in
theorem q_678 : Cond.methodLink R_Mdl 161 y_Mdl_pushWord ∈ WS := WS_at 678 rfl rfl
set_option maxRecDepth 100000 in
theorem q_680 : Cond.instanceMethod y_Mdl_pushWord ∈ WS := WS_at 680 rfl rfl
set_option maxRecDepth 100000 in
theorem q_681 : Cond.code y_Mdl_pushWord b_Mdl_pushWord 2 none ∈ WS := WS_at 681 rfl rfl
set_option maxRecDepth 100000 in
theorem q_682 : Cond.methodLink R_Mdl 79 y_Mdl_flag ∈ WS := WS_at 682 rfl rfl
set_option maxRecDepth 100000 in
theorem q_684 : Cond.instanceMethod y_Mdl_flag ∈ WS := WS_at 684 rfl rfl
set_option maxRecDepth 100000 in
theorem q_685 : Cond.code y_Mdl_flag b_Mdl_flag 3 none ∈ WS := WS_at 685 rfl rfl
set_option maxRecDepth 100000 in
theorem q_686 : Cond.methodLink R_Mdl 111 y_Mdl_readWord ∈ WS := WS_at 686 rfl rfl
set_option maxRecDepth 100000 in
theorem q_688 : Cond.instanceMethod y_Mdl_readWord ∈ WS := WS_at 688 rfl rfl
set_option maxRecDepth 100000 in
theorem q_689 : Cond.code y_Mdl_readWord b_Mdl_readWord 4 (some .int) ∈ WS := WS_at 689 rfl rfl
set_option maxRecDepth 100000 in
theorem q_690 : Cond.methodLink R_Mdl 37 y_Mdl_read ∈ WS := WS_at 690 rfl rfl
set_option maxRecDepth 100000 in
theorem q_692 : Cond.instanceMethod y_Mdl_read ∈ WS := WS_at 692 rfl rfl
set_option maxRecDepth 100000 in
theorem q_693 : Cond.code y_Mdl_read b_Mdl_read 2 (some .int) ∈ WS := WS_at 693 rfl rfl
set_option maxRecDepth 100000 in
theorem q_694 : Cond.methodLink R_Mdl 40 y_Mdl_after ∈ WS := WS_at 694 rfl rfl
set_option maxRecDepth 100000 in
theorem q_696 : Cond.instanceMethod y_Mdl_after ∈ WS := WS_at 696 rfl rfl
set_option maxRecDepth 100000 in
theorem q_697 : Cond.code y_Mdl_after b_Mdl_after 3 (some .int) ∈ WS := WS_at 697 rfl rfl
set_option maxRecDepth 100000 in
theorem q_698 : Cond.constant R_Mdl 34 16711680 ∈ WS := WS_at 698 rfl rfl
set_option maxRecDepth 100000 in
theorem q_699 : Cond.constant R_Mdl 36 16777215 ∈ WS := WS_at 699 rfl rfl
set_option maxRecDepth 100000 in
theorem q_700 : Cond.methodLink R_Mdl 61 y_Mdl_next ∈ WS := WS_at 700 rfl rfl
set_option maxRecDepth 100000 in
theorem q_702 : Cond.instanceMethod y_Mdl_next ∈ WS := WS_at 702 rfl rfl
set_option maxRecDepth 100000 in
theorem q_703 : Cond.code y_Mdl_next b_Mdl_next 2 (some .int) ∈ WS := WS_at 703 rfl rfl
set_option maxRecDepth 100000 in
theorem q_704 : Cond.methodLink R_Mdl 200 y_Mdl_arithmetic ∈ WS := WS_at 704 rfl rfl
set_option maxRecDepth 100000 in
theorem q_706 : Cond.instanceMethod y_Mdl_arithmetic ∈ WS := WS_at 706 rfl rfl
set_option maxRecDepth 100000 in
theorem q_707 : Cond.code y_Mdl_arithmetic b_Mdl_arithmetic 8 (some .boolean) ∈ WS := WS_at 707 rfl rfl
set_option maxRecDepth 100000 in
theorem q_708 : Cond.methodLink R_Mdl 123 y_Mdl_find ∈ WS := WS_at 708 rfl rfl
set_option maxRecDepth 100000 in
theorem q_710 : Cond.instanceMethod y_Mdl_find ∈ WS := WS_at 710 rfl rfl
set_option maxRecDepth 100000 in
theorem q_711 : Cond.code y_Mdl_find b_Mdl_find 4 (some .boolean) ∈ WS := WS_at 711 rfl rfl
set_option maxRecDepth 100000 in
theorem q_712 : Cond.methodLink R_Mdl 99 y_Mdl_direct ∈ WS := WS_at 712 rfl rfl
set_option maxRecDepth 100000 in
theorem q_714 : Cond.instanceMethod y_Mdl_direct ∈ WS := WS_at 714 rfl rfl
set_option maxRecDepth 100000 in
theorem q_715 : Cond.code y_Mdl_direct b_Mdl_direct 2 none ∈ WS := WS_at 715 rfl rfl
set_option maxRecDepth 100000 in
theorem q_716 : Cond.methodLink R_Mdl 64 y_Mdl_nextWord ∈ WS := WS_at 716 rfl rfl
set_option maxRecDepth 100000 in
theorem q_718 : Cond.instanceMethod y_Mdl_nextWord ∈ WS := WS_at 718 rfl rfl
set_option maxRecDepth 100000 in
theorem q_719 : Cond.code y_Mdl_nextWord b_Mdl_nextWord 2 (some .int) ∈ WS := WS_at 719 rfl rfl
set_option maxRecDepth 100000 in
theorem q_720 : Cond.methodLink R_Mdl 105 y_Mdl_far ∈ WS := WS_at 720 rfl rfl
set_option maxRecDepth 100000 in
theorem q_722 : Cond.instanceMethod y_Mdl_far ∈ WS := WS_at 722 rfl rfl
set_option maxRecDepth 100000 in
theorem q_723 : Cond.code y_Mdl_far b_Mdl_far 2 none ∈ WS := WS_at 723 rfl rfl
set_option maxRecDepth 100000 in
theorem q_724 : Cond.methodLink R_Mdl 108 y_Mdl_nextLong ∈ WS := WS_at 724 rfl rfl
set_option maxRecDepth 100000 in
theorem q_726 : Cond.instanceMethod y_Mdl_nextLong ∈ WS := WS_at 726 rfl rfl
set_option maxRecDepth 100000 in
theorem q_727 : Cond.code y_Mdl_nextLong b_Mdl_nextLong 2 (some .int) ∈ WS := WS_at 727 rfl rfl
set_option maxRecDepth 100000 in
theorem q_728 : Cond.methodLink R_Mdl 114 y_Mdl_accumulator ∈ WS := WS_at 728 rfl rfl
set_option maxRecDepth 100000 in
theorem q_730 : Cond.instanceMethod y_Mdl_accumulator ∈ WS := WS_at 730 rfl rfl
set_option maxRecDepth 100000 in
theorem q_731 : Cond.code y_Mdl_accumulator b_Mdl_accumulator 1 (some .int) ∈ WS := WS_at 731 rfl rfl
set_option maxRecDepth 100000 in
theorem q_732 : Cond.methodLink R_Mdl 126 y_Mdl_store ∈ WS := WS_at 732 rfl rfl
set_option maxRecDepth 100000 in
theorem q_734 : Cond.instanceMethod y_Mdl_store ∈ WS := WS_at 734 rfl rfl
set_option maxRecDepth 100000 in
theorem q_735 : Cond.code y_Mdl_store b_Mdl_store 3 none ∈ WS := WS_at 735 rfl rfl
set_option maxRecDepth 100000 in
theorem q_736 : Cond.methodLink R_Mdl 129 y_Mdl_immediate ∈ WS := WS_at 736 rfl rfl
set_option maxRecDepth 100000 in
theorem q_738 : Cond.instanceMethod y_Mdl_immediate ∈ WS := WS_at 738 rfl rfl
set_option maxRecDepth 100000 in
theorem q_739 : Cond.code y_Mdl_immediate b_Mdl_immediate 2 (some .int) ∈ WS := WS_at 739 rfl rfl
set_option maxRecDepth 100000 in
theorem q_740 : Cond.methodLink R_Mdl 133 y_Mdl_load ∈ WS := WS_at 740 rfl rfl
set_option maxRecDepth 100000 in
theorem q_742 : Cond.instanceMethod y_Mdl_load ∈ WS := WS_at 742 rfl rfl
set_option maxRecDepth 100000 in
theorem q_743 : Cond.code y_Mdl_load b_Mdl_load 2 (some .int) ∈ WS := WS_at 743 rfl rfl
set_option maxRecDepth 100000 in
theorem q_744 : Cond.methodLink R_Mdl 136 y_Mdl_add ∈ WS := WS_at 744 rfl rfl
set_option maxRecDepth 100000 in
theorem q_746 : Cond.instanceMethod y_Mdl_add ∈ WS := WS_at 746 rfl rfl
set_option maxRecDepth 100000 in
theorem q_747 : Cond.code y_Mdl_add b_Mdl_add 6 none ∈ WS := WS_at 747 rfl rfl
set_option maxRecDepth 100000 in
theorem q_748 : Cond.constant R_Mdl 78 32768 ∈ WS := WS_at 748 rfl rfl
set_option maxRecDepth 100000 in
theorem q_749 : Cond.methodLink R_Mdl 117 y_Mdl_result ∈ WS := WS_at 749 rfl rfl
set_option maxRecDepth 100000 in
theorem q_751 : Cond.instanceMethod y_Mdl_result ∈ WS := WS_at 751 rfl rfl
set_option maxRecDepth 100000 in
theorem q_752 : Cond.code y_Mdl_result b_Mdl_result 4 (some .int) ∈ WS := WS_at 752 rfl rfl
set_option maxRecDepth 100000 in
theorem q_753 : Cond.methodLink R_Mdl 120 y_Mdl_setAccumulator ∈ WS := WS_at 753 rfl rfl
set_option maxRecDepth 100000 in
theorem q_755 : Cond.instanceMethod y_Mdl_setAccumulator ∈ WS := WS_at 755 rfl rfl
set_option maxRecDepth 100000 in
theorem q_756 : Cond.code y_Mdl_setAccumulator b_Mdl_setAccumulator 2 none ∈ WS := WS_at 756 rfl rfl
set_option maxRecDepth 100000 in
theorem q_757 : Cond.constant R_Mdl 74 65280 ∈ WS := WS_at 757 rfl rfl
set_option maxRecDepth 100000 in
theorem q_758 : Cond.methodLink R_Mdl 139 y_Mdl_compare ∈ WS := WS_at 758 rfl rfl
set_option maxRecDepth 100000 in
theorem q_760 : Cond.instanceMethod y_Mdl_compare ∈ WS := WS_at 760 rfl rfl
set_option maxRecDepth 100000 in
theorem q_761 : Cond.code y_Mdl_compare b_Mdl_compare 5 none ∈ WS := WS_at 761 rfl rfl
set_option maxRecDepth 100000 in
theorem q_762 : Cond.methodLink R_Mdl 203 y_Mdl_change ∈ WS := WS_at 762 rfl rfl
set_option maxRecDepth 100000 in
theorem q_764 : Cond.instanceMethod y_Mdl_change ∈ WS := WS_at 764 rfl rfl
set_option maxRecDepth 100000 in
theorem q_765 : Cond.code y_Mdl_change b_Mdl_change 2 (some .boolean) ∈ WS := WS_at 765 rfl rfl
set_option maxRecDepth 100000 in
theorem q_766 : Cond.methodLink R_Mdl 147 y_Mdl_changeMemory ∈ WS := WS_at 766 rfl rfl
set_option maxRecDepth 100000 in
theorem q_768 : Cond.instanceMethod y_Mdl_changeMemory ∈ WS := WS_at 768 rfl rfl
set_option maxRecDepth 100000 in
theorem q_769 : Cond.code y_Mdl_changeMemory b_Mdl_changeMemory 4 none ∈ WS := WS_at 769 rfl rfl
set_option maxRecDepth 100000 in
theorem q_770 : Cond.methodLink R_Mdl 143 y_Mdl_changed ∈ WS := WS_at 770 rfl rfl
set_option maxRecDepth 100000 in
theorem q_772 : Cond.instanceMethod y_Mdl_changed ∈ WS := WS_at 772 rfl rfl
set_option maxRecDepth 100000 in
theorem q_773 : Cond.code y_Mdl_changed b_Mdl_changed 6 (some .int) ∈ WS := WS_at 773 rfl rfl
set_option maxRecDepth 100000 in
theorem q_774 : Cond.methodLink R_Mdl 206 y_Mdl_index ∈ WS := WS_at 774 rfl rfl
set_option maxRecDepth 100000 in
theorem q_776 : Cond.instanceMethod y_Mdl_index ∈ WS := WS_at 776 rfl rfl
set_option maxRecDepth 100000 in
theorem q_777 : Cond.code y_Mdl_index b_Mdl_index 3 (some .boolean) ∈ WS := WS_at 777 rfl rfl
set_option maxRecDepth 100000 in
theorem q_778 : Cond.methodLink R_Mdl 154 y_Mdl_indexOperand ∈ WS := WS_at 778 rfl rfl
set_option maxRecDepth 100000 in
theorem q_780 : Cond.instanceMethod y_Mdl_indexOperand ∈ WS := WS_at 780 rfl rfl
set_option maxRecDepth 100000 in
theorem q_781 : Cond.code y_Mdl_indexOperand b_Mdl_indexOperand 2 (some .int) ∈ WS := WS_at 781 rfl rfl
set_option maxRecDepth 100000 in
theorem q_782 : Cond.methodLink R_Mdl 150 y_Mdl_findIndex ∈ WS := WS_at 782 rfl rfl
set_option maxRecDepth 100000 in
theorem q_784 : Cond.instanceMethod y_Mdl_findIndex ∈ WS := WS_at 784 rfl rfl
set_option maxRecDepth 100000 in
theorem q_785 : Cond.code y_Mdl_findIndex b_Mdl_findIndex 2 none ∈ WS := WS_at 785 rfl rfl
set_option maxRecDepth 100000 in
theorem q_786 : Cond.methodLink R_Mdl 157 y_Mdl_storeAt ∈ WS := WS_at 786 rfl rfl
set_option maxRecDepth 100000 in
theorem q_788 : Cond.instanceMethod y_Mdl_storeAt ∈ WS := WS_at 788 rfl rfl
set_option maxRecDepth 100000 in
theorem q_789 : Cond.code y_Mdl_storeAt b_Mdl_storeAt 4 none ∈ WS := WS_at 789 rfl rfl
set_option maxRecDepth 100000 in
theorem q_790 : Cond.methodLink R_Mdl 209 y_Mdl_transfer ∈ WS := WS_at 790 rfl rfl
set_option maxRecDepth 100000 in
theorem q_792 : Cond.instanceMethod y_Mdl_transfer ∈ WS := WS_at 792 rfl rfl
set_option maxRecDepth 100000 in
theorem q_793 : Cond.code y_Mdl_transfer b_Mdl_transfer 4 (some .boolean) ∈ WS := WS_at 793 rfl rfl
set_option maxRecDepth 100000 in
theorem q_794 : Cond.methodLink R_Mdl 212 y_Mdl_stack ∈ WS := WS_at 794 rfl rfl
set_option maxRecDepth 100000 in
theorem q_796 : Cond.instanceMethod y_Mdl_stack ∈ WS := WS_at 796 rfl rfl
set_option maxRecDepth 100000 in
theorem q_797 : Cond.code y_Mdl_stack b_Mdl_stack 2 (some .boolean) ∈ WS := WS_at 797 rfl rfl
set_option maxRecDepth 100000 in
theorem q_798 : Cond.methodLink R_Mdl 167 y_Mdl_pushOf ∈ WS := WS_at 798 rfl rfl
set_option maxRecDepth 100000 in
theorem q_800 : Cond.instanceMethod y_Mdl_pushOf ∈ WS := WS_at 800 rfl rfl
set_option maxRecDepth 100000 in
theorem q_801 : Cond.code y_Mdl_pushOf b_Mdl_pushOf 3 none ∈ WS := WS_at 801 rfl rfl
set_option maxRecDepth 100000 in
theorem q_802 : Cond.methodLink R_Mdl 170 y_Mdl_pullOf ∈ WS := WS_at 802 rfl rfl
set_option maxRecDepth 100000 in
theorem q_804 : Cond.instanceMethod y_Mdl_pullOf ∈ WS := WS_at 804 rfl rfl
set_option maxRecDepth 100000 in
theorem q_805 : Cond.code y_Mdl_pullOf b_Mdl_pullOf 2 (some .int) ∈ WS := WS_at 805 rfl rfl
set_option maxRecDepth 100000 in
theorem q_806 : Cond.methodLink R_Mdl 51 y_Mdl_pull ∈ WS := WS_at 806 rfl rfl
set_option maxRecDepth 100000 in
theorem q_808 : Cond.instanceMethod y_Mdl_pull ∈ WS := WS_at 808 rfl rfl
set_option maxRecDepth 100000 in
theorem q_809 : Cond.code y_Mdl_pull b_Mdl_pull 1 (some .int) ∈ WS := WS_at 809 rfl rfl
set_option maxRecDepth 100000 in
theorem q_810 : Cond.methodLink R_Mdl 164 y_Mdl_pullWord ∈ WS := WS_at 810 rfl rfl
set_option maxRecDepth 100000 in
theorem q_812 : Cond.instanceMethod y_Mdl_pullWord ∈ WS := WS_at 812 rfl rfl
set_option maxRecDepth 100000 in
theorem q_813 : Cond.code y_Mdl_pullWord b_Mdl_pullWord 2 (some .int) ∈ WS := WS_at 813 rfl rfl
set_option maxRecDepth 100000 in
theorem q_814 : Cond.methodLink R_Mdl 215 y_Mdl_jump ∈ WS := WS_at 814 rfl rfl
set_option maxRecDepth 100000 in
theorem q_816 : Cond.instanceMethod y_Mdl_jump ∈ WS := WS_at 816 rfl rfl
set_option maxRecDepth 100000 in
theorem q_817 : Cond.code y_Mdl_jump b_Mdl_jump 3 (some .boolean) ∈ WS := WS_at 817 rfl rfl
set_option maxRecDepth 100000 in
theorem q_818 : Cond.methodLink R_Mdl 176 y_Mdl_branch ∈ WS := WS_at 818 rfl rfl
set_option maxRecDepth 100000 in
theorem q_820 : Cond.instanceMethod y_Mdl_branch ∈ WS := WS_at 820 rfl rfl
set_option maxRecDepth 100000 in
theorem q_821 : Cond.code y_Mdl_branch b_Mdl_branch 3 none ∈ WS := WS_at 821 rfl rfl
set_option maxRecDepth 100000 in
theorem q_822 : Cond.methodLink R_Mdl 179 y_Mdl_call ∈ WS := WS_at 822 rfl rfl
set_option maxRecDepth 100000 in
theorem q_824 : Cond.instanceMethod y_Mdl_call ∈ WS := WS_at 824 rfl rfl
set_option maxRecDepth 100000 in
theorem q_825 : Cond.code y_Mdl_call b_Mdl_call 2 none ∈ WS := WS_at 825 rfl rfl
set_option maxRecDepth 100000 in
theorem q_826 : Cond.methodLink R_Mdl 182 y_Mdl_longJump ∈ WS := WS_at 826 rfl rfl
set_option maxRecDepth 100000 in
theorem q_828 : Cond.instanceMethod y_Mdl_longJump ∈ WS := WS_at 828 rfl rfl
set_option maxRecDepth 100000 in
theorem q_829 : Cond.code y_Mdl_longJump b_Mdl_longJump 3 (some .boolean) ∈ WS := WS_at 829 rfl rfl
set_option maxRecDepth 100000 in
theorem q_830 : Cond.methodLink R_Mdl 218 y_Mdl_other ∈ WS := WS_at 830 rfl rfl
set_option maxRecDepth 100000 in
theorem q_832 : Cond.instanceMethod y_Mdl_other ∈ WS := WS_at 832 rfl rfl
set_option maxRecDepth 100000 in
theorem q_833 : Cond.code y_Mdl_other b_Mdl_other 2 (some .boolean) ∈ WS := WS_at 833 rfl rfl
set_option maxRecDepth 100000 in
theorem q_834 : Cond.methodLink R_Mdl 188 y_Mdl_moveBlock ∈ WS := WS_at 834 rfl rfl
set_option maxRecDepth 100000 in
theorem q_836 : Cond.instanceMethod y_Mdl_moveBlock ∈ WS := WS_at 836 rfl rfl
set_option maxRecDepth 100000 in
theorem q_837 : Cond.code y_Mdl_moveBlock b_Mdl_moveBlock 6 none ∈ WS := WS_at 837 rfl rfl
set_option maxRecDepth 100000 in
theorem q_839 : Cond.instanceMethod y_Mdl_stopped ∈ WS := WS_at 839 rfl rfl
set_option maxRecDepth 100000 in
theorem q_840 : Cond.selects R_Mdl y_Mdl_stopped y_Mdl_stopped ∈ WS := WS_at 840 rfl rfl
set_option maxRecDepth 100000 in
theorem q_841 : Cond.code y_Mdl_stopped b_Mdl_stopped 1 (some .boolean) ∈ WS := WS_at 841 rfl rfl
set_option maxRecDepth 100000 in
theorem q_843 : Cond.instanceMethod y_Mdl_interrupt ∈ WS := WS_at 843 rfl rfl
set_option maxRecDepth 100000 in
theorem q_844 : Cond.selects R_Mdl y_Mdl_interrupt y_Mdl_interrupt ∈ WS := WS_at 844 rfl rfl
set_option maxRecDepth 100000 in
theorem q_845 : Cond.code y_Mdl_interrupt b_Mdl_interrupt 2 (some .boolean) ∈ WS := WS_at 845 rfl rfl
set_option maxRecDepth 100000 in
theorem q_847 : Cond.instanceMethod y_Mdl_line ∈ WS := WS_at 847 rfl rfl
set_option maxRecDepth 100000 in
theorem q_848 : Cond.selects R_Mdl y_Mdl_line y_Mdl_line ∈ WS := WS_at 848 rfl rfl
set_option maxRecDepth 100000 in
theorem q_849 : Cond.code y_Mdl_line b_Mdl_line 2 none ∈ WS := WS_at 849 rfl rfl
set_option maxRecDepth 100000 in
theorem q_851 : Cond.instanceMethod y_Mdl_touches ∈ WS := WS_at 851 rfl rfl
set_option maxRecDepth 100000 in
theorem q_852 : Cond.selects R_Mdl y_Mdl_touches y_Mdl_touches ∈ WS := WS_at 852 rfl rfl
set_option maxRecDepth 100000 in
theorem q_853 : Cond.code y_Mdl_touches b_Mdl_touches 1 (some .int) ∈ WS := WS_at 853 rfl rfl
set_option maxRecDepth 100000 in
theorem q_855 : Cond.instanceMethod y_Mdl_touched ∈ WS := WS_at 855 rfl rfl
set_option maxRecDepth 100000 in
theorem q_856 : Cond.selects R_Mdl y_Mdl_touched y_Mdl_touched ∈ WS := WS_at 856 rfl rfl
set_option maxRecDepth 100000 in
theorem q_857 : Cond.code y_Mdl_touched b_Mdl_touched 2 (some .int) ∈ WS := WS_at 857 rfl rfl
set_option maxRecDepth 100000 in
theorem q_859 : Cond.instanceMethod y_Mdl_steps ∈ WS := WS_at 859 rfl rfl
set_option maxRecDepth 100000 in
theorem q_860 : Cond.selects R_Mdl y_Mdl_steps y_Mdl_steps ∈ WS := WS_at 860 rfl rfl
set_option maxRecDepth 100000 in
theorem q_861 : Cond.code y_Mdl_steps b_Mdl_steps 1 (some .int) ∈ WS := WS_at 861 rfl rfl
end
section
theorem d_Bus_init_0 : decode b_Bus_init 0 = .ok (.aload_n 0, 1) := by decide +kernel
theorem d_Bus_init_1 : decode b_Bus_init 1 = .ok (.invokespecial 1, 3) := by decide +kernel
theorem d_Bus_init_4 : decode b_Bus_init 4 = .ok (.aload_n 0, 1) := by decide +kernel
theorem d_Bus_init_5 : decode b_Bus_init 5 = .ok (.sipush 1024, 3) := by decide +kernel
theorem d_Bus_init_8 : decode b_Bus_init 8 = .ok (.newarray .byte, 2) := by decide +kernel
theorem d_Bus_init_10 : decode b_Bus_init 10 = .ok (.putfield 9, 3) := by decide +kernel
theorem d_Bus_init_13 : decode b_Bus_init 13 = .ok (.aload_n 0, 1) := by decide +kernel
theorem d_Bus_init_14 : decode b_Bus_init 14 = .ok (.bipush 8, 2) := by decide +kernel
theorem d_Bus_init_16 : decode b_Bus_init 16 = .ok (.newarray .int, 2) := by decide +kernel
theorem d_Bus_init_18 : decode b_Bus_init 18 = .ok (.putfield 13, 3) := by decide +kernel
theorem d_Bus_init_21 : decode b_Bus_init 21 = .ok (.return_, 1) := by decide +kernel
theorem d_Bus_longPlace_0 : decode b_Bus_longPlace 0 = .ok (.iload_n 0, 1) := by decide +kernel
theorem d_Bus_longPlace_1 : decode b_Bus_longPlace 1 = .ok (.ldc 17, 2) := by decide +kernel
theorem d_Bus_longPlace_3 : decode b_Bus_longPlace 3 = .ok (.iand, 1) := by decide +kernel
theorem d_Bus_longPlace_4 : decode b_Bus_longPlace 4 = .ok (.ireturn, 1) := by decide +kernel
theorem d_Bus_bank0Place_0 : decode b_Bus_bank0Place 0 = .ok (.ldc 18, 2) := by decide +kernel
theorem d_Bus_bank0Place_2 : decode b_Bus_bank0Place 2 = .ok (.iload_n 0, 1) := by decide +kernel
theorem d_Bus_bank0Place_3 : decode b_Bus_bank0Place 3 = .ok (.ldc 19, 2) := by decide +kernel
theorem d_Bus_bank0Place_5 : decode b_Bus_bank0Place 5 = .ok (.iand, 1) := by decide +kernel
theorem d_Bus_bank0Place_6 : decode b_Bus_bank0Place 6 = .ok (.ior, 1) := by decide +kernel
theorem d_Bus_bank0Place_7 : decode b_Bus_bank0Place 7 = .ok (.ireturn, 1) := by decide +kernel
theorem d_Bus_placeAfter_0 : decode b_Bus_placeAfter 0 = .ok (.iload_n 0, 1) := by decide +kernel
theorem d_Bus_placeAfter_1 : decode b_Bus_placeAfter 1 = .ok (.ldc 18, 2) := by decide +kernel
theorem d_Bus_placeAfter_3 : decode b_Bus_placeAfter 3 = .ok (.iand, 1) := by decide +kernel
theorem d_Bus_placeAfter_4 : decode b_Bus_placeAfter 4 = .ok (.ifCond .eq 12, 3) := by decide +kernel
theorem d_Bus_placeAfter_7 : decode b_Bus_placeAfter 7 = .ok (.iload_n 0, 1) := by decide +kernel
theorem d_Bus_placeAfter_8 : decode b_Bus_placeAfter 8 = .ok (.iconst 1, 1) := by decide +kernel
theorem d_Bus_placeAfter_9 : decode b_Bus_placeAfter 9 = .ok (.iadd, 1) := by decide +kernel
theorem d_Bus_placeAfter_10 : decode b_Bus_placeAfter 10 = .ok (.invokestatic 20, 3) := by decide +kernel
theorem d_Bus_placeAfter_13 : decode b_Bus_placeAfter 13 = .ok (.goto 9, 3) := by decide +kernel
theorem d_Bus_placeAfter_16 : decode b_Bus_placeAfter 16 = .ok (.iload_n 0, 1) := by decide +kernel
theorem d_Bus_placeAfter_17 : decode b_Bus_placeAfter 17 = .ok (.iconst 1, 1) := by decide +kernel
theorem d_Bus_placeAfter_18 : decode b_Bus_placeAfter 18 = .ok (.iadd, 1) := by decide +kernel
theorem d_Bus_placeAfter_19 : decode b_Bus_placeAfter 19 = .ok (.invokestatic 24, 3) := by decide +kernel
theorem d_Bus_placeAfter_22 : decode b_Bus_placeAfter 22 = .ok (.ireturn, 1) := by decide +kernel
theorem d_Bus_cellOf_0 : decode b_Bus_cellOf 0 = .ok (.iload_n 0, 1) := by decide +kernel
theorem d_Bus_cellOf_1 : decode b_Bus_cellOf 1 = .ok (.bipush 7, 2) := by decide +kernel
theorem d_Bus_cellOf_3 : decode b_Bus_cellOf 3 = .ok (.ishr, 1) := by decide +kernel
theorem d_Bus_cellOf_4 : decode b_Bus_cellOf 4 = .ok (.sipush 512, 3) := by decide +kernel
theorem d_Bus_cellOf_7 : decode b_Bus_cellOf 7 = .ok (.iand, 1) := by decide +kernel
theorem d_Bus_cellOf_8 : decode b_Bus_cellOf 8 = .ok (.iload_n 0, 1) := by decide +kernel
theorem d_Bus_cellOf_9 : decode b_Bus_cellOf 9 = .ok (.sipush 511, 3) := by decide +kernel
theorem d_Bus_cellOf_12 : decode b_Bus_cellOf 12 = .ok (.iand, 1) := by decide +kernel
theorem d_Bus_cellOf_13 : decode b_Bus_cellOf 13 = .ok (.ior, 1) := by decide +kernel
theorem d_Bus_cellOf_14 : decode b_Bus_cellOf 14 = .ok (.ireturn, 1) := by decide +kernel
theorem d_Bus_programByte_0 : decode b_Bus_programByte 0 = .ok (.aload_n 0, 1) := by decide +kernel
theorem d_Bus_programByte_1 : decode b_Bus_programByte 1 = .ok (.getfield 9, 3) := by decide +kernel
theorem d_Bus_programByte_4 : decode b_Bus_programByte 4 = .ok (.sipush 512, 3) := by decide +kernel
theorem d_Bus_programByte_7 : decode b_Bus_programByte 7 = .ok (.iload_n 1, 1) := by decide +kernel
theorem d_Bus_programByte_8 : decode b_Bus_programByte 8 = .ok (.iconst 1, 1) := by decide +kernel
theorem d_Bus_programByte_9 : decode b_Bus_programByte 9 = .ok (.iand, 1) := by decide +kernel
theorem d_Bus_programByte_10 : decode b_Bus_programByte 10 = .ok (.imul, 1) := by decide +kernel
theorem d_Bus_programByte_11 : decode b_Bus_programByte 11 = .ok (.iload_n 2, 1) := by decide +kernel
theorem d_Bus_programByte_12 : decode b_Bus_programByte 12 = .ok (.sipush 511, 3) := by decide +kernel
theorem d_Bus_programByte_15 : decode b_Bus_programByte 15 = .ok (.iand, 1) := by decide +kernel
theorem d_Bus_programByte_16 : decode b_Bus_programByte 16 = .ok (.iadd, 1) := by decide +kernel
theorem d_Bus_programByte_17 : decode b_Bus_programByte 17 = .ok (.baload, 1) := by decide +kernel
theorem d_Bus_programByte_18 : decode b_Bus_programByte 18 = .ok (.sipush 255, 3) := by decide +kernel
theorem d_Bus_programByte_21 : decode b_Bus_programByte 21 = .ok (.iand, 1) := by decide +kernel
theorem d_Bus_programByte_22 : decode b_Bus_programByte 22 = .ok (.ireturn, 1) := by decide +kernel
theorem d_Bus_readByte_0 : decode b_Bus_readByte 0 = .ok (.iload_n 1, 1) := by decide +kernel
theorem d_Bus_readByte_1 : decode b_Bus_readByte 1 = .ok (.invokestatic 27, 3) := by decide +kernel
theorem d_Bus_readByte_4 : decode b_Bus_readByte 4 = .ok (.istore_n 2, 1) := by decide +kernel
theorem d_Bus_readByte_5 : decode b_Bus_readByte 5 = .ok (.aload_n 0, 1) := by decide +kernel
theorem d_Bus_readByte_6 : decode b_Bus_readByte 6 = .ok (.getfield 13, 3) := by decide +kernel
theorem d_Bus_readByte_9 : decode b_Bus_readByte 9 = .ok (.aload_n 0, 1) := by decide +kernel
theorem d_Bus_readByte_10 : decode b_Bus_readByte 10 = .ok (.getfield 30, 3) := by decide +kernel
theorem d_Bus_readByte_13 : decode b_Bus_readByte 13 = .ok (.bipush 7, 2) := by decide +kernel
theorem d_Bus_readByte_15 : decode b_Bus_readByte 15 = .ok (.iand, 1) := by decide +kernel
theorem d_Bus_readByte_16 : decode b_Bus_readByte 16 = .ok (.iload_n 2, 1) := by decide +kernel
theorem d_Bus_readByte_17 : decode b_Bus_readByte 17 = .ok (.iastore, 1) := by decide +kernel
theorem d_Bus_readByte_18 : decode b_Bus_readByte 18 = .ok (.aload_n 0, 1) := by decide +kernel
theorem d_Bus_readByte_19 : decode b_Bus_readByte 19 = .ok (.dup, 1) := by decide +kernel
theorem d_Bus_readByte_20 : decode b_Bus_readByte 20 = .ok (.getfield 30, 3) := by decide +kernel
theorem d_Bus_readByte_23 : decode b_Bus_readByte 23 = .ok (.iconst 1, 1) := by decide +kernel
theorem d_Bus_readByte_24 : decode b_Bus_readByte 24 = .ok (.iadd, 1) := by decide +kernel
theorem d_Bus_readByte_25 : decode b_Bus_readByte 25 = .ok (.putfield 30, 3) := by decide +kernel
theorem d_Bus_readByte_28 : decode b_Bus_readByte 28 = .ok (.aload_n 0, 1) := by decide +kernel
theorem d_Bus_readByte_29 : decode b_Bus_readByte 29 = .ok (.getfield 9, 3) := by decide +kernel
theorem d_Bus_readByte_32 : decode b_Bus_readByte 32 = .ok (.iload_n 2, 1) := by decide +kernel
theorem d_Bus_readByte_33 : decode b_Bus_readByte 33 = .ok (.baload, 1) := by decide +kernel
theorem d_Bus_readByte_34 : decode b_Bus_readByte 34 = .ok (.sipush 255, 3) := by decide +kernel
theorem d_Bus_readByte_37 : decode b_Bus_readByte 37 = .ok (.iand, 1) := by decide +kernel
theorem d_Bus_readByte_38 : decode b_Bus_readByte 38 = .ok (.ireturn, 1) := by decide +kernel
theorem d_Bus_writeByte_0 : decode b_Bus_writeByte 0 = .ok (.iload_n 1, 1) := by decide +kernel
theorem d_Bus_writeByte_1 : decode b_Bus_writeByte 1 = .ok (.invokestatic 27, 3) := by decide +kernel
theorem d_Bus_writeByte_4 : decode b_Bus_writeByte 4 = .ok (.istore_n 3, 1) := by decide +kernel
theorem d_Bus_writeByte_5 : decode b_Bus_writeByte 5 = .ok (.aload_n 0, 1) := by decide +kernel
theorem d_Bus_writeByte_6 : decode b_Bus_writeByte 6 = .ok (.getfield 13, 3) := by decide +kernel
theorem d_Bus_writeByte_9 : decode b_Bus_writeByte 9 = .ok (.aload_n 0, 1) := by decide +kernel
theorem d_Bus_writeByte_10 : decode b_Bus_writeByte 10 = .ok (.getfield 30, 3) := by decide +kernel
theorem d_Bus_writeByte_13 : decode b_Bus_writeByte 13 = .ok (.bipush 7, 2) := by decide +kernel
theorem d_Bus_writeByte_15 : decode b_Bus_writeByte 15 = .ok (.iand, 1) := by decide +kernel
theorem d_Bus_writeByte_16 : decode b_Bus_writeByte 16 = .ok (.iload_n 3, 1) := by decide +kernel
theorem d_Bus_writeByte_17 : decode b_Bus_writeByte 17 = .ok (.sipush 1024, 3) := by decide +kernel
theorem d_Bus_writeByte_20 : decode b_Bus_writeByte 20 = .ok (.iadd, 1) := by decide +kernel
theorem d_Bus_writeByte_21 : decode b_Bus_writeByte 21 = .ok (.iastore, 1) := by decide +kernel
theorem d_Bus_writeByte_22 : decode b_Bus_writeByte 22 = .ok (.aload_n 0, 1) := by decide +kernel
theorem d_Bus_writeByte_23 : decode b_Bus_writeByte 23 = .ok (.dup, 1) := by decide +kernel
theorem d_Bus_writeByte_24 : decode b_Bus_writeByte 24 = .ok (.getfield 30, 3) := by decide +kernel
theorem d_Bus_writeByte_27 : decode b_Bus_writeByte 27 = .ok (.iconst 1, 1) := by decide +kernel
theorem d_Bus_writeByte_28 : decode b_Bus_writeByte 28 = .ok (.iadd, 1) := by decide +kernel
theorem d_Bus_writeByte_29 : decode b_Bus_writeByte 29 = .ok (.putfield 30, 3) := by decide +kernel
theorem d_Bus_writeByte_32 : decode b_Bus_writeByte 32 = .ok (.aload_n 0, 1) := by decide +kernel
theorem d_Bus_writeByte_33 : decode b_Bus_writeByte 33 = .ok (.getfield 9, 3) := by decide +kernel
theorem d_Bus_writeByte_36 : decode b_Bus_writeByte 36 = .ok (.iload_n 3, 1) := by decide +kernel
theorem d_Bus_writeByte_37 : decode b_Bus_writeByte 37 = .ok (.iload_n 2, 1) := by decide +kernel
theorem d_Bus_writeByte_38 : decode b_Bus_writeByte 38 = .ok (.i2b, 1) := by decide +kernel
theorem d_Bus_writeByte_39 : decode b_Bus_writeByte 39 = .ok (.bastore, 1) := by decide +kernel
theorem d_Bus_writeByte_40 : decode b_Bus_writeByte 40 = .ok (.return_, 1) := by decide +kernel
theorem d_Bus_readWord_0 : decode b_Bus_readWord 0 = .ok (.aload_n 0, 1) := by decide +kernel
theorem d_Bus_readWord_1 : decode b_Bus_readWord 1 = .ok (.iload_n 1, 1) := by decide +kernel
theorem d_Bus_readWord_2 : decode b_Bus_readWord 2 = .ok (.invokevirtual 34, 3) := by decide +kernel
theorem d_Bus_readWord_5 : decode b_Bus_readWord 5 = .ok (.istore_n 2, 1) := by decide +kernel
theorem d_Bus_readWord_6 : decode b_Bus_readWord 6 = .ok (.iload_n 2, 1) := by decide +kernel
theorem d_Bus_readWord_7 : decode b_Bus_readWord 7 = .ok (.aload_n 0, 1) := by decide +kernel
theorem d_Bus_readWord_8 : decode b_Bus_readWord 8 = .ok (.iload_n 1, 1) := by decide +kernel
theorem d_Bus_readWord_9 : decode b_Bus_readWord 9 = .ok (.invokestatic 37, 3) := by decide +kernel
theorem d_Bus_readWord_12 : decode b_Bus_readWord 12 = .ok (.invokevirtual 34, 3) := by decide +kernel
theorem d_Bus_readWord_15 : decode b_Bus_readWord 15 = .ok (.bipush 8, 2) := by decide +kernel
theorem d_Bus_readWord_17 : decode b_Bus_readWord 17 = .ok (.ishl, 1) := by decide +kernel
theorem d_Bus_readWord_18 : decode b_Bus_readWord 18 = .ok (.ior, 1) := by decide +kernel
theorem d_Bus_readWord_19 : decode b_Bus_readWord 19 = .ok (.ireturn, 1) := by decide +kernel
theorem d_Bus_readLong_0 : decode b_Bus_readLong 0 = .ok (.iload_n 1, 1) := by decide +kernel
theorem d_Bus_readLong_1 : decode b_Bus_readLong 1 = .ok (.invokestatic 37, 3) := by decide +kernel
theorem d_Bus_readLong_4 : decode b_Bus_readLong 4 = .ok (.istore_n 2, 1) := by decide +kernel
theorem d_Bus_readLong_5 : decode b_Bus_readLong 5 = .ok (.aload_n 0, 1) := by decide +kernel
theorem d_Bus_readLong_6 : decode b_Bus_readLong 6 = .ok (.iload_n 1, 1) := by decide +kernel
theorem d_Bus_readLong_7 : decode b_Bus_readLong 7 = .ok (.invokevirtual 34, 3) := by decide +kernel
theorem d_Bus_readLong_10 : decode b_Bus_readLong 10 = .ok (.istore_n 3, 1) := by decide +kernel
theorem d_Bus_readLong_11 : decode b_Bus_readLong 11 = .ok (.aload_n 0, 1) := by decide +kernel
theorem d_Bus_readLong_12 : decode b_Bus_readLong 12 = .ok (.iload_n 2, 1) := by decide +kernel
theorem d_Bus_readLong_13 : decode b_Bus_readLong 13 = .ok (.invokevirtual 34, 3) := by decide +kernel
theorem d_Bus_readLong_16 : decode b_Bus_readLong 16 = .ok (.istore 4, 2) := by decide +kernel
theorem d_Bus_readLong_18 : decode b_Bus_readLong 18 = .ok (.iload_n 3, 1) := by decide +kernel
theorem d_Bus_readLong_19 : decode b_Bus_readLong 19 = .ok (.iload 4, 2) := by decide +kernel
theorem d_Bus_readLong_21 : decode b_Bus_readLong 21 = .ok (.bipush 8, 2) := by decide +kernel
theorem d_Bus_readLong_23 : decode b_Bus_readLong 23 = .ok (.ishl, 1) := by decide +kernel
theorem d_Bus_readLong_24 : decode b_Bus_readLong 24 = .ok (.ior, 1) := by decide +kernel
theorem d_Bus_readLong_25 : decode b_Bus_readLong 25 = .ok (.aload_n 0, 1) := by decide +kernel
theorem d_Bus_readLong_26 : decode b_Bus_readLong 26 = .ok (.iload_n 2, 1) := by decide +kernel
theorem d_Bus_readLong_27 : decode b_Bus_readLong 27 = .ok (.invokestatic 37, 3) := by decide +kernel
theorem d_Bus_readLong_30 : decode b_Bus_readLong 30 = .ok (.invokevirtual 34, 3) := by decide +kernel
theorem d_Bus_readLong_33 : decode b_Bus_readLong 33 = .ok (.bipush 16, 2) := by decide +kernel
theorem d_Bus_readLong_35 : decode b_Bus_readLong 35 = .ok (.ishl, 1) := by decide +kernel
theorem d_Bus_readLong_36 : decode b_Bus_readLong 36 = .ok (.ior, 1) := by decide +kernel
theorem d_Bus_readLong_37 : decode b_Bus_readLong 37 = .ok (.ireturn, 1) := by decide +kernel
theorem d_Bus_readValue_0 : decode b_Bus_readValue 0 = .ok (.iload_n 2, 1) := by decide +kernel
theorem d_Bus_readValue_1 : decode b_Bus_readValue 1 = .ok (.ifCond .eq 11, 3) := by decide +kernel
theorem d_Bus_readValue_4 : decode b_Bus_readValue 4 = .ok (.aload_n 0, 1) := by decide +kernel
theorem d_Bus_readValue_5 : decode b_Bus_readValue 5 = .ok (.iload_n 1, 1) := by decide +kernel
theorem d_Bus_readValue_6 : decode b_Bus_readValue 6 = .ok (.invokevirtual 40, 3) := by decide +kernel
theorem d_Bus_readValue_9 : decode b_Bus_readValue 9 = .ok (.goto 8, 3) := by decide +kernel
theorem d_Bus_readValue_12 : decode b_Bus_readValue 12 = .ok (.aload_n 0, 1) := by decide +kernel
theorem d_Bus_readValue_13 : decode b_Bus_readValue 13 = .ok (.iload_n 1, 1) := by decide +kernel
theorem d_Bus_readValue_14 : decode b_Bus_readValue 14 = .ok (.invokevirtual 34, 3) := by decide +kernel
theorem d_Bus_readValue_17 : decode b_Bus_readValue 17 = .ok (.ireturn, 1) := by decide +kernel
theorem d_Bus_writeValue_0 : decode b_Bus_writeValue 0 = .ok (.aload_n 0, 1) := by decide +kernel
theorem d_Bus_writeValue_1 : decode b_Bus_writeValue 1 = .ok (.iload_n 1, 1) := by decide +kernel
theorem d_Bus_writeValue_2 : decode b_Bus_writeValue 2 = .ok (.iload_n 2, 1) := by decide +kernel
theorem d_Bus_writeValue_3 : decode b_Bus_writeValue 3 = .ok (.invokevirtual 43, 3) := by decide +kernel
theorem d_Bus_writeValue_6 : decode b_Bus_writeValue 6 = .ok (.iload_n 3, 1) := by decide +kernel
theorem d_Bus_writeValue_7 : decode b_Bus_writeValue 7 = .ok (.ifCond .eq 15, 3) := by decide +kernel
theorem d_Bus_writeValue_10 : decode b_Bus_writeValue 10 = .ok (.aload_n 0, 1) := by decide +kernel
theorem d_Bus_writeValue_11 : decode b_Bus_writeValue 11 = .ok (.iload_n 1, 1) := by decide +kernel
theorem d_Bus_writeValue_12 : decode b_Bus_writeValue 12 = .ok (.invokestatic 37, 3) := by decide +kernel
theorem d_Bus_writeValue_15 : decode b_Bus_writeValue 15 = .ok (.iload_n 2, 1) := by decide +kernel
theorem d_Bus_writeValue_16 : decode b_Bus_writeValue 16 = .ok (.bipush 8, 2) := by decide +kernel
theorem d_Bus_writeValue_18 : decode b_Bus_writeValue 18 = .ok (.ishr, 1) := by decide +kernel
theorem d_Bus_writeValue_19 : decode b_Bus_writeValue 19 = .ok (.invokevirtual 43, 3) := by decide +kernel
theorem d_Bus_writeValue_22 : decode b_Bus_writeValue 22 = .ok (.return_, 1) := by decide +kernel
theorem d_Bus_latestTouch_0 : decode b_Bus_latestTouch 0 = .ok (.aload_n 0, 1) := by decide +kernel
theorem d_Bus_latestTouch_1 : decode b_Bus_latestTouch 1 = .ok (.getfield 13, 3) := by decide +kernel
theorem d_Bus_latestTouch_4 : decode b_Bus_latestTouch 4 = .ok (.aload_n 0, 1) := by decide +kernel
theorem d_Bus_latestTouch_5 : decode b_Bus_latestTouch 5 = .ok (.getfield 30, 3) := by decide +kernel
theorem d_Bus_latestTouch_8 : decode b_Bus_latestTouch 8 = .ok (.iconst 1, 1) := by decide +kernel
theorem d_Bus_latestTouch_9 : decode b_Bus_latestTouch 9 = .ok (.isub, 1) := by decide +kernel
theorem d_Bus_latestTouch_10 : decode b_Bus_latestTouch 10 = .ok (.iload_n 1, 1) := by decide +kernel
theorem d_Bus_latestTouch_11 : decode b_Bus_latestTouch 11 = .ok (.isub, 1) := by decide +kernel
theorem d_Bus_latestTouch_12 : decode b_Bus_latestTouch 12 = .ok (.bipush 7, 2) := by decide +kernel
theorem d_Bus_latestTouch_14 : decode b_Bus_latestTouch 14 = .ok (.iand, 1) := by decide +kernel
theorem d_Bus_latestTouch_15 : decode b_Bus_latestTouch 15 = .ok (.iaload, 1) := by decide +kernel
theorem d_Bus_latestTouch_16 : decode b_Bus_latestTouch 16 = .ok (.ireturn, 1) := by decide +kernel
end
section
theorem d_Reg_init_0 : decode b_Reg_init 0 = .ok (.aload_n 0, 1) := by decide +kernel
theorem d_Reg_init_1 : decode b_Reg_init 1 = .ok (.invokespecial 1, 3) := by decide +kernel
theorem d_Reg_init_4 : decode b_Reg_init 4 = .ok (.aload_n 0, 1) := by decide +kernel
theorem d_Reg_init_5 : decode b_Reg_init 5 = .ok (.sipush 255, 3) := by decide +kernel
theorem d_Reg_init_8 : decode b_Reg_init 8 = .ok (.putfield 7, 3) := by decide +kernel
theorem d_Reg_init_11 : decode b_Reg_init 11 = .ok (.aload_n 0, 1) := by decide +kernel
theorem d_Reg_init_12 : decode b_Reg_init 12 = .ok (.bipush 52, 2) := by decide +kernel
theorem d_Reg_init_14 : decode b_Reg_init 14 = .ok (.putfield 13, 3) := by decide +kernel
theorem d_Reg_init_17 : decode b_Reg_init 17 = .ok (.return_, 1) := by decide +kernel
theorem d_Reg_maskOf_0 : decode b_Reg_maskOf 0 = .ok (.iload_n 0, 1) := by decide +kernel
theorem d_Reg_maskOf_1 : decode b_Reg_maskOf 1 = .ok (.ifCond .eq 8, 3) := by decide +kernel
theorem d_Reg_maskOf_4 : decode b_Reg_maskOf 4 = .ok (.ldc 16, 2) := by decide +kernel
theorem d_Reg_maskOf_6 : decode b_Reg_maskOf 6 = .ok (.goto 6, 3) := by decide +kernel
theorem d_Reg_maskOf_9 : decode b_Reg_maskOf 9 = .ok (.sipush 255, 3) := by decide +kernel
theorem d_Reg_maskOf_12 : decode b_Reg_maskOf 12 = .ok (.ireturn, 1) := by decide +kernel
theorem d_Reg_signOf_0 : decode b_Reg_signOf 0 = .ok (.iload_n 0, 1) := by decide +kernel
theorem d_Reg_signOf_1 : decode b_Reg_signOf 1 = .ok (.ifCond .eq 8, 3) := by decide +kernel
theorem d_Reg_signOf_4 : decode b_Reg_signOf 4 = .ok (.ldc 17, 2) := by decide +kernel
theorem d_Reg_signOf_6 : decode b_Reg_signOf 6 = .ok (.goto 6, 3) := by decide +kernel
theorem d_Reg_signOf_9 : decode b_Reg_signOf 9 = .ok (.sipush 128, 3) := by decide +kernel
theorem d_Reg_signOf_12 : decode b_Reg_signOf 12 = .ok (.ireturn, 1) := by decide +kernel
theorem d_Reg_has_0 : decode b_Reg_has 0 = .ok (.aload_n 0, 1) := by decide +kernel
theorem d_Reg_has_1 : decode b_Reg_has 1 = .ok (.getfield 13, 3) := by decide +kernel
theorem d_Reg_has_4 : decode b_Reg_has 4 = .ok (.iload_n 1, 1) := by decide +kernel
theorem d_Reg_has_5 : decode b_Reg_has 5 = .ok (.iand, 1) := by decide +kernel
theorem d_Reg_has_6 : decode b_Reg_has 6 = .ok (.ifCond .eq 7, 3) := by decide +kernel
theorem d_Reg_has_9 : decode b_Reg_has 9 = .ok (.iconst 1, 1) := by decide +kernel
theorem d_Reg_has_10 : decode b_Reg_has 10 = .ok (.goto 4, 3) := by decide +kernel
theorem d_Reg_has_13 : decode b_Reg_has 13 = .ok (.iconst 0, 1) := by decide +kernel
theorem d_Reg_has_14 : decode b_Reg_has 14 = .ok (.ireturn, 1) := by decide +kernel
theorem d_Reg_putFlag_0 : decode b_Reg_putFlag 0 = .ok (.aload_n 0, 1) := by decide +kernel
theorem d_Reg_putFlag_1 : decode b_Reg_putFlag 1 = .ok (.iload_n 2, 1) := by decide +kernel
theorem d_Reg_putFlag_2 : decode b_Reg_putFlag 2 = .ok (.ifCond .eq 12, 3) := by decide +kernel
theorem d_Reg_putFlag_5 : decode b_Reg_putFlag 5 = .ok (.aload_n 0, 1) := by decide +kernel
theorem d_Reg_putFlag_6 : decode b_Reg_putFlag 6 = .ok (.getfield 13, 3) := by decide +kernel
theorem d_Reg_putFlag_9 : decode b_Reg_putFlag 9 = .ok (.iload_n 1, 1) := by decide +kernel
theorem d_Reg_putFlag_10 : decode b_Reg_putFlag 10 = .ok (.ior, 1) := by decide +kernel
theorem d_Reg_putFlag_11 : decode b_Reg_putFlag 11 = .ok (.goto 11, 3) := by decide +kernel
theorem d_Reg_putFlag_14 : decode b_Reg_putFlag 14 = .ok (.aload_n 0, 1) := by decide +kernel
theorem d_Reg_putFlag_15 : decode b_Reg_putFlag 15 = .ok (.getfield 13, 3) := by decide +kernel
theorem d_Reg_putFlag_18 : decode b_Reg_putFlag 18 = .ok (.iload_n 1, 1) := by decide +kernel
theorem d_Reg_putFlag_19 : decode b_Reg_putFlag 19 = .ok (.iconst (-1), 1) := by decide +kernel
theorem d_Reg_putFlag_20 : decode b_Reg_putFlag 20 = .ok (.ixor, 1) := by decide +kernel
theorem d_Reg_putFlag_21 : decode b_Reg_putFlag 21 = .ok (.iand, 1) := by decide +kernel
theorem d_Reg_putFlag_22 : decode b_Reg_putFlag 22 = .ok (.putfield 13, 3) := by decide +kernel
theorem d_Reg_putFlag_25 : decode b_Reg_putFlag 25 = .ok (.return_, 1) := by decide +kernel
theorem d_Reg_wideA_0 : decode b_Reg_wideA 0 = .ok (.aload_n 0, 1) := by decide +kernel
theorem d_Reg_wideA_1 : decode b_Reg_wideA 1 = .ok (.getfield 13, 3) := by decide +kernel
theorem d_Reg_wideA_4 : decode b_Reg_wideA 4 = .ok (.bipush 32, 2) := by decide +kernel
theorem d_Reg_wideA_6 : decode b_Reg_wideA 6 = .ok (.iand, 1) := by decide +kernel
theorem d_Reg_wideA_7 : decode b_Reg_wideA 7 = .ok (.ifCond .ne 7, 3) := by decide +kernel
theorem d_Reg_wideA_10 : decode b_Reg_wideA 10 = .ok (.iconst 1, 1) := by decide +kernel
theorem d_Reg_wideA_11 : decode b_Reg_wideA 11 = .ok (.goto 4, 3) := by decide +kernel
theorem d_Reg_wideA_14 : decode b_Reg_wideA 14 = .ok (.iconst 0, 1) := by decide +kernel
theorem d_Reg_wideA_15 : decode b_Reg_wideA 15 = .ok (.ireturn, 1) := by decide +kernel
theorem d_Reg_wideIndex_0 : decode b_Reg_wideIndex 0 = .ok (.aload_n 0, 1) := by decide +kernel
theorem d_Reg_wideIndex_1 : decode b_Reg_wideIndex 1 = .ok (.getfield 13, 3) := by decide +kernel
theorem d_Reg_wideIndex_4 : decode b_Reg_wideIndex 4 = .ok (.bipush 16, 2) := by decide +kernel
theorem d_Reg_wideIndex_6 : decode b_Reg_wideIndex 6 = .ok (.iand, 1) := by decide +kernel
theorem d_Reg_wideIndex_7 : decode b_Reg_wideIndex 7 = .ok (.ifCond .ne 7, 3) := by decide +kernel
theorem d_Reg_wideIndex_10 : decode b_Reg_wideIndex 10 = .ok (.iconst 1, 1) := by decide +kernel
theorem d_Reg_wideIndex_11 : decode b_Reg_wideIndex 11 = .ok (.goto 4, 3) := by decide +kernel
theorem d_Reg_wideIndex_14 : decode b_Reg_wideIndex 14 = .ok (.iconst 0, 1) := by decide +kernel
theorem d_Reg_wideIndex_15 : decode b_Reg_wideIndex 15 = .ok (.ireturn, 1) := by decide +kernel
theorem d_Reg_indexMask_0 : decode b_Reg_indexMask 0 = .ok (.aload_n 0, 1) := by decide +kernel
theorem d_Reg_indexMask_1 : decode b_Reg_indexMask 1 = .ok (.invokevirtual 18, 3) := by decide +kernel
theorem d_Reg_indexMask_4 : decode b_Reg_indexMask 4 = .ok (.invokestatic 22, 3) := by decide +kernel
theorem d_Reg_indexMask_7 : decode b_Reg_indexMask 7 = .ok (.ireturn, 1) := by decide +kernel
theorem d_Reg_a_0 : decode b_Reg_a 0 = .ok (.aload_n 0, 1) := by decide +kernel
theorem d_Reg_a_1 : decode b_Reg_a 1 = .ok (.getfield 26, 3) := by decide +kernel
theorem d_Reg_a_4 : decode b_Reg_a 4 = .ok (.aload_n 0, 1) := by decide +kernel
theorem d_Reg_a_5 : decode b_Reg_a 5 = .ok (.invokevirtual 29, 3) := by decide +kernel
theorem d_Reg_a_8 : decode b_Reg_a 8 = .ok (.invokestatic 22, 3) := by decide +kernel
theorem d_Reg_a_11 : decode b_Reg_a 11 = .ok (.iand, 1) := by decide +kernel
theorem d_Reg_a_12 : decode b_Reg_a 12 = .ok (.ireturn, 1) := by decide +kernel
theorem d_Reg_replaceP_0 : decode b_Reg_replaceP 0 = .ok (.aload_n 0, 1) := by decide +kernel
theorem d_Reg_replaceP_1 : decode b_Reg_replaceP 1 = .ok (.iload_n 1, 1) := by decide +kernel
theorem d_Reg_replaceP_2 : decode b_Reg_replaceP 2 = .ok (.putfield 13, 3) := by decide +kernel
theorem d_Reg_replaceP_5 : decode b_Reg_replaceP 5 = .ok (.aload_n 0, 1) := by decide +kernel
theorem d_Reg_replaceP_6 : decode b_Reg_replaceP 6 = .ok (.dup, 1) := by decide +kernel
theorem d_Reg_replaceP_7 : decode b_Reg_replaceP 7 = .ok (.getfield 32, 3) := by decide +kernel
theorem d_Reg_replaceP_10 : decode b_Reg_replaceP 10 = .ok (.aload_n 0, 1) := by decide +kernel
theorem d_Reg_replaceP_11 : decode b_Reg_replaceP 11 = .ok (.invokevirtual 35, 3) := by decide +kernel
theorem d_Reg_replaceP_14 : decode b_Reg_replaceP 14 = .ok (.iand, 1) := by decide +kernel
theorem d_Reg_replaceP_15 : decode b_Reg_replaceP 15 = .ok (.putfield 32, 3) := by decide +kernel
theorem d_Reg_replaceP_18 : decode b_Reg_replaceP 18 = .ok (.aload_n 0, 1) := by decide +kernel
theorem d_Reg_replaceP_19 : decode b_Reg_replaceP 19 = .ok (.dup, 1) := by decide +kernel
theorem d_Reg_replaceP_20 : decode b_Reg_replaceP 20 = .ok (.getfield 39, 3) := by decide +kernel
theorem d_Reg_replaceP_23 : decode b_Reg_replaceP 23 = .ok (.aload_n 0, 1) := by decide +kernel
theorem d_Reg_replaceP_24 : decode b_Reg_replaceP 24 = .ok (.invokevirtual 35, 3) := by decide +kernel
theorem d_Reg_replaceP_27 : decode b_Reg_replaceP 27 = .ok (.iand, 1) := by decide +kernel
theorem d_Reg_replaceP_28 : decode b_Reg_replaceP 28 = .ok (.putfield 39, 3) := by decide +kernel
theorem d_Reg_replaceP_31 : decode b_Reg_replaceP 31 = .ok (.return_, 1) := by decide +kernel
theorem d_Reg_showResult_0 : decode b_Reg_showResult 0 = .ok (.iload_n 1, 1) := by decide +kernel
theorem d_Reg_showResult_1 : decode b_Reg_showResult 1 = .ok (.iload_n 2, 1) := by decide +kernel
theorem d_Reg_showResult_2 : decode b_Reg_showResult 2 = .ok (.invokestatic 42, 3) := by decide +kernel
theorem d_Reg_showResult_5 : decode b_Reg_showResult 5 = .ok (.iand, 1) := by decide +kernel
theorem d_Reg_showResult_6 : decode b_Reg_showResult 6 = .ok (.ifCond .eq 9, 3) := by decide +kernel
theorem d_Reg_showResult_9 : decode b_Reg_showResult 9 = .ok (.sipush 128, 3) := by decide +kernel
theorem d_Reg_showResult_12 : decode b_Reg_showResult 12 = .ok (.goto 4, 3) := by decide +kernel
theorem d_Reg_showResult_15 : decode b_Reg_showResult 15 = .ok (.iconst 0, 1) := by decide +kernel
theorem d_Reg_showResult_16 : decode b_Reg_showResult 16 = .ok (.istore_n 3, 1) := by decide +kernel
theorem d_Reg_showResult_17 : decode b_Reg_showResult 17 = .ok (.iload_n 1, 1) := by decide +kernel
theorem d_Reg_showResult_18 : decode b_Reg_showResult 18 = .ok (.ifCond .ne 7, 3) := by decide +kernel
theorem d_Reg_showResult_21 : decode b_Reg_showResult 21 = .ok (.iconst 2, 1) := by decide +kernel
theorem d_Reg_showResult_22 : decode b_Reg_showResult 22 = .ok (.goto 4, 3) := by decide +kernel
theorem d_Reg_showResult_25 : decode b_Reg_showResult 25 = .ok (.iconst 0, 1) := by decide +kernel
theorem d_Reg_showResult_26 : decode b_Reg_showResult 26 = .ok (.istore 4, 2) := by decide +kernel
theorem d_Reg_showResult_28 : decode b_Reg_showResult 28 = .ok (.aload_n 0, 1) := by decide +kernel
theorem d_Reg_showResult_29 : decode b_Reg_showResult 29 = .ok (.aload_n 0, 1) := by decide +kernel
theorem d_Reg_showResult_30 : decode b_Reg_showResult 30 = .ok (.getfield 13, 3) := by decide +kernel
theorem d_Reg_showResult_33 : decode b_Reg_showResult 33 = .ok (.sipush (-131), 3) := by decide +kernel
theorem d_Reg_showResult_36 : decode b_Reg_showResult 36 = .ok (.iand, 1) := by decide +kernel
theorem d_Reg_showResult_37 : decode b_Reg_showResult 37 = .ok (.iload_n 3, 1) := by decide +kernel
theorem d_Reg_showResult_38 : decode b_Reg_showResult 38 = .ok (.ior, 1) := by decide +kernel
theorem d_Reg_showResult_39 : decode b_Reg_showResult 39 = .ok (.iload 4, 2) := by decide +kernel
theorem d_Reg_showResult_41 : decode b_Reg_showResult 41 = .ok (.ior, 1) := by decide +kernel
theorem d_Reg_showResult_42 : decode b_Reg_showResult 42 = .ok (.putfield 13, 3) := by decide +kernel
theorem d_Reg_showResult_45 : decode b_Reg_showResult 45 = .ok (.return_, 1) := by decide +kernel
theorem d_Reg_loadA_0 : decode b_Reg_loadA 0 = .ok (.aload_n 0, 1) := by decide +kernel
theorem d_Reg_loadA_1 : decode b_Reg_loadA 1 = .ok (.invokevirtual 29, 3) := by decide +kernel
theorem d_Reg_loadA_4 : decode b_Reg_loadA 4 = .ok (.invokestatic 22, 3) := by decide +kernel
theorem d_Reg_loadA_7 : decode b_Reg_loadA 7 = .ok (.istore_n 2, 1) := by decide +kernel
theorem d_Reg_loadA_8 : decode b_Reg_loadA 8 = .ok (.aload_n 0, 1) := by decide +kernel
theorem d_Reg_loadA_9 : decode b_Reg_loadA 9 = .ok (.aload_n 0, 1) := by decide +kernel
theorem d_Reg_loadA_10 : decode b_Reg_loadA 10 = .ok (.getfield 26, 3) := by decide +kernel
theorem d_Reg_loadA_13 : decode b_Reg_loadA 13 = .ok (.iload_n 2, 1) := by decide +kernel
theorem d_Reg_loadA_14 : decode b_Reg_loadA 14 = .ok (.iconst (-1), 1) := by decide +kernel
theorem d_Reg_loadA_15 : decode b_Reg_loadA 15 = .ok (.ixor, 1) := by decide +kernel
theorem d_Reg_loadA_16 : decode b_Reg_loadA 16 = .ok (.iand, 1) := by decide +kernel
theorem d_Reg_loadA_17 : decode b_Reg_loadA 17 = .ok (.iload_n 1, 1) := by decide +kernel
theorem d_Reg_loadA_18 : decode b_Reg_loadA 18 = .ok (.iload_n 2, 1) := by decide +kernel
theorem d_Reg_loadA_19 : decode b_Reg_loadA 19 = .ok (.iand, 1) := by decide +kernel
theorem d_Reg_loadA_20 : decode b_Reg_loadA 20 = .ok (.ior, 1) := by decide +kernel
theorem d_Reg_loadA_21 : decode b_Reg_loadA 21 = .ok (.putfield 26, 3) := by decide +kernel
theorem d_Reg_loadA_24 : decode b_Reg_loadA 24 = .ok (.aload_n 0, 1) := by decide +kernel
theorem d_Reg_loadA_25 : decode b_Reg_loadA 25 = .ok (.iload_n 1, 1) := by decide +kernel
theorem d_Reg_loadA_26 : decode b_Reg_loadA 26 = .ok (.iload_n 2, 1) := by decide +kernel
theorem d_Reg_loadA_27 : decode b_Reg_loadA 27 = .ok (.iand, 1) := by decide +kernel
theorem d_Reg_loadA_28 : decode b_Reg_loadA 28 = .ok (.aload_n 0, 1) := by decide +kernel
theorem d_Reg_loadA_29 : decode b_Reg_loadA 29 = .ok (.invokevirtual 29, 3) := by decide +kernel
theorem d_Reg_loadA_32 : decode b_Reg_loadA 32 = .ok (.invokevirtual 45, 3) := by decide +kernel
theorem d_Reg_loadA_35 : decode b_Reg_loadA 35 = .ok (.return_, 1) := by decide +kernel
theorem d_Reg_loadX_0 : decode b_Reg_loadX 0 = .ok (.aload_n 0, 1) := by decide +kernel
theorem d_Reg_loadX_1 : decode b_Reg_loadX 1 = .ok (.iload_n 1, 1) := by decide +kernel
theorem d_Reg_loadX_2 : decode b_Reg_loadX 2 = .ok (.aload_n 0, 1) := by decide +kernel
theorem d_Reg_loadX_3 : decode b_Reg_loadX 3 = .ok (.invokevirtual 35, 3) := by decide +kernel
theorem d_Reg_loadX_6 : decode b_Reg_loadX 6 = .ok (.iand, 1) := by decide +kernel
theorem d_Reg_loadX_7 : decode b_Reg_loadX 7 = .ok (.putfield 32, 3) := by decide +kernel
theorem d_Reg_loadX_10 : decode b_Reg_loadX 10 = .ok (.aload_n 0, 1) := by decide +kernel
theorem d_Reg_loadX_11 : decode b_Reg_loadX 11 = .ok (.aload_n 0, 1) := by decide +kernel
theorem d_Reg_loadX_12 : decode b_Reg_loadX 12 = .ok (.getfield 32, 3) := by decide +kernel
theorem d_Reg_loadX_15 : decode b_Reg_loadX 15 = .ok (.aload_n 0, 1) := by decide +kernel
theorem d_Reg_loadX_16 : decode b_Reg_loadX 16 = .ok (.invokevirtual 18, 3) := by decide +kernel
theorem d_Reg_loadX_19 : decode b_Reg_loadX 19 = .ok (.invokevirtual 45, 3) := by decide +kernel
theorem d_Reg_loadX_22 : decode b_Reg_loadX 22 = .ok (.return_, 1) := by decide +kernel
theorem d_Reg_loadY_0 : decode b_Reg_loadY 0 = .ok (.aload_n 0, 1) := by decide +kernel
theorem d_Reg_loadY_1 : decode b_Reg_loadY 1 = .ok (.iload_n 1, 1) := by decide +kernel
theorem d_Reg_loadY_2 : decode b_Reg_loadY 2 = .ok (.aload_n 0, 1) := by decide +kernel
theorem d_Reg_loadY_3 : decode b_Reg_loadY 3 = .ok (.invokevirtual 35, 3) := by decide +kernel
theorem d_Reg_loadY_6 : decode b_Reg_loadY 6 = .ok (.iand, 1) := by decide +kernel
theorem d_Reg_loadY_7 : decode b_Reg_loadY 7 = .ok (.putfield 39, 3) := by decide +kernel
theorem d_Reg_loadY_10 : decode b_Reg_loadY 10 = .ok (.aload_n 0, 1) := by decide +kernel
theorem d_Reg_loadY_11 : decode b_Reg_loadY 11 = .ok (.aload_n 0, 1) := by decide +kernel
theorem d_Reg_loadY_12 : decode b_Reg_loadY 12 = .ok (.getfield 39, 3) := by decide +kernel
theorem d_Reg_loadY_15 : decode b_Reg_loadY 15 = .ok (.aload_n 0, 1) := by decide +kernel
theorem d_Reg_loadY_16 : decode b_Reg_loadY 16 = .ok (.invokevirtual 18, 3) := by decide +kernel
theorem d_Reg_loadY_19 : decode b_Reg_loadY 19 = .ok (.invokevirtual 45, 3) := by decide +kernel
theorem d_Reg_loadY_22 : decode b_Reg_loadY 22 = .ok (.return_, 1) := by decide +kernel
theorem d_Reg_loadC_0 : decode b_Reg_loadC 0 = .ok (.aload_n 0, 1) := by decide +kernel
theorem d_Reg_loadC_1 : decode b_Reg_loadC 1 = .ok (.iload_n 1, 1) := by decide +kernel
theorem d_Reg_loadC_2 : decode b_Reg_loadC 2 = .ok (.putfield 26, 3) := by decide +kernel
theorem d_Reg_loadC_5 : decode b_Reg_loadC 5 = .ok (.aload_n 0, 1) := by decide +kernel
theorem d_Reg_loadC_6 : decode b_Reg_loadC 6 = .ok (.aload_n 0, 1) := by decide +kernel
theorem d_Reg_loadC_7 : decode b_Reg_loadC 7 = .ok (.getfield 26, 3) := by decide +kernel
theorem d_Reg_loadC_10 : decode b_Reg_loadC 10 = .ok (.iconst 1, 1) := by decide +kernel
theorem d_Reg_loadC_11 : decode b_Reg_loadC 11 = .ok (.invokevirtual 45, 3) := by decide +kernel
theorem d_Reg_loadC_14 : decode b_Reg_loadC 14 = .ok (.return_, 1) := by decide +kernel
theorem d_Reg_loadD_0 : decode b_Reg_loadD 0 = .ok (.aload_n 0, 1) := by decide +kernel
theorem d_Reg_loadD_1 : decode b_Reg_loadD 1 = .ok (.iload_n 1, 1) := by decide +kernel
theorem d_Reg_loadD_2 : decode b_Reg_loadD 2 = .ok (.putfield 49, 3) := by decide +kernel
theorem d_Reg_loadD_5 : decode b_Reg_loadD 5 = .ok (.aload_n 0, 1) := by decide +kernel
theorem d_Reg_loadD_6 : decode b_Reg_loadD 6 = .ok (.aload_n 0, 1) := by decide +kernel
theorem d_Reg_loadD_7 : decode b_Reg_loadD 7 = .ok (.getfield 49, 3) := by decide +kernel
theorem d_Reg_loadD_10 : decode b_Reg_loadD 10 = .ok (.iconst 1, 1) := by decide +kernel
theorem d_Reg_loadD_11 : decode b_Reg_loadD 11 = .ok (.invokevirtual 45, 3) := by decide +kernel
theorem d_Reg_loadD_14 : decode b_Reg_loadD 14 = .ok (.return_, 1) := by decide +kernel
theorem d_Reg_loadDataBank_0 : decode b_Reg_loadDataBank 0 = .ok (.aload_n 0, 1) := by decide +kernel
theorem d_Reg_loadDataBank_1 : decode b_Reg_loadDataBank 1 = .ok (.iload_n 1, 1) := by decide +kernel
theorem d_Reg_loadDataBank_2 : decode b_Reg_loadDataBank 2 = .ok (.putfield 52, 3) := by decide +kernel
theorem d_Reg_loadDataBank_5 : decode b_Reg_loadDataBank 5 = .ok (.aload_n 0, 1) := by decide +kernel
theorem d_Reg_loadDataBank_6 : decode b_Reg_loadDataBank 6 = .ok (.aload_n 0, 1) := by decide +kernel
theorem d_Reg_loadDataBank_7 : decode b_Reg_loadDataBank 7 = .ok (.getfield 52, 3) := by decide +kernel
theorem d_Reg_loadDataBank_10 : decode b_Reg_loadDataBank 10 = .ok (.iconst 0, 1) := by decide +kernel
theorem d_Reg_loadDataBank_11 : decode b_Reg_loadDataBank 11 = .ok (.invokevirtual 45, 3) := by decide +kernel
theorem d_Reg_loadDataBank_14 : decode b_Reg_loadDataBank 14 = .ok (.return_, 1) := by decide +kernel
theorem d_Reg_jumpTo_0 : decode b_Reg_jumpTo 0 = .ok (.aload_n 0, 1) := by decide +kernel
theorem d_Reg_jumpTo_1 : decode b_Reg_jumpTo 1 = .ok (.iload_n 1, 1) := by decide +kernel
theorem d_Reg_jumpTo_2 : decode b_Reg_jumpTo 2 = .ok (.ldc 16, 2) := by decide +kernel
theorem d_Reg_jumpTo_4 : decode b_Reg_jumpTo 4 = .ok (.iand, 1) := by decide +kernel
theorem d_Reg_jumpTo_5 : decode b_Reg_jumpTo 5 = .ok (.putfield 55, 3) := by decide +kernel
theorem d_Reg_jumpTo_8 : decode b_Reg_jumpTo 8 = .ok (.return_, 1) := by decide +kernel
theorem d_Reg_jumpLong_0 : decode b_Reg_jumpLong 0 = .ok (.aload_n 0, 1) := by decide +kernel
theorem d_Reg_jumpLong_1 : decode b_Reg_jumpLong 1 = .ok (.iload_n 1, 1) := by decide +kernel
theorem d_Reg_jumpLong_2 : decode b_Reg_jumpLong 2 = .ok (.bipush 16, 2) := by decide +kernel
theorem d_Reg_jumpLong_4 : decode b_Reg_jumpLong 4 = .ok (.ishr, 1) := by decide +kernel
theorem d_Reg_jumpLong_5 : decode b_Reg_jumpLong 5 = .ok (.putfield 58, 3) := by decide +kernel
theorem d_Reg_jumpLong_8 : decode b_Reg_jumpLong 8 = .ok (.aload_n 0, 1) := by decide +kernel
theorem d_Reg_jumpLong_9 : decode b_Reg_jumpLong 9 = .ok (.iload_n 1, 1) := by decide +kernel
theorem d_Reg_jumpLong_10 : decode b_Reg_jumpLong 10 = .ok (.ldc 16, 2) := by decide +kernel
theorem d_Reg_jumpLong_12 : decode b_Reg_jumpLong 12 = .ok (.iand, 1) := by decide +kernel
theorem d_Reg_jumpLong_13 : decode b_Reg_jumpLong 13 = .ok (.putfield 55, 3) := by decide +kernel
theorem d_Reg_jumpLong_16 : decode b_Reg_jumpLong 16 = .ok (.return_, 1) := by decide +kernel
end
section
theorem d_Opd_init_0 : decode b_Opd_init 0 = .ok (.aload_n 0, 1) := by decide +kernel
theorem d_Opd_init_1 : decode b_Opd_init 1 = .ok (.invokespecial 1, 3) := by decide +kernel
theorem d_Opd_init_4 : decode b_Opd_init 4 = .ok (.aload_n 0, 1) := by decide +kernel
theorem d_Opd_init_5 : decode b_Opd_init 5 = .ok (.aload_n 1, 1) := by decide +kernel
theorem d_Opd_init_6 : decode b_Opd_init 6 = .ok (.putfield 7, 3) := by decide +kernel
theorem d_Opd_init_9 : decode b_Opd_init 9 = .ok (.aload_n 0, 1) := by decide +kernel
theorem d_Opd_init_10 : decode b_Opd_init 10 = .ok (.aload_n 2, 1) := by decide +kernel
theorem d_Opd_init_11 : decode b_Opd_init 11 = .ok (.putfield 13, 3) := by decide +kernel
theorem d_Opd_init_14 : decode b_Opd_init 14 = .ok (.return_, 1) := by decide +kernel
theorem d_Opd_isMode_0 : decode b_Opd_isMode 0 = .ok (.iload_n 0, 1) := by decide +kernel
theorem d_Opd_isMode_1 : decode b_Opd_isMode 1 = .ok (.bipush 18, 2) := by decide +kernel
theorem d_Opd_isMode_3 : decode b_Opd_isMode 3 = .ok (.if_icmp .eq 19, 3) := by decide +kernel
theorem d_Opd_isMode_6 : decode b_Opd_isMode 6 = .ok (.iload_n 0, 1) := by decide +kernel
theorem d_Opd_isMode_7 : decode b_Opd_isMode 7 = .ok (.iconst 1, 1) := by decide +kernel
theorem d_Opd_isMode_8 : decode b_Opd_isMode 8 = .ok (.iand, 1) := by decide +kernel
theorem d_Opd_isMode_9 : decode b_Opd_isMode 9 = .ok (.iconst 1, 1) := by decide +kernel
theorem d_Opd_isMode_10 : decode b_Opd_isMode 10 = .ok (.if_icmp .ne 16, 3) := by decide +kernel
theorem d_Opd_isMode_13 : decode b_Opd_isMode 13 = .ok (.iload_n 0, 1) := by decide +kernel
theorem d_Opd_isMode_14 : decode b_Opd_isMode 14 = .ok (.bipush 15, 2) := by decide +kernel
theorem d_Opd_isMode_16 : decode b_Opd_isMode 16 = .ok (.iand, 1) := by decide +kernel
theorem d_Opd_isMode_17 : decode b_Opd_isMode 17 = .ok (.bipush 11, 2) := by decide +kernel
theorem d_Opd_isMode_19 : decode b_Opd_isMode 19 = .ok (.if_icmp .eq 7, 3) := by decide +kernel
theorem d_Opd_isMode_22 : decode b_Opd_isMode 22 = .ok (.iconst 1, 1) := by decide +kernel
theorem d_Opd_isMode_23 : decode b_Opd_isMode 23 = .ok (.goto 4, 3) := by decide +kernel
theorem d_Opd_isMode_26 : decode b_Opd_isMode 26 = .ok (.iconst 0, 1) := by decide +kernel
theorem d_Opd_isMode_27 : decode b_Opd_isMode 27 = .ok (.ireturn, 1) := by decide +kernel
theorem d_Opd_nextByte_0 : decode b_Opd_nextByte 0 = .ok (.aload_n 0, 1) := by decide +kernel
theorem d_Opd_nextByte_1 : decode b_Opd_nextByte 1 = .ok (.getfield 7, 3) := by decide +kernel
theorem d_Opd_nextByte_4 : decode b_Opd_nextByte 4 = .ok (.aload_n 0, 1) := by decide +kernel
theorem d_Opd_nextByte_5 : decode b_Opd_nextByte 5 = .ok (.getfield 13, 3) := by decide +kernel
theorem d_Opd_nextByte_8 : decode b_Opd_nextByte 8 = .ok (.getfield 17, 3) := by decide +kernel
theorem d_Opd_nextByte_11 : decode b_Opd_nextByte 11 = .ok (.aload_n 0, 1) := by decide +kernel
theorem d_Opd_nextByte_12 : decode b_Opd_nextByte 12 = .ok (.getfield 13, 3) := by decide +kernel
theorem d_Opd_nextByte_15 : decode b_Opd_nextByte 15 = .ok (.getfield 23, 3) := by decide +kernel
theorem d_Opd_nextByte_18 : decode b_Opd_nextByte 18 = .ok (.invokevirtual 26, 3) := by decide +kernel
theorem d_Opd_nextByte_21 : decode b_Opd_nextByte 21 = .ok (.istore_n 1, 1) := by decide +kernel
theorem d_Opd_nextByte_22 : decode b_Opd_nextByte 22 = .ok (.aload_n 0, 1) := by decide +kernel
theorem d_Opd_nextByte_23 : decode b_Opd_nextByte 23 = .ok (.getfield 13, 3) := by decide +kernel
theorem d_Opd_nextByte_26 : decode b_Opd_nextByte 26 = .ok (.aload_n 0, 1) := by decide +kernel
theorem d_Opd_nextByte_27 : decode b_Opd_nextByte 27 = .ok (.getfield 13, 3) := by decide +kernel
theorem d_Opd_nextByte_30 : decode b_Opd_nextByte 30 = .ok (.getfield 23, 3) := by decide +kernel
theorem d_Opd_nextByte_33 : decode b_Opd_nextByte 33 = .ok (.iconst 1, 1) := by decide +kernel
theorem d_Opd_nextByte_34 : decode b_Opd_nextByte 34 = .ok (.iadd, 1) := by decide +kernel
theorem d_Opd_nextByte_35 : decode b_Opd_nextByte 35 = .ok (.ldc 32, 2) := by decide +kernel
theorem d_Opd_nextByte_37 : decode b_Opd_nextByte 37 = .ok (.iand, 1) := by decide +kernel
theorem d_Opd_nextByte_38 : decode b_Opd_nextByte 38 = .ok (.putfield 23, 3) := by decide +kernel
theorem d_Opd_nextByte_41 : decode b_Opd_nextByte 41 = .ok (.iload_n 1, 1) := by decide +kernel
theorem d_Opd_nextByte_42 : decode b_Opd_nextByte 42 = .ok (.ireturn, 1) := by decide +kernel
theorem d_Opd_nextWord_0 : decode b_Opd_nextWord 0 = .ok (.aload_n 0, 1) := by decide +kernel
theorem d_Opd_nextWord_1 : decode b_Opd_nextWord 1 = .ok (.invokevirtual 33, 3) := by decide +kernel
theorem d_Opd_nextWord_4 : decode b_Opd_nextWord 4 = .ok (.istore_n 1, 1) := by decide +kernel
theorem d_Opd_nextWord_5 : decode b_Opd_nextWord 5 = .ok (.iload_n 1, 1) := by decide +kernel
theorem d_Opd_nextWord_6 : decode b_Opd_nextWord 6 = .ok (.aload_n 0, 1) := by decide +kernel
theorem d_Opd_nextWord_7 : decode b_Opd_nextWord 7 = .ok (.invokevirtual 33, 3) := by decide +kernel
theorem d_Opd_nextWord_10 : decode b_Opd_nextWord 10 = .ok (.bipush 8, 2) := by decide +kernel
theorem d_Opd_nextWord_12 : decode b_Opd_nextWord 12 = .ok (.ishl, 1) := by decide +kernel
theorem d_Opd_nextWord_13 : decode b_Opd_nextWord 13 = .ok (.ior, 1) := by decide +kernel
theorem d_Opd_nextWord_14 : decode b_Opd_nextWord 14 = .ok (.ireturn, 1) := by decide +kernel
theorem d_Opd_nextLong_0 : decode b_Opd_nextLong 0 = .ok (.aload_n 0, 1) := by decide +kernel
theorem d_Opd_nextLong_1 : decode b_Opd_nextLong 1 = .ok (.invokevirtual 33, 3) := by decide +kernel
theorem d_Opd_nextLong_4 : decode b_Opd_nextLong 4 = .ok (.istore_n 1, 1) := by decide +kernel
theorem d_Opd_nextLong_5 : decode b_Opd_nextLong 5 = .ok (.aload_n 0, 1) := by decide +kernel
theorem d_Opd_nextLong_6 : decode b_Opd_nextLong 6 = .ok (.invokevirtual 33, 3) := by decide +kernel
theorem d_Opd_nextLong_9 : decode b_Opd_nextLong 9 = .ok (.istore_n 2, 1) := by decide +kernel
theorem d_Opd_nextLong_10 : decode b_Opd_nextLong 10 = .ok (.iload_n 1, 1) := by decide +kernel
theorem d_Opd_nextLong_11 : decode b_Opd_nextLong 11 = .ok (.iload_n 2, 1) := by decide +kernel
theorem d_Opd_nextLong_12 : decode b_Opd_nextLong 12 = .ok (.bipush 8, 2) := by decide +kernel
theorem d_Opd_nextLong_14 : decode b_Opd_nextLong 14 = .ok (.ishl, 1) := by decide +kernel
theorem d_Opd_nextLong_15 : decode b_Opd_nextLong 15 = .ok (.ior, 1) := by decide +kernel
theorem d_Opd_nextLong_16 : decode b_Opd_nextLong 16 = .ok (.aload_n 0, 1) := by decide +kernel
theorem d_Opd_nextLong_17 : decode b_Opd_nextLong 17 = .ok (.invokevirtual 33, 3) := by decide +kernel
theorem d_Opd_nextLong_20 : decode b_Opd_nextLong 20 = .ok (.bipush 16, 2) := by decide +kernel
theorem d_Opd_nextLong_22 : decode b_Opd_nextLong 22 = .ok (.ishl, 1) := by decide +kernel
theorem d_Opd_nextLong_23 : decode b_Opd_nextLong 23 = .ok (.ior, 1) := by decide +kernel
theorem d_Opd_nextLong_24 : decode b_Opd_nextLong 24 = .ok (.ireturn, 1) := by decide +kernel
theorem d_Opd_nextValue_0 : decode b_Opd_nextValue 0 = .ok (.iload_n 1, 1) := by decide +kernel
theorem d_Opd_nextValue_1 : decode b_Opd_nextValue 1 = .ok (.ifCond .eq 10, 3) := by decide +kernel
theorem d_Opd_nextValue_4 : decode b_Opd_nextValue 4 = .ok (.aload_n 0, 1) := by decide +kernel
theorem d_Opd_nextValue_5 : decode b_Opd_nextValue 5 = .ok (.invokevirtual 37, 3) := by decide +kernel
theorem d_Opd_nextValue_8 : decode b_Opd_nextValue 8 = .ok (.goto 7, 3) := by decide +kernel
theorem d_Opd_nextValue_11 : decode b_Opd_nextValue 11 = .ok (.aload_n 0, 1) := by decide +kernel
theorem d_Opd_nextValue_12 : decode b_Opd_nextValue 12 = .ok (.invokevirtual 33, 3) := by decide +kernel
theorem d_Opd_nextValue_15 : decode b_Opd_nextValue 15 = .ok (.ireturn, 1) := by decide +kernel
theorem d_Opd_place_0 : decode b_Opd_place 0 = .ok (.iload_n 1, 1) := by decide +kernel
theorem d_Opd_place_1 : decode b_Opd_place 1 = .ok (.tableswitch 379 1 31 #[254, 379, 347, 379, 139, 379, 306, 379, 379, 379, 379, 379, 161, 379, 209, 379, 280, 234, 354, 379, 147, 379, 321, 379, 191, 379, 379, 379, 173, 379, 216], 139) := by decide +kernel
theorem d_Opd_place_140 : decode b_Opd_place 140 = .ok (.aload_n 0, 1) := by decide +kernel
theorem d_Opd_place_141 : decode b_Opd_place 141 = .ok (.iconst 0, 1) := by decide +kernel
theorem d_Opd_place_142 : decode b_Opd_place 142 = .ok (.invokevirtual 40, 3) := by decide +kernel
theorem d_Opd_place_145 : decode b_Opd_place 145 = .ok (.goto 236, 3) := by decide +kernel
theorem d_Opd_place_148 : decode b_Opd_place 148 = .ok (.aload_n 0, 1) := by decide +kernel
theorem d_Opd_place_149 : decode b_Opd_place 149 = .ok (.aload_n 0, 1) := by decide +kernel
theorem d_Opd_place_150 : decode b_Opd_place 150 = .ok (.getfield 13, 3) := by decide +kernel
theorem d_Opd_place_153 : decode b_Opd_place 153 = .ok (.getfield 44, 3) := by decide +kernel
theorem d_Opd_place_156 : decode b_Opd_place 156 = .ok (.invokevirtual 40, 3) := by decide +kernel
theorem d_Opd_place_159 : decode b_Opd_place 159 = .ok (.goto 222, 3) := by decide +kernel
theorem d_Opd_place_162 : decode b_Opd_place 162 = .ok (.aload_n 0, 1) := by decide +kernel
theorem d_Opd_place_163 : decode b_Opd_place 163 = .ok (.aload_n 0, 1) := by decide +kernel
theorem d_Opd_place_164 : decode b_Opd_place 164 = .ok (.invokevirtual 37, 3) := by decide +kernel
theorem d_Opd_place_167 : decode b_Opd_place 167 = .ok (.iconst 0, 1) := by decide +kernel
theorem d_Opd_place_168 : decode b_Opd_place 168 = .ok (.invokevirtual 47, 3) := by decide +kernel
theorem d_Opd_place_171 : decode b_Opd_place 171 = .ok (.goto 210, 3) := by decide +kernel
theorem d_Opd_place_174 : decode b_Opd_place 174 = .ok (.aload_n 0, 1) := by decide +kernel
theorem d_Opd_place_175 : decode b_Opd_place 175 = .ok (.aload_n 0, 1) := by decide +kernel
theorem d_Opd_place_176 : decode b_Opd_place 176 = .ok (.invokevirtual 37, 3) := by decide +kernel
theorem d_Opd_place_179 : decode b_Opd_place 179 = .ok (.aload_n 0, 1) := by decide +kernel
theorem d_Opd_place_180 : decode b_Opd_place 180 = .ok (.getfield 13, 3) := by decide +kernel
theorem d_Opd_place_183 : decode b_Opd_place 183 = .ok (.getfield 44, 3) := by decide +kernel
theorem d_Opd_place_186 : decode b_Opd_place 186 = .ok (.invokevirtual 47, 3) := by decide +kernel
theorem d_Opd_place_189 : decode b_Opd_place 189 = .ok (.goto 192, 3) := by decide +kernel
theorem d_Opd_place_192 : decode b_Opd_place 192 = .ok (.aload_n 0, 1) := by decide +kernel
theorem d_Opd_place_193 : decode b_Opd_place 193 = .ok (.aload_n 0, 1) := by decide +kernel
theorem d_Opd_place_194 : decode b_Opd_place 194 = .ok (.invokevirtual 37, 3) := by decide +kernel
theorem d_Opd_place_197 : decode b_Opd_place 197 = .ok (.aload_n 0, 1) := by decide +kernel
theorem d_Opd_place_198 : decode b_Opd_place 198 = .ok (.getfield 13, 3) := by decide +kernel
theorem d_Opd_place_201 : decode b_Opd_place 201 = .ok (.getfield 50, 3) := by decide +kernel
theorem d_Opd_place_204 : decode b_Opd_place 204 = .ok (.invokevirtual 47, 3) := by decide +kernel
theorem d_Opd_place_207 : decode b_Opd_place 207 = .ok (.goto 174, 3) := by decide +kernel
theorem d_Opd_place_210 : decode b_Opd_place 210 = .ok (.aload_n 0, 1) := by decide +kernel
theorem d_Opd_place_211 : decode b_Opd_place 211 = .ok (.invokevirtual 53, 3) := by decide +kernel
theorem d_Opd_place_214 : decode b_Opd_place 214 = .ok (.goto 167, 3) := by decide +kernel
theorem d_Opd_place_217 : decode b_Opd_place 217 = .ok (.aload_n 0, 1) := by decide +kernel
theorem d_Opd_place_218 : decode b_Opd_place 218 = .ok (.invokevirtual 53, 3) := by decide +kernel
theorem d_Opd_place_221 : decode b_Opd_place 221 = .ok (.aload_n 0, 1) := by decide +kernel
theorem d_Opd_place_222 : decode b_Opd_place 222 = .ok (.getfield 13, 3) := by decide +kernel
theorem d_Opd_place_225 : decode b_Opd_place 225 = .ok (.getfield 44, 3) := by decide +kernel
theorem d_Opd_place_228 : decode b_Opd_place 228 = .ok (.iadd, 1) := by decide +kernel
theorem d_Opd_place_229 : decode b_Opd_place 229 = .ok (.invokestatic 56, 3) := by decide +kernel
theorem d_Opd_place_232 : decode b_Opd_place 232 = .ok (.goto 149, 3) := by decide +kernel
theorem d_Opd_place_235 : decode b_Opd_place 235 = .ok (.aload_n 0, 1) := by decide +kernel
theorem d_Opd_place_236 : decode b_Opd_place 236 = .ok (.aload_n 0, 1) := by decide +kernel
theorem d_Opd_place_237 : decode b_Opd_place 237 = .ok (.getfield 7, 3) := by decide +kernel
theorem d_Opd_place_240 : decode b_Opd_place 240 = .ok (.aload_n 0, 1) := by decide +kernel
theorem d_Opd_place_241 : decode b_Opd_place 241 = .ok (.iconst 0, 1) := by decide +kernel
theorem d_Opd_place_242 : decode b_Opd_place 242 = .ok (.invokevirtual 40, 3) := by decide +kernel
theorem d_Opd_place_245 : decode b_Opd_place 245 = .ok (.invokevirtual 59, 3) := by decide +kernel
theorem d_Opd_place_248 : decode b_Opd_place 248 = .ok (.iconst 0, 1) := by decide +kernel
theorem d_Opd_place_249 : decode b_Opd_place 249 = .ok (.invokevirtual 47, 3) := by decide +kernel
theorem d_Opd_place_252 : decode b_Opd_place 252 = .ok (.goto 129, 3) := by decide +kernel
theorem d_Opd_place_255 : decode b_Opd_place 255 = .ok (.aload_n 0, 1) := by decide +kernel
theorem d_Opd_place_256 : decode b_Opd_place 256 = .ok (.aload_n 0, 1) := by decide +kernel
theorem d_Opd_place_257 : decode b_Opd_place 257 = .ok (.getfield 7, 3) := by decide +kernel
theorem d_Opd_place_260 : decode b_Opd_place 260 = .ok (.aload_n 0, 1) := by decide +kernel
theorem d_Opd_place_261 : decode b_Opd_place 261 = .ok (.aload_n 0, 1) := by decide +kernel
theorem d_Opd_place_262 : decode b_Opd_place 262 = .ok (.getfield 13, 3) := by decide +kernel
theorem d_Opd_place_265 : decode b_Opd_place 265 = .ok (.getfield 44, 3) := by decide +kernel
theorem d_Opd_place_268 : decode b_Opd_place 268 = .ok (.invokevirtual 40, 3) := by decide +kernel
theorem d_Opd_place_271 : decode b_Opd_place 271 = .ok (.invokevirtual 59, 3) := by decide +kernel
theorem d_Opd_place_274 : decode b_Opd_place 274 = .ok (.iconst 0, 1) := by decide +kernel
theorem d_Opd_place_275 : decode b_Opd_place 275 = .ok (.invokevirtual 47, 3) := by decide +kernel
theorem d_Opd_place_278 : decode b_Opd_place 278 = .ok (.goto 103, 3) := by decide +kernel
theorem d_Opd_place_281 : decode b_Opd_place 281 = .ok (.aload_n 0, 1) := by decide +kernel
theorem d_Opd_place_282 : decode b_Opd_place 282 = .ok (.aload_n 0, 1) := by decide +kernel
theorem d_Opd_place_283 : decode b_Opd_place 283 = .ok (.getfield 7, 3) := by decide +kernel
theorem d_Opd_place_286 : decode b_Opd_place 286 = .ok (.aload_n 0, 1) := by decide +kernel
theorem d_Opd_place_287 : decode b_Opd_place 287 = .ok (.iconst 0, 1) := by decide +kernel
theorem d_Opd_place_288 : decode b_Opd_place 288 = .ok (.invokevirtual 40, 3) := by decide +kernel
theorem d_Opd_place_291 : decode b_Opd_place 291 = .ok (.invokevirtual 59, 3) := by decide +kernel
theorem d_Opd_place_294 : decode b_Opd_place 294 = .ok (.aload_n 0, 1) := by decide +kernel
theorem d_Opd_place_295 : decode b_Opd_place 295 = .ok (.getfield 13, 3) := by decide +kernel
theorem d_Opd_place_298 : decode b_Opd_place 298 = .ok (.getfield 50, 3) := by decide +kernel
theorem d_Opd_place_301 : decode b_Opd_place 301 = .ok (.invokevirtual 47, 3) := by decide +kernel
theorem d_Opd_place_304 : decode b_Opd_place 304 = .ok (.goto 77, 3) := by decide +kernel
theorem d_Opd_place_307 : decode b_Opd_place 307 = .ok (.aload_n 0, 1) := by decide +kernel
theorem d_Opd_place_308 : decode b_Opd_place 308 = .ok (.getfield 7, 3) := by decide +kernel
theorem d_Opd_place_311 : decode b_Opd_place 311 = .ok (.aload_n 0, 1) := by decide +kernel
theorem d_Opd_place_312 : decode b_Opd_place 312 = .ok (.iconst 0, 1) := by decide +kernel
theorem d_Opd_place_313 : decode b_Opd_place 313 = .ok (.invokevirtual 40, 3) := by decide +kernel
theorem d_Opd_place_316 : decode b_Opd_place 316 = .ok (.invokevirtual 62, 3) := by decide +kernel
theorem d_Opd_place_319 : decode b_Opd_place 319 = .ok (.goto 62, 3) := by decide +kernel
theorem d_Opd_place_322 : decode b_Opd_place 322 = .ok (.aload_n 0, 1) := by decide +kernel
theorem d_Opd_place_323 : decode b_Opd_place 323 = .ok (.getfield 7, 3) := by decide +kernel
theorem d_Opd_place_326 : decode b_Opd_place 326 = .ok (.aload_n 0, 1) := by decide +kernel
theorem d_Opd_place_327 : decode b_Opd_place 327 = .ok (.iconst 0, 1) := by decide +kernel
theorem d_Opd_place_328 : decode b_Opd_place 328 = .ok (.invokevirtual 40, 3) := by decide +kernel
theorem d_Opd_place_331 : decode b_Opd_place 331 = .ok (.invokevirtual 62, 3) := by decide +kernel
theorem d_Opd_place_334 : decode b_Opd_place 334 = .ok (.aload_n 0, 1) := by decide +kernel
theorem d_Opd_place_335 : decode b_Opd_place 335 = .ok (.getfield 13, 3) := by decide +kernel
theorem d_Opd_place_338 : decode b_Opd_place 338 = .ok (.getfield 50, 3) := by decide +kernel
theorem d_Opd_place_341 : decode b_Opd_place 341 = .ok (.iadd, 1) := by decide +kernel
theorem d_Opd_place_342 : decode b_Opd_place 342 = .ok (.invokestatic 56, 3) := by decide +kernel
theorem d_Opd_place_345 : decode b_Opd_place 345 = .ok (.goto 36, 3) := by decide +kernel
theorem d_Opd_place_348 : decode b_Opd_place 348 = .ok (.aload_n 0, 1) := by decide +kernel
theorem d_Opd_place_349 : decode b_Opd_place 349 = .ok (.invokevirtual 65, 3) := by decide +kernel
theorem d_Opd_place_352 : decode b_Opd_place 352 = .ok (.goto 29, 3) := by decide +kernel
theorem d_Opd_place_355 : decode b_Opd_place 355 = .ok (.aload_n 0, 1) := by decide +kernel
theorem d_Opd_place_356 : decode b_Opd_place 356 = .ok (.aload_n 0, 1) := by decide +kernel
theorem d_Opd_place_357 : decode b_Opd_place 357 = .ok (.getfield 7, 3) := by decide +kernel
theorem d_Opd_place_360 : decode b_Opd_place 360 = .ok (.aload_n 0, 1) := by decide +kernel
theorem d_Opd_place_361 : decode b_Opd_place 361 = .ok (.invokevirtual 65, 3) := by decide +kernel
theorem d_Opd_place_364 : decode b_Opd_place 364 = .ok (.invokevirtual 59, 3) := by decide +kernel
theorem d_Opd_place_367 : decode b_Opd_place 367 = .ok (.aload_n 0, 1) := by decide +kernel
theorem d_Opd_place_368 : decode b_Opd_place 368 = .ok (.getfield 13, 3) := by decide +kernel
theorem d_Opd_place_371 : decode b_Opd_place 371 = .ok (.getfield 50, 3) := by decide +kernel
theorem d_Opd_place_374 : decode b_Opd_place 374 = .ok (.invokevirtual 47, 3) := by decide +kernel
theorem d_Opd_place_377 : decode b_Opd_place 377 = .ok (.goto 4, 3) := by decide +kernel
theorem d_Opd_place_380 : decode b_Opd_place 380 = .ok (.iconst 0, 1) := by decide +kernel
theorem d_Opd_place_381 : decode b_Opd_place 381 = .ok (.ireturn, 1) := by decide +kernel
theorem d_Opd_direct_0 : decode b_Opd_direct 0 = .ok (.aload_n 0, 1) := by decide +kernel
theorem d_Opd_direct_1 : decode b_Opd_direct 1 = .ok (.getfield 13, 3) := by decide +kernel
theorem d_Opd_direct_4 : decode b_Opd_direct 4 = .ok (.getfield 68, 3) := by decide +kernel
theorem d_Opd_direct_7 : decode b_Opd_direct 7 = .ok (.aload_n 0, 1) := by decide +kernel
theorem d_Opd_direct_8 : decode b_Opd_direct 8 = .ok (.invokevirtual 33, 3) := by decide +kernel
theorem d_Opd_direct_11 : decode b_Opd_direct 11 = .ok (.iadd, 1) := by decide +kernel
theorem d_Opd_direct_12 : decode b_Opd_direct 12 = .ok (.iload_n 1, 1) := by decide +kernel
theorem d_Opd_direct_13 : decode b_Opd_direct 13 = .ok (.iadd, 1) := by decide +kernel
theorem d_Opd_direct_14 : decode b_Opd_direct 14 = .ok (.invokestatic 71, 3) := by decide +kernel
theorem d_Opd_direct_17 : decode b_Opd_direct 17 = .ok (.ireturn, 1) := by decide +kernel
theorem d_Opd_onStack_0 : decode b_Opd_onStack 0 = .ok (.aload_n 0, 1) := by decide +kernel
theorem d_Opd_onStack_1 : decode b_Opd_onStack 1 = .ok (.getfield 13, 3) := by decide +kernel
theorem d_Opd_onStack_4 : decode b_Opd_onStack 4 = .ok (.getfield 74, 3) := by decide +kernel
theorem d_Opd_onStack_7 : decode b_Opd_onStack 7 = .ok (.aload_n 0, 1) := by decide +kernel
theorem d_Opd_onStack_8 : decode b_Opd_onStack 8 = .ok (.invokevirtual 33, 3) := by decide +kernel
theorem d_Opd_onStack_11 : decode b_Opd_onStack 11 = .ok (.iadd, 1) := by decide +kernel
theorem d_Opd_onStack_12 : decode b_Opd_onStack 12 = .ok (.invokestatic 71, 3) := by decide +kernel
theorem d_Opd_onStack_15 : decode b_Opd_onStack 15 = .ok (.ireturn, 1) := by decide +kernel
theorem d_Opd_inDataBank_0 : decode b_Opd_inDataBank 0 = .ok (.aload_n 0, 1) := by decide +kernel
theorem d_Opd_inDataBank_1 : decode b_Opd_inDataBank 1 = .ok (.getfield 13, 3) := by decide +kernel
theorem d_Opd_inDataBank_4 : decode b_Opd_inDataBank 4 = .ok (.getfield 77, 3) := by decide +kernel
theorem d_Opd_inDataBank_7 : decode b_Opd_inDataBank 7 = .ok (.bipush 16, 2) := by decide +kernel
theorem d_Opd_inDataBank_9 : decode b_Opd_inDataBank 9 = .ok (.ishl, 1) := by decide +kernel
theorem d_Opd_inDataBank_10 : decode b_Opd_inDataBank 10 = .ok (.iload_n 1, 1) := by decide +kernel
theorem d_Opd_inDataBank_11 : decode b_Opd_inDataBank 11 = .ok (.iadd, 1) := by decide +kernel
theorem d_Opd_inDataBank_12 : decode b_Opd_inDataBank 12 = .ok (.iload_n 2, 1) := by decide +kernel
theorem d_Opd_inDataBank_13 : decode b_Opd_inDataBank 13 = .ok (.iadd, 1) := by decide +kernel
theorem d_Opd_inDataBank_14 : decode b_Opd_inDataBank 14 = .ok (.invokestatic 56, 3) := by decide +kernel
theorem d_Opd_inDataBank_17 : decode b_Opd_inDataBank 17 = .ok (.ireturn, 1) := by decide +kernel
end
section
theorem d_Stk_init_0 : decode b_Stk_init 0 = .ok (.aload_n 0, 1) := by decide +kernel
theorem d_Stk_init_1 : decode b_Stk_init 1 = .ok (.invokespecial 1, 3) := by decide +kernel
theorem d_Stk_init_4 : decode b_Stk_init 4 = .ok (.aload_n 0, 1) := by decide +kernel
theorem d_Stk_init_5 : decode b_Stk_init 5 = .ok (.aload_n 1, 1) := by decide +kernel
theorem d_Stk_init_6 : decode b_Stk_init 6 = .ok (.putfield 7, 3) := by decide +kernel
theorem d_Stk_init_9 : decode b_Stk_init 9 = .ok (.aload_n 0, 1) := by decide +kernel
theorem d_Stk_init_10 : decode b_Stk_init 10 = .ok (.aload_n 2, 1) := by decide +kernel
theorem d_Stk_init_11 : decode b_Stk_init 11 = .ok (.putfield 13, 3) := by decide +kernel
theorem d_Stk_init_14 : decode b_Stk_init 14 = .ok (.return_, 1) := by decide +kernel
theorem d_Stk_pushByte_0 : decode b_Stk_pushByte 0 = .ok (.aload_n 0, 1) := by decide +kernel
theorem d_Stk_pushByte_1 : decode b_Stk_pushByte 1 = .ok (.getfield 7, 3) := by decide +kernel
theorem d_Stk_pushByte_4 : decode b_Stk_pushByte 4 = .ok (.aload_n 0, 1) := by decide +kernel
theorem d_Stk_pushByte_5 : decode b_Stk_pushByte 5 = .ok (.getfield 13, 3) := by decide +kernel
theorem d_Stk_pushByte_8 : decode b_Stk_pushByte 8 = .ok (.getfield 17, 3) := by decide +kernel
theorem d_Stk_pushByte_11 : decode b_Stk_pushByte 11 = .ok (.invokestatic 23, 3) := by decide +kernel
theorem d_Stk_pushByte_14 : decode b_Stk_pushByte 14 = .ok (.iload_n 1, 1) := by decide +kernel
theorem d_Stk_pushByte_15 : decode b_Stk_pushByte 15 = .ok (.invokevirtual 29, 3) := by decide +kernel
theorem d_Stk_pushByte_18 : decode b_Stk_pushByte 18 = .ok (.aload_n 0, 1) := by decide +kernel
theorem d_Stk_pushByte_19 : decode b_Stk_pushByte 19 = .ok (.getfield 13, 3) := by decide +kernel
theorem d_Stk_pushByte_22 : decode b_Stk_pushByte 22 = .ok (.aload_n 0, 1) := by decide +kernel
theorem d_Stk_pushByte_23 : decode b_Stk_pushByte 23 = .ok (.getfield 13, 3) := by decide +kernel
theorem d_Stk_pushByte_26 : decode b_Stk_pushByte 26 = .ok (.getfield 17, 3) := by decide +kernel
theorem d_Stk_pushByte_29 : decode b_Stk_pushByte 29 = .ok (.iconst 1, 1) := by decide +kernel
theorem d_Stk_pushByte_30 : decode b_Stk_pushByte 30 = .ok (.isub, 1) := by decide +kernel
theorem d_Stk_pushByte_31 : decode b_Stk_pushByte 31 = .ok (.ldc 33, 2) := by decide +kernel
theorem d_Stk_pushByte_33 : decode b_Stk_pushByte 33 = .ok (.iand, 1) := by decide +kernel
theorem d_Stk_pushByte_34 : decode b_Stk_pushByte 34 = .ok (.putfield 17, 3) := by decide +kernel
theorem d_Stk_pushByte_37 : decode b_Stk_pushByte 37 = .ok (.return_, 1) := by decide +kernel
theorem d_Stk_pushWord_0 : decode b_Stk_pushWord 0 = .ok (.aload_n 0, 1) := by decide +kernel
theorem d_Stk_pushWord_1 : decode b_Stk_pushWord 1 = .ok (.iload_n 1, 1) := by decide +kernel
theorem d_Stk_pushWord_2 : decode b_Stk_pushWord 2 = .ok (.bipush 8, 2) := by decide +kernel
theorem d_Stk_pushWord_4 : decode b_Stk_pushWord 4 = .ok (.ishr, 1) := by decide +kernel
theorem d_Stk_pushWord_5 : decode b_Stk_pushWord 5 = .ok (.invokevirtual 34, 3) := by decide +kernel
theorem d_Stk_pushWord_8 : decode b_Stk_pushWord 8 = .ok (.aload_n 0, 1) := by decide +kernel
theorem d_Stk_pushWord_9 : decode b_Stk_pushWord 9 = .ok (.iload_n 1, 1) := by decide +kernel
theorem d_Stk_pushWord_10 : decode b_Stk_pushWord 10 = .ok (.invokevirtual 34, 3) := by decide +kernel
theorem d_Stk_pushWord_13 : decode b_Stk_pushWord 13 = .ok (.return_, 1) := by decide +kernel
theorem d_Stk_pushValue_0 : decode b_Stk_pushValue 0 = .ok (.iload_n 2, 1) := by decide +kernel
theorem d_Stk_pushValue_1 : decode b_Stk_pushValue 1 = .ok (.ifCond .eq 11, 3) := by decide +kernel
theorem d_Stk_pushValue_4 : decode b_Stk_pushValue 4 = .ok (.aload_n 0, 1) := by decide +kernel
theorem d_Stk_pushValue_5 : decode b_Stk_pushValue 5 = .ok (.iload_n 1, 1) := by decide +kernel
theorem d_Stk_pushValue_6 : decode b_Stk_pushValue 6 = .ok (.bipush 8, 2) := by decide +kernel
theorem d_Stk_pushValue_8 : decode b_Stk_pushValue 8 = .ok (.ishr, 1) := by decide +kernel
theorem d_Stk_pushValue_9 : decode b_Stk_pushValue 9 = .ok (.invokevirtual 34, 3) := by decide +kernel
theorem d_Stk_pushValue_12 : decode b_Stk_pushValue 12 = .ok (.aload_n 0, 1) := by decide +kernel
theorem d_Stk_pushValue_13 : decode b_Stk_pushValue 13 = .ok (.iload_n 1, 1) := by decide +kernel
theorem d_Stk_pushValue_14 : decode b_Stk_pushValue 14 = .ok (.invokevirtual 34, 3) := by decide +kernel
theorem d_Stk_pushValue_17 : decode b_Stk_pushValue 17 = .ok (.return_, 1) := by decide +kernel
theorem d_Stk_pullByte_0 : decode b_Stk_pullByte 0 = .ok (.aload_n 0, 1) := by decide +kernel
theorem d_Stk_pullByte_1 : decode b_Stk_pullByte 1 = .ok (.getfield 13, 3) := by decide +kernel
theorem d_Stk_pullByte_4 : decode b_Stk_pullByte 4 = .ok (.aload_n 0, 1) := by decide +kernel
theorem d_Stk_pullByte_5 : decode b_Stk_pullByte 5 = .ok (.getfield 13, 3) := by decide +kernel
theorem d_Stk_pullByte_8 : decode b_Stk_pullByte 8 = .ok (.getfield 17, 3) := by decide +kernel
theorem d_Stk_pullByte_11 : decode b_Stk_pullByte 11 = .ok (.iconst 1, 1) := by decide +kernel
theorem d_Stk_pullByte_12 : decode b_Stk_pullByte 12 = .ok (.iadd, 1) := by decide +kernel
theorem d_Stk_pullByte_13 : decode b_Stk_pullByte 13 = .ok (.ldc 33, 2) := by decide +kernel
theorem d_Stk_pullByte_15 : decode b_Stk_pullByte 15 = .ok (.iand, 1) := by decide +kernel
theorem d_Stk_pullByte_16 : decode b_Stk_pullByte 16 = .ok (.putfield 17, 3) := by decide +kernel
theorem d_Stk_pullByte_19 : decode b_Stk_pullByte 19 = .ok (.aload_n 0, 1) := by decide +kernel
theorem d_Stk_pullByte_20 : decode b_Stk_pullByte 20 = .ok (.getfield 7, 3) := by decide +kernel
theorem d_Stk_pullByte_23 : decode b_Stk_pullByte 23 = .ok (.aload_n 0, 1) := by decide +kernel
theorem d_Stk_pullByte_24 : decode b_Stk_pullByte 24 = .ok (.getfield 13, 3) := by decide +kernel
theorem d_Stk_pullByte_27 : decode b_Stk_pullByte 27 = .ok (.getfield 17, 3) := by decide +kernel
theorem d_Stk_pullByte_30 : decode b_Stk_pullByte 30 = .ok (.invokestatic 23, 3) := by decide +kernel
theorem d_Stk_pullByte_33 : decode b_Stk_pullByte 33 = .ok (.invokevirtual 38, 3) := by decide +kernel
theorem d_Stk_pullByte_36 : decode b_Stk_pullByte 36 = .ok (.ireturn, 1) := by decide +kernel
theorem d_Stk_pullWord_0 : decode b_Stk_pullWord 0 = .ok (.aload_n 0, 1) := by decide +kernel
theorem d_Stk_pullWord_1 : decode b_Stk_pullWord 1 = .ok (.invokevirtual 41, 3) := by decide +kernel
theorem d_Stk_pullWord_4 : decode b_Stk_pullWord 4 = .ok (.istore_n 1, 1) := by decide +kernel
theorem d_Stk_pullWord_5 : decode b_Stk_pullWord 5 = .ok (.iload_n 1, 1) := by decide +kernel
theorem d_Stk_pullWord_6 : decode b_Stk_pullWord 6 = .ok (.aload_n 0, 1) := by decide +kernel
theorem d_Stk_pullWord_7 : decode b_Stk_pullWord 7 = .ok (.invokevirtual 41, 3) := by decide +kernel
theorem d_Stk_pullWord_10 : decode b_Stk_pullWord 10 = .ok (.bipush 8, 2) := by decide +kernel
theorem d_Stk_pullWord_12 : decode b_Stk_pullWord 12 = .ok (.ishl, 1) := by decide +kernel
theorem d_Stk_pullWord_13 : decode b_Stk_pullWord 13 = .ok (.ior, 1) := by decide +kernel
theorem d_Stk_pullWord_14 : decode b_Stk_pullWord 14 = .ok (.ireturn, 1) := by decide +kernel
theorem d_Stk_pullValue_0 : decode b_Stk_pullValue 0 = .ok (.iload_n 1, 1) := by decide +kernel
theorem d_Stk_pullValue_1 : decode b_Stk_pullValue 1 = .ok (.ifCond .eq 10, 3) := by decide +kernel
theorem d_Stk_pullValue_4 : decode b_Stk_pullValue 4 = .ok (.aload_n 0, 1) := by decide +kernel
theorem d_Stk_pullValue_5 : decode b_Stk_pullValue 5 = .ok (.invokevirtual 45, 3) := by decide +kernel
theorem d_Stk_pullValue_8 : decode b_Stk_pullValue 8 = .ok (.goto 7, 3) := by decide +kernel
theorem d_Stk_pullValue_11 : decode b_Stk_pullValue 11 = .ok (.aload_n 0, 1) := by decide +kernel
theorem d_Stk_pullValue_12 : decode b_Stk_pullValue 12 = .ok (.invokevirtual 41, 3) := by decide +kernel
theorem d_Stk_pullValue_15 : decode b_Stk_pullValue 15 = .ok (.ireturn, 1) := by decide +kernel
end
section
theorem d_Prc_init_0 : decode b_Prc_init 0 = .ok (.aload_n 0, 1) := by decide +kernel
theorem d_Prc_init_1 : decode b_Prc_init 1 = .ok (.invokespecial 1, 3) := by decide +kernel
theorem d_Prc_init_4 : decode b_Prc_init 4 = .ok (.aload_n 0, 1) := by decide +kernel
theorem d_Prc_init_5 : decode b_Prc_init 5 = .ok (.aload_n 1, 1) := by decide +kernel
theorem d_Prc_init_6 : decode b_Prc_init 6 = .ok (.putfield 7, 3) := by decide +kernel
theorem d_Prc_init_9 : decode b_Prc_init 9 = .ok (.aload_n 0, 1) := by decide +kernel
theorem d_Prc_init_10 : decode b_Prc_init 10 = .ok (.aload_n 2, 1) := by decide +kernel
theorem d_Prc_init_11 : decode b_Prc_init 11 = .ok (.putfield 13, 3) := by decide +kernel
theorem d_Prc_init_14 : decode b_Prc_init 14 = .ok (.aload_n 0, 1) := by decide +kernel
theorem d_Prc_init_15 : decode b_Prc_init 15 = .ok (.new 17, 3) := by decide +kernel
theorem d_Prc_init_18 : decode b_Prc_init 18 = .ok (.dup, 1) := by decide +kernel
theorem d_Prc_init_19 : decode b_Prc_init 19 = .ok (.aload_n 1, 1) := by decide +kernel
theorem d_Prc_init_20 : decode b_Prc_init 20 = .ok (.aload_n 2, 1) := by decide +kernel
theorem d_Prc_init_21 : decode b_Prc_init 21 = .ok (.invokespecial 19, 3) := by decide +kernel
theorem d_Prc_init_24 : decode b_Prc_init 24 = .ok (.putfield 22, 3) := by decide +kernel
theorem d_Prc_init_27 : decode b_Prc_init 27 = .ok (.aload_n 0, 1) := by decide +kernel
theorem d_Prc_init_28 : decode b_Prc_init 28 = .ok (.new 26, 3) := by decide +kernel
theorem d_Prc_init_31 : decode b_Prc_init 31 = .ok (.dup, 1) := by decide +kernel
theorem d_Prc_init_32 : decode b_Prc_init 32 = .ok (.aload_n 1, 1) := by decide +kernel
theorem d_Prc_init_33 : decode b_Prc_init 33 = .ok (.aload_n 2, 1) := by decide +kernel
theorem d_Prc_init_34 : decode b_Prc_init 34 = .ok (.invokespecial 28, 3) := by decide +kernel
theorem d_Prc_init_37 : decode b_Prc_init 37 = .ok (.putfield 29, 3) := by decide +kernel
theorem d_Prc_init_40 : decode b_Prc_init 40 = .ok (.return_, 1) := by decide +kernel
theorem d_Prc_makeStep_0 : decode b_Prc_makeStep 0 = .ok (.aload_n 0, 1) := by decide +kernel
theorem d_Prc_makeStep_1 : decode b_Prc_makeStep 1 = .ok (.dup, 1) := by decide +kernel
theorem d_Prc_makeStep_2 : decode b_Prc_makeStep 2 = .ok (.getfield 33, 3) := by decide +kernel
theorem d_Prc_makeStep_5 : decode b_Prc_makeStep 5 = .ok (.iconst 1, 1) := by decide +kernel
theorem d_Prc_makeStep_6 : decode b_Prc_makeStep 6 = .ok (.iadd, 1) := by decide +kernel
theorem d_Prc_makeStep_7 : decode b_Prc_makeStep 7 = .ok (.putfield 33, 3) := by decide +kernel
theorem d_Prc_makeStep_10 : decode b_Prc_makeStep 10 = .ok (.aload_n 0, 1) := by decide +kernel
theorem d_Prc_makeStep_11 : decode b_Prc_makeStep 11 = .ok (.getfield 37, 3) := by decide +kernel
theorem d_Prc_makeStep_14 : decode b_Prc_makeStep 14 = .ok (.ifCond .eq 16, 3) := by decide +kernel
theorem d_Prc_makeStep_17 : decode b_Prc_makeStep 17 = .ok (.aload_n 0, 1) := by decide +kernel
theorem d_Prc_makeStep_18 : decode b_Prc_makeStep 18 = .ok (.iconst 0, 1) := by decide +kernel
theorem d_Prc_makeStep_19 : decode b_Prc_makeStep 19 = .ok (.putfield 37, 3) := by decide +kernel
theorem d_Prc_makeStep_22 : decode b_Prc_makeStep 22 = .ok (.aload_n 0, 1) := by decide +kernel
theorem d_Prc_makeStep_23 : decode b_Prc_makeStep 23 = .ok (.sipush 490, 3) := by decide +kernel
theorem d_Prc_makeStep_26 : decode b_Prc_makeStep 26 = .ok (.invokevirtual 41, 3) := by decide +kernel
theorem d_Prc_makeStep_29 : decode b_Prc_makeStep 29 = .ok (.return_, 1) := by decide +kernel
theorem d_Prc_makeStep_30 : decode b_Prc_makeStep 30 = .ok (.aload_n 0, 1) := by decide +kernel
theorem d_Prc_makeStep_31 : decode b_Prc_makeStep 31 = .ok (.getfield 45, 3) := by decide +kernel
theorem d_Prc_makeStep_34 : decode b_Prc_makeStep 34 = .ok (.ifCond .eq 22, 3) := by decide +kernel
theorem d_Prc_makeStep_37 : decode b_Prc_makeStep 37 = .ok (.aload_n 0, 1) := by decide +kernel
theorem d_Prc_makeStep_38 : decode b_Prc_makeStep 38 = .ok (.getfield 13, 3) := by decide +kernel
theorem d_Prc_makeStep_41 : decode b_Prc_makeStep 41 = .ok (.iconst 4, 1) := by decide +kernel
theorem d_Prc_makeStep_42 : decode b_Prc_makeStep 42 = .ok (.invokevirtual 50, 3) := by decide +kernel
theorem d_Prc_makeStep_45 : decode b_Prc_makeStep 45 = .ok (.ifCond .ne 11, 3) := by decide +kernel
theorem d_Prc_makeStep_48 : decode b_Prc_makeStep 48 = .ok (.aload_n 0, 1) := by decide +kernel
theorem d_Prc_makeStep_49 : decode b_Prc_makeStep 49 = .ok (.sipush 494, 3) := by decide +kernel
theorem d_Prc_makeStep_52 : decode b_Prc_makeStep 52 = .ok (.invokevirtual 41, 3) := by decide +kernel
theorem d_Prc_makeStep_55 : decode b_Prc_makeStep 55 = .ok (.return_, 1) := by decide +kernel
theorem d_Prc_makeStep_56 : decode b_Prc_makeStep 56 = .ok (.aload_n 0, 1) := by decide +kernel
theorem d_Prc_makeStep_57 : decode b_Prc_makeStep 57 = .ok (.getfield 22, 3) := by decide +kernel
theorem d_Prc_makeStep_60 : decode b_Prc_makeStep 60 = .ok (.invokevirtual 54, 3) := by decide +kernel
theorem d_Prc_makeStep_63 : decode b_Prc_makeStep 63 = .ok (.istore_n 1, 1) := by decide +kernel
theorem d_Prc_makeStep_64 : decode b_Prc_makeStep 64 = .ok (.iload_n 1, 1) := by decide +kernel
theorem d_Prc_makeStep_65 : decode b_Prc_makeStep 65 = .ok (.ifCond .ne 19, 3) := by decide +kernel
theorem d_Prc_makeStep_68 : decode b_Prc_makeStep 68 = .ok (.aload_n 0, 1) := by decide +kernel
theorem d_Prc_makeStep_69 : decode b_Prc_makeStep 69 = .ok (.getfield 22, 3) := by decide +kernel
theorem d_Prc_makeStep_72 : decode b_Prc_makeStep 72 = .ok (.invokevirtual 54, 3) := by decide +kernel
theorem d_Prc_makeStep_75 : decode b_Prc_makeStep 75 = .ok (.pop, 1) := by decide +kernel
theorem d_Prc_makeStep_76 : decode b_Prc_makeStep 76 = .ok (.aload_n 0, 1) := by decide +kernel
theorem d_Prc_makeStep_77 : decode b_Prc_makeStep 77 = .ok (.sipush 486, 3) := by decide +kernel
theorem d_Prc_makeStep_80 : decode b_Prc_makeStep 80 = .ok (.invokevirtual 41, 3) := by decide +kernel
theorem d_Prc_makeStep_83 : decode b_Prc_makeStep 83 = .ok (.return_, 1) := by decide +kernel
theorem d_Prc_makeStep_84 : decode b_Prc_makeStep 84 = .ok (.aload_n 0, 1) := by decide +kernel
theorem d_Prc_makeStep_85 : decode b_Prc_makeStep 85 = .ok (.iload_n 1, 1) := by decide +kernel
theorem d_Prc_makeStep_86 : decode b_Prc_makeStep 86 = .ok (.invokevirtual 58, 3) := by decide +kernel
theorem d_Prc_makeStep_89 : decode b_Prc_makeStep 89 = .ok (.ifCond .ne 91, 3) := by decide +kernel
theorem d_Prc_makeStep_92 : decode b_Prc_makeStep 92 = .ok (.aload_n 0, 1) := by decide +kernel
theorem d_Prc_makeStep_93 : decode b_Prc_makeStep 93 = .ok (.iload_n 1, 1) := by decide +kernel
theorem d_Prc_makeStep_94 : decode b_Prc_makeStep 94 = .ok (.invokevirtual 61, 3) := by decide +kernel
theorem d_Prc_makeStep_97 : decode b_Prc_makeStep 97 = .ok (.ifCond .ne 83, 3) := by decide +kernel
theorem d_Prc_makeStep_100 : decode b_Prc_makeStep 100 = .ok (.aload_n 0, 1) := by decide +kernel
theorem d_Prc_makeStep_101 : decode b_Prc_makeStep 101 = .ok (.iload_n 1, 1) := by decide +kernel
theorem d_Prc_makeStep_102 : decode b_Prc_makeStep 102 = .ok (.invokevirtual 64, 3) := by decide +kernel
theorem d_Prc_makeStep_105 : decode b_Prc_makeStep 105 = .ok (.ifCond .ne 75, 3) := by decide +kernel
theorem d_Prc_makeStep_108 : decode b_Prc_makeStep 108 = .ok (.aload_n 0, 1) := by decide +kernel
theorem d_Prc_makeStep_109 : decode b_Prc_makeStep 109 = .ok (.iload_n 1, 1) := by decide +kernel
theorem d_Prc_makeStep_110 : decode b_Prc_makeStep 110 = .ok (.invokevirtual 67, 3) := by decide +kernel
theorem d_Prc_makeStep_113 : decode b_Prc_makeStep 113 = .ok (.ifCond .ne 67, 3) := by decide +kernel
theorem d_Prc_makeStep_116 : decode b_Prc_makeStep 116 = .ok (.aload_n 0, 1) := by decide +kernel
theorem d_Prc_makeStep_117 : decode b_Prc_makeStep 117 = .ok (.iload_n 1, 1) := by decide +kernel
theorem d_Prc_makeStep_118 : decode b_Prc_makeStep 118 = .ok (.invokevirtual 70, 3) := by decide +kernel
theorem d_Prc_makeStep_121 : decode b_Prc_makeStep 121 = .ok (.ifCond .ne 59, 3) := by decide +kernel
theorem d_Prc_makeStep_124 : decode b_Prc_makeStep 124 = .ok (.aload_n 0, 1) := by decide +kernel
theorem d_Prc_makeStep_125 : decode b_Prc_makeStep 125 = .ok (.iload_n 1, 1) := by decide +kernel
theorem d_Prc_makeStep_126 : decode b_Prc_makeStep 126 = .ok (.invokevirtual 73, 3) := by decide +kernel
theorem d_Prc_makeStep_129 : decode b_Prc_makeStep 129 = .ok (.ifCond .ne 51, 3) := by decide +kernel
theorem d_Prc_makeStep_132 : decode b_Prc_makeStep 132 = .ok (.aload_n 0, 1) := by decide +kernel
theorem d_Prc_makeStep_133 : decode b_Prc_makeStep 133 = .ok (.iload_n 1, 1) := by decide +kernel
theorem d_Prc_makeStep_134 : decode b_Prc_makeStep 134 = .ok (.invokevirtual 76, 3) := by decide +kernel
theorem d_Prc_makeStep_137 : decode b_Prc_makeStep 137 = .ok (.ifCond .ne 43, 3) := by decide +kernel
theorem d_Prc_makeStep_140 : decode b_Prc_makeStep 140 = .ok (.aload_n 0, 1) := by decide +kernel
theorem d_Prc_makeStep_141 : decode b_Prc_makeStep 141 = .ok (.iload_n 1, 1) := by decide +kernel
theorem d_Prc_makeStep_142 : decode b_Prc_makeStep 142 = .ok (.invokevirtual 79, 3) := by decide +kernel
theorem d_Prc_makeStep_145 : decode b_Prc_makeStep 145 = .ok (.ifCond .ne 35, 3) := by decide +kernel
theorem d_Prc_makeStep_148 : decode b_Prc_makeStep 148 = .ok (.aload_n 0, 1) := by decide +kernel
theorem d_Prc_makeStep_149 : decode b_Prc_makeStep 149 = .ok (.iload_n 1, 1) := by decide +kernel
theorem d_Prc_makeStep_150 : decode b_Prc_makeStep 150 = .ok (.invokevirtual 82, 3) := by decide +kernel
theorem d_Prc_makeStep_153 : decode b_Prc_makeStep 153 = .ok (.ifCond .ne 27, 3) := by decide +kernel
theorem d_Prc_makeStep_156 : decode b_Prc_makeStep 156 = .ok (.aload_n 0, 1) := by decide +kernel
theorem d_Prc_makeStep_157 : decode b_Prc_makeStep 157 = .ok (.iload_n 1, 1) := by decide +kernel
theorem d_Prc_makeStep_158 : decode b_Prc_makeStep 158 = .ok (.invokevirtual 85, 3) := by decide +kernel
theorem d_Prc_makeStep_161 : decode b_Prc_makeStep 161 = .ok (.ifCond .ne 19, 3) := by decide +kernel
theorem d_Prc_makeStep_164 : decode b_Prc_makeStep 164 = .ok (.aload_n 0, 1) := by decide +kernel
theorem d_Prc_makeStep_165 : decode b_Prc_makeStep 165 = .ok (.iload_n 1, 1) := by decide +kernel
theorem d_Prc_makeStep_166 : decode b_Prc_makeStep 166 = .ok (.invokevirtual 88, 3) := by decide +kernel
theorem d_Prc_makeStep_169 : decode b_Prc_makeStep 169 = .ok (.ifCond .ne 11, 3) := by decide +kernel
theorem d_Prc_makeStep_172 : decode b_Prc_makeStep 172 = .ok (.aload_n 0, 1) := by decide +kernel
theorem d_Prc_makeStep_173 : decode b_Prc_makeStep 173 = .ok (.iload_n 1, 1) := by decide +kernel
theorem d_Prc_makeStep_174 : decode b_Prc_makeStep 174 = .ok (.invokevirtual 91, 3) := by decide +kernel
theorem d_Prc_makeStep_177 : decode b_Prc_makeStep 177 = .ok (.ifCond .eq 7, 3) := by decide +kernel
theorem d_Prc_makeStep_180 : decode b_Prc_makeStep 180 = .ok (.iconst 1, 1) := by decide +kernel
theorem d_Prc_makeStep_181 : decode b_Prc_makeStep 181 = .ok (.goto 4, 3) := by decide +kernel
theorem d_Prc_makeStep_184 : decode b_Prc_makeStep 184 = .ok (.iconst 0, 1) := by decide +kernel
theorem d_Prc_makeStep_185 : decode b_Prc_makeStep 185 = .ok (.istore_n 2, 1) := by decide +kernel
theorem d_Prc_makeStep_186 : decode b_Prc_makeStep 186 = .ok (.aload_n 0, 1) := by decide +kernel
theorem d_Prc_makeStep_187 : decode b_Prc_makeStep 187 = .ok (.iload_n 2, 1) := by decide +kernel
theorem d_Prc_makeStep_188 : decode b_Prc_makeStep 188 = .ok (.ifCond .ne 7, 3) := by decide +kernel
theorem d_Prc_makeStep_191 : decode b_Prc_makeStep 191 = .ok (.iconst 1, 1) := by decide +kernel
theorem d_Prc_makeStep_192 : decode b_Prc_makeStep 192 = .ok (.goto 4, 3) := by decide +kernel
theorem d_Prc_makeStep_195 : decode b_Prc_makeStep 195 = .ok (.iconst 0, 1) := by decide +kernel
theorem d_Prc_makeStep_196 : decode b_Prc_makeStep 196 = .ok (.putfield 94, 3) := by decide +kernel
theorem d_Prc_makeStep_199 : decode b_Prc_makeStep 199 = .ok (.return_, 1) := by decide +kernel
theorem d_Prc_enterInterrupt_0 : decode b_Prc_enterInterrupt 0 = .ok (.aload_n 0, 1) := by decide +kernel
theorem d_Prc_enterInterrupt_1 : decode b_Prc_enterInterrupt 1 = .ok (.getfield 29, 3) := by decide +kernel
theorem d_Prc_enterInterrupt_4 : decode b_Prc_enterInterrupt 4 = .ok (.aload_n 0, 1) := by decide +kernel
theorem d_Prc_enterInterrupt_5 : decode b_Prc_enterInterrupt 5 = .ok (.getfield 13, 3) := by decide +kernel
theorem d_Prc_enterInterrupt_8 : decode b_Prc_enterInterrupt 8 = .ok (.getfield 97, 3) := by decide +kernel
theorem d_Prc_enterInterrupt_11 : decode b_Prc_enterInterrupt 11 = .ok (.invokevirtual 100, 3) := by decide +kernel
theorem d_Prc_enterInterrupt_14 : decode b_Prc_enterInterrupt 14 = .ok (.aload_n 0, 1) := by decide +kernel
theorem d_Prc_enterInterrupt_15 : decode b_Prc_enterInterrupt 15 = .ok (.getfield 29, 3) := by decide +kernel
theorem d_Prc_enterInterrupt_18 : decode b_Prc_enterInterrupt 18 = .ok (.aload_n 0, 1) := by decide +kernel
theorem d_Prc_enterInterrupt_19 : decode b_Prc_enterInterrupt 19 = .ok (.getfield 13, 3) := by decide +kernel
theorem d_Prc_enterInterrupt_22 : decode b_Prc_enterInterrupt 22 = .ok (.getfield 103, 3) := by decide +kernel
theorem d_Prc_enterInterrupt_25 : decode b_Prc_enterInterrupt 25 = .ok (.invokevirtual 106, 3) := by decide +kernel
theorem d_Prc_enterInterrupt_28 : decode b_Prc_enterInterrupt 28 = .ok (.aload_n 0, 1) := by decide +kernel
theorem d_Prc_enterInterrupt_29 : decode b_Prc_enterInterrupt 29 = .ok (.getfield 29, 3) := by decide +kernel
theorem d_Prc_enterInterrupt_32 : decode b_Prc_enterInterrupt 32 = .ok (.aload_n 0, 1) := by decide +kernel
theorem d_Prc_enterInterrupt_33 : decode b_Prc_enterInterrupt 33 = .ok (.getfield 13, 3) := by decide +kernel
theorem d_Prc_enterInterrupt_36 : decode b_Prc_enterInterrupt 36 = .ok (.getfield 109, 3) := by decide +kernel
theorem d_Prc_enterInterrupt_39 : decode b_Prc_enterInterrupt 39 = .ok (.invokevirtual 100, 3) := by decide +kernel
theorem d_Prc_enterInterrupt_42 : decode b_Prc_enterInterrupt 42 = .ok (.aload_n 0, 1) := by decide +kernel
theorem d_Prc_enterInterrupt_43 : decode b_Prc_enterInterrupt 43 = .ok (.getfield 13, 3) := by decide +kernel
theorem d_Prc_enterInterrupt_46 : decode b_Prc_enterInterrupt 46 = .ok (.iconst 4, 1) := by decide +kernel
theorem d_Prc_enterInterrupt_47 : decode b_Prc_enterInterrupt 47 = .ok (.iconst 1, 1) := by decide +kernel
theorem d_Prc_enterInterrupt_48 : decode b_Prc_enterInterrupt 48 = .ok (.invokevirtual 112, 3) := by decide +kernel
theorem d_Prc_enterInterrupt_51 : decode b_Prc_enterInterrupt 51 = .ok (.aload_n 0, 1) := by decide +kernel
theorem d_Prc_enterInterrupt_52 : decode b_Prc_enterInterrupt 52 = .ok (.getfield 13, 3) := by decide +kernel
theorem d_Prc_enterInterrupt_55 : decode b_Prc_enterInterrupt 55 = .ok (.bipush 8, 2) := by decide +kernel
theorem d_Prc_enterInterrupt_57 : decode b_Prc_enterInterrupt 57 = .ok (.iconst 0, 1) := by decide +kernel
theorem d_Prc_enterInterrupt_58 : decode b_Prc_enterInterrupt 58 = .ok (.invokevirtual 112, 3) := by decide +kernel
theorem d_Prc_enterInterrupt_61 : decode b_Prc_enterInterrupt 61 = .ok (.aload_n 0, 1) := by decide +kernel
theorem d_Prc_enterInterrupt_62 : decode b_Prc_enterInterrupt 62 = .ok (.getfield 13, 3) := by decide +kernel
theorem d_Prc_enterInterrupt_65 : decode b_Prc_enterInterrupt 65 = .ok (.iconst 0, 1) := by decide +kernel
theorem d_Prc_enterInterrupt_66 : decode b_Prc_enterInterrupt 66 = .ok (.putfield 97, 3) := by decide +kernel
theorem d_Prc_enterInterrupt_69 : decode b_Prc_enterInterrupt 69 = .ok (.aload_n 0, 1) := by decide +kernel
theorem d_Prc_enterInterrupt_70 : decode b_Prc_enterInterrupt 70 = .ok (.getfield 13, 3) := by decide +kernel
theorem d_Prc_enterInterrupt_73 : decode b_Prc_enterInterrupt 73 = .ok (.aload_n 0, 1) := by decide +kernel
theorem d_Prc_enterInterrupt_74 : decode b_Prc_enterInterrupt 74 = .ok (.getfield 7, 3) := by decide +kernel
theorem d_Prc_enterInterrupt_77 : decode b_Prc_enterInterrupt 77 = .ok (.iload_n 1, 1) := by decide +kernel
theorem d_Prc_enterInterrupt_78 : decode b_Prc_enterInterrupt 78 = .ok (.invokestatic 116, 3) := by decide +kernel
theorem d_Prc_enterInterrupt_81 : decode b_Prc_enterInterrupt 81 = .ok (.invokevirtual 122, 3) := by decide +kernel
theorem d_Prc_enterInterrupt_84 : decode b_Prc_enterInterrupt 84 = .ok (.putfield 103, 3) := by decide +kernel
theorem d_Prc_enterInterrupt_87 : decode b_Prc_enterInterrupt 87 = .ok (.return_, 1) := by decide +kernel
theorem d_Prc_useAccumulator_0 : decode b_Prc_useAccumulator 0 = .ok (.iload_n 1, 1) := by decide +kernel
theorem d_Prc_useAccumulator_1 : decode b_Prc_useAccumulator 1 = .ok (.bipush 31, 2) := by decide +kernel
theorem d_Prc_useAccumulator_3 : decode b_Prc_useAccumulator 3 = .ok (.iand, 1) := by decide +kernel
theorem d_Prc_useAccumulator_4 : decode b_Prc_useAccumulator 4 = .ok (.istore_n 2, 1) := by decide +kernel
theorem d_Prc_useAccumulator_5 : decode b_Prc_useAccumulator 5 = .ok (.iload_n 1, 1) := by decide +kernel
theorem d_Prc_useAccumulator_6 : decode b_Prc_useAccumulator 6 = .ok (.iconst 5, 1) := by decide +kernel
theorem d_Prc_useAccumulator_7 : decode b_Prc_useAccumulator 7 = .ok (.ishr, 1) := by decide +kernel
theorem d_Prc_useAccumulator_8 : decode b_Prc_useAccumulator 8 = .ok (.istore_n 3, 1) := by decide +kernel
theorem d_Prc_useAccumulator_9 : decode b_Prc_useAccumulator 9 = .ok (.iload_n 2, 1) := by decide +kernel
theorem d_Prc_useAccumulator_10 : decode b_Prc_useAccumulator 10 = .ok (.invokestatic 125, 3) := by decide +kernel
theorem d_Prc_useAccumulator_13 : decode b_Prc_useAccumulator 13 = .ok (.ifCond .eq 10, 3) := by decide +kernel
theorem d_Prc_useAccumulator_16 : decode b_Prc_useAccumulator 16 = .ok (.iload_n 1, 1) := by decide +kernel
theorem d_Prc_useAccumulator_17 : decode b_Prc_useAccumulator 17 = .ok (.sipush 137, 3) := by decide +kernel
theorem d_Prc_useAccumulator_20 : decode b_Prc_useAccumulator 20 = .ok (.if_icmp .ne 5, 3) := by decide +kernel
theorem d_Prc_useAccumulator_23 : decode b_Prc_useAccumulator 23 = .ok (.iconst 0, 1) := by decide +kernel
theorem d_Prc_useAccumulator_24 : decode b_Prc_useAccumulator 24 = .ok (.ireturn, 1) := by decide +kernel
theorem d_Prc_useAccumulator_25 : decode b_Prc_useAccumulator 25 = .ok (.aload_n 0, 1) := by decide +kernel
theorem d_Prc_useAccumulator_26 : decode b_Prc_useAccumulator 26 = .ok (.getfield 13, 3) := by decide +kernel
theorem d_Prc_useAccumulator_29 : decode b_Prc_useAccumulator 29 = .ok (.invokevirtual 128, 3) := by decide +kernel
theorem d_Prc_useAccumulator_32 : decode b_Prc_useAccumulator 32 = .ok (.istore 4, 2) := by decide +kernel
theorem d_Prc_useAccumulator_34 : decode b_Prc_useAccumulator 34 = .ok (.iload_n 3, 1) := by decide +kernel
theorem d_Prc_useAccumulator_35 : decode b_Prc_useAccumulator 35 = .ok (.iconst 4, 1) := by decide +kernel
theorem d_Prc_useAccumulator_36 : decode b_Prc_useAccumulator 36 = .ok (.if_icmp .ne 29, 3) := by decide +kernel
theorem d_Prc_useAccumulator_39 : decode b_Prc_useAccumulator 39 = .ok (.aload_n 0, 1) := by decide +kernel
theorem d_Prc_useAccumulator_40 : decode b_Prc_useAccumulator 40 = .ok (.getfield 7, 3) := by decide +kernel
theorem d_Prc_useAccumulator_43 : decode b_Prc_useAccumulator 43 = .ok (.aload_n 0, 1) := by decide +kernel
theorem d_Prc_useAccumulator_44 : decode b_Prc_useAccumulator 44 = .ok (.getfield 22, 3) := by decide +kernel
theorem d_Prc_useAccumulator_47 : decode b_Prc_useAccumulator 47 = .ok (.iload_n 2, 1) := by decide +kernel
theorem d_Prc_useAccumulator_48 : decode b_Prc_useAccumulator 48 = .ok (.invokevirtual 132, 3) := by decide +kernel
theorem d_Prc_useAccumulator_51 : decode b_Prc_useAccumulator 51 = .ok (.aload_n 0, 1) := by decide +kernel
theorem d_Prc_useAccumulator_52 : decode b_Prc_useAccumulator 52 = .ok (.getfield 13, 3) := by decide +kernel
theorem d_Prc_useAccumulator_55 : decode b_Prc_useAccumulator 55 = .ok (.getfield 135, 3) := by decide +kernel
theorem d_Prc_useAccumulator_58 : decode b_Prc_useAccumulator 58 = .ok (.iload 4, 2) := by decide +kernel
theorem d_Prc_useAccumulator_60 : decode b_Prc_useAccumulator 60 = .ok (.invokevirtual 138, 3) := by decide +kernel
theorem d_Prc_useAccumulator_63 : decode b_Prc_useAccumulator 63 = .ok (.iconst 1, 1) := by decide +kernel
theorem d_Prc_useAccumulator_64 : decode b_Prc_useAccumulator 64 = .ok (.ireturn, 1) := by decide +kernel
theorem d_Prc_useAccumulator_65 : decode b_Prc_useAccumulator 65 = .ok (.iload_n 2, 1) := by decide +kernel
theorem d_Prc_useAccumulator_66 : decode b_Prc_useAccumulator 66 = .ok (.bipush 9, 2) := by decide +kernel
theorem d_Prc_useAccumulator_68 : decode b_Prc_useAccumulator 68 = .ok (.if_icmp .ne 15, 3) := by decide +kernel
theorem d_Prc_useAccumulator_71 : decode b_Prc_useAccumulator 71 = .ok (.aload_n 0, 1) := by decide +kernel
theorem d_Prc_useAccumulator_72 : decode b_Prc_useAccumulator 72 = .ok (.getfield 22, 3) := by decide +kernel
theorem d_Prc_useAccumulator_75 : decode b_Prc_useAccumulator 75 = .ok (.iload 4, 2) := by decide +kernel
theorem d_Prc_useAccumulator_77 : decode b_Prc_useAccumulator 77 = .ok (.invokevirtual 142, 3) := by decide +kernel
theorem d_Prc_useAccumulator_80 : decode b_Prc_useAccumulator 80 = .ok (.goto 20, 3) := by decide +kernel
theorem d_Prc_useAccumulator_83 : decode b_Prc_useAccumulator 83 = .ok (.aload_n 0, 1) := by decide +kernel
theorem d_Prc_useAccumulator_84 : decode b_Prc_useAccumulator 84 = .ok (.getfield 7, 3) := by decide +kernel
theorem d_Prc_useAccumulator_87 : decode b_Prc_useAccumulator 87 = .ok (.aload_n 0, 1) := by decide +kernel
theorem d_Prc_useAccumulator_88 : decode b_Prc_useAccumulator 88 = .ok (.getfield 22, 3) := by decide +kernel
theorem d_Prc_useAccumulator_91 : decode b_Prc_useAccumulator 91 = .ok (.iload_n 2, 1) := by decide +kernel
theorem d_Prc_useAccumulator_92 : decode b_Prc_useAccumulator 92 = .ok (.invokevirtual 132, 3) := by decide +kernel
theorem d_Prc_useAccumulator_95 : decode b_Prc_useAccumulator 95 = .ok (.iload 4, 2) := by decide +kernel
theorem d_Prc_useAccumulator_97 : decode b_Prc_useAccumulator 97 = .ok (.invokevirtual 146, 3) := by decide +kernel
theorem d_Prc_useAccumulator_100 : decode b_Prc_useAccumulator 100 = .ok (.istore 5, 2) := by decide +kernel
theorem d_Prc_useAccumulator_102 : decode b_Prc_useAccumulator 102 = .ok (.iload_n 3, 1) := by decide +kernel
theorem d_Prc_useAccumulator_103 : decode b_Prc_useAccumulator 103 = .ok (.tableswitch 161 0 7 #[45, 65, 85, 105, 161, 114, 126, 144], 45) := by decide +kernel
theorem d_Prc_useAccumulator_148 : decode b_Prc_useAccumulator 148 = .ok (.aload_n 0, 1) := by decide +kernel
theorem d_Prc_useAccumulator_149 : decode b_Prc_useAccumulator 149 = .ok (.getfield 13, 3) := by decide +kernel
theorem d_Prc_useAccumulator_152 : decode b_Prc_useAccumulator 152 = .ok (.aload_n 0, 1) := by decide +kernel
theorem d_Prc_useAccumulator_153 : decode b_Prc_useAccumulator 153 = .ok (.getfield 13, 3) := by decide +kernel
theorem d_Prc_useAccumulator_156 : decode b_Prc_useAccumulator 156 = .ok (.invokevirtual 150, 3) := by decide +kernel
theorem d_Prc_useAccumulator_159 : decode b_Prc_useAccumulator 159 = .ok (.iload 5, 2) := by decide +kernel
theorem d_Prc_useAccumulator_161 : decode b_Prc_useAccumulator 161 = .ok (.ior, 1) := by decide +kernel
theorem d_Prc_useAccumulator_162 : decode b_Prc_useAccumulator 162 = .ok (.invokevirtual 153, 3) := by decide +kernel
theorem d_Prc_useAccumulator_165 : decode b_Prc_useAccumulator 165 = .ok (.goto 101, 3) := by decide +kernel
theorem d_Prc_useAccumulator_168 : decode b_Prc_useAccumulator 168 = .ok (.aload_n 0, 1) := by decide +kernel
theorem d_Prc_useAccumulator_169 : decode b_Prc_useAccumulator 169 = .ok (.getfield 13, 3) := by decide +kernel
theorem d_Prc_useAccumulator_172 : decode b_Prc_useAccumulator 172 = .ok (.aload_n 0, 1) := by decide +kernel
theorem d_Prc_useAccumulator_173 : decode b_Prc_useAccumulator 173 = .ok (.getfield 13, 3) := by decide +kernel
theorem d_Prc_useAccumulator_176 : decode b_Prc_useAccumulator 176 = .ok (.invokevirtual 150, 3) := by decide +kernel
theorem d_Prc_useAccumulator_179 : decode b_Prc_useAccumulator 179 = .ok (.iload 5, 2) := by decide +kernel
theorem d_Prc_useAccumulator_181 : decode b_Prc_useAccumulator 181 = .ok (.iand, 1) := by decide +kernel
theorem d_Prc_useAccumulator_182 : decode b_Prc_useAccumulator 182 = .ok (.invokevirtual 153, 3) := by decide +kernel
theorem d_Prc_useAccumulator_185 : decode b_Prc_useAccumulator 185 = .ok (.goto 81, 3) := by decide +kernel
theorem d_Prc_useAccumulator_188 : decode b_Prc_useAccumulator 188 = .ok (.aload_n 0, 1) := by decide +kernel
theorem d_Prc_useAccumulator_189 : decode b_Prc_useAccumulator 189 = .ok (.getfield 13, 3) := by decide +kernel
theorem d_Prc_useAccumulator_192 : decode b_Prc_useAccumulator 192 = .ok (.aload_n 0, 1) := by decide +kernel
theorem d_Prc_useAccumulator_193 : decode b_Prc_useAccumulator 193 = .ok (.getfield 13, 3) := by decide +kernel
theorem d_Prc_useAccumulator_196 : decode b_Prc_useAccumulator 196 = .ok (.invokevirtual 150, 3) := by decide +kernel
theorem d_Prc_useAccumulator_199 : decode b_Prc_useAccumulator 199 = .ok (.iload 5, 2) := by decide +kernel
theorem d_Prc_useAccumulator_201 : decode b_Prc_useAccumulator 201 = .ok (.ixor, 1) := by decide +kernel
theorem d_Prc_useAccumulator_202 : decode b_Prc_useAccumulator 202 = .ok (.invokevirtual 153, 3) := by decide +kernel
theorem d_Prc_useAccumulator_205 : decode b_Prc_useAccumulator 205 = .ok (.goto 61, 3) := by decide +kernel
theorem d_Prc_useAccumulator_208 : decode b_Prc_useAccumulator 208 = .ok (.aload_n 0, 1) := by decide +kernel
theorem d_Prc_useAccumulator_209 : decode b_Prc_useAccumulator 209 = .ok (.iload 5, 2) := by decide +kernel
theorem d_Prc_useAccumulator_211 : decode b_Prc_useAccumulator 211 = .ok (.invokevirtual 156, 3) := by decide +kernel
theorem d_Prc_useAccumulator_214 : decode b_Prc_useAccumulator 214 = .ok (.goto 52, 3) := by decide +kernel
theorem d_Prc_useAccumulator_217 : decode b_Prc_useAccumulator 217 = .ok (.aload_n 0, 1) := by decide +kernel
theorem d_Prc_useAccumulator_218 : decode b_Prc_useAccumulator 218 = .ok (.getfield 13, 3) := by decide +kernel
theorem d_Prc_useAccumulator_221 : decode b_Prc_useAccumulator 221 = .ok (.iload 5, 2) := by decide +kernel
theorem d_Prc_useAccumulator_223 : decode b_Prc_useAccumulator 223 = .ok (.invokevirtual 153, 3) := by decide +kernel
theorem d_Prc_useAccumulator_226 : decode b_Prc_useAccumulator 226 = .ok (.goto 40, 3) := by decide +kernel
theorem d_Prc_useAccumulator_229 : decode b_Prc_useAccumulator 229 = .ok (.aload_n 0, 1) := by decide +kernel
theorem d_Prc_useAccumulator_230 : decode b_Prc_useAccumulator 230 = .ok (.aload_n 0, 1) := by decide +kernel
theorem d_Prc_useAccumulator_231 : decode b_Prc_useAccumulator 231 = .ok (.getfield 13, 3) := by decide +kernel
theorem d_Prc_useAccumulator_234 : decode b_Prc_useAccumulator 234 = .ok (.invokevirtual 150, 3) := by decide +kernel
theorem d_Prc_useAccumulator_237 : decode b_Prc_useAccumulator 237 = .ok (.iload 5, 2) := by decide +kernel
theorem d_Prc_useAccumulator_239 : decode b_Prc_useAccumulator 239 = .ok (.iload 4, 2) := by decide +kernel
theorem d_Prc_useAccumulator_241 : decode b_Prc_useAccumulator 241 = .ok (.invokevirtual 159, 3) := by decide +kernel
theorem d_Prc_useAccumulator_244 : decode b_Prc_useAccumulator 244 = .ok (.goto 22, 3) := by decide +kernel
theorem d_Prc_useAccumulator_247 : decode b_Prc_useAccumulator 247 = .ok (.aload_n 0, 1) := by decide +kernel
theorem d_Prc_useAccumulator_248 : decode b_Prc_useAccumulator 248 = .ok (.iload 5, 2) := by decide +kernel
theorem d_Prc_useAccumulator_250 : decode b_Prc_useAccumulator 250 = .ok (.iconst (-1), 1) := by decide +kernel
theorem d_Prc_useAccumulator_251 : decode b_Prc_useAccumulator 251 = .ok (.ixor, 1) := by decide +kernel
theorem d_Prc_useAccumulator_252 : decode b_Prc_useAccumulator 252 = .ok (.iload 4, 2) := by decide +kernel
theorem d_Prc_useAccumulator_254 : decode b_Prc_useAccumulator 254 = .ok (.invokestatic 162, 3) := by decide +kernel
theorem d_Prc_useAccumulator_257 : decode b_Prc_useAccumulator 257 = .ok (.iand, 1) := by decide +kernel
theorem d_Prc_useAccumulator_258 : decode b_Prc_useAccumulator 258 = .ok (.invokevirtual 156, 3) := by decide +kernel
theorem d_Prc_useAccumulator_261 : decode b_Prc_useAccumulator 261 = .ok (.goto 5, 3) := by decide +kernel
theorem d_Prc_useAccumulator_264 : decode b_Prc_useAccumulator 264 = .ok (.iconst 0, 1) := by decide +kernel
theorem d_Prc_useAccumulator_265 : decode b_Prc_useAccumulator 265 = .ok (.ireturn, 1) := by decide +kernel
theorem d_Prc_useAccumulator_266 : decode b_Prc_useAccumulator 266 = .ok (.iconst 1, 1) := by decide +kernel
theorem d_Prc_useAccumulator_267 : decode b_Prc_useAccumulator 267 = .ok (.ireturn, 1) := by decide +kernel
theorem d_Prc_addToA_0 : decode b_Prc_addToA 0 = .ok (.aload_n 0, 1) := by decide +kernel
theorem d_Prc_addToA_1 : decode b_Prc_addToA 1 = .ok (.getfield 13, 3) := by decide +kernel
theorem d_Prc_addToA_4 : decode b_Prc_addToA 4 = .ok (.invokevirtual 128, 3) := by decide +kernel
theorem d_Prc_addToA_7 : decode b_Prc_addToA 7 = .ok (.istore_n 2, 1) := by decide +kernel
theorem d_Prc_addToA_8 : decode b_Prc_addToA 8 = .ok (.aload_n 0, 1) := by decide +kernel
theorem d_Prc_addToA_9 : decode b_Prc_addToA 9 = .ok (.getfield 13, 3) := by decide +kernel
theorem d_Prc_addToA_12 : decode b_Prc_addToA 12 = .ok (.invokevirtual 150, 3) := by decide +kernel
theorem d_Prc_addToA_15 : decode b_Prc_addToA 15 = .ok (.istore_n 3, 1) := by decide +kernel
theorem d_Prc_addToA_16 : decode b_Prc_addToA 16 = .ok (.iload_n 3, 1) := by decide +kernel
theorem d_Prc_addToA_17 : decode b_Prc_addToA 17 = .ok (.iload_n 1, 1) := by decide +kernel
theorem d_Prc_addToA_18 : decode b_Prc_addToA 18 = .ok (.iadd, 1) := by decide +kernel
theorem d_Prc_addToA_19 : decode b_Prc_addToA 19 = .ok (.aload_n 0, 1) := by decide +kernel
theorem d_Prc_addToA_20 : decode b_Prc_addToA 20 = .ok (.getfield 13, 3) := by decide +kernel
theorem d_Prc_addToA_23 : decode b_Prc_addToA 23 = .ok (.getfield 109, 3) := by decide +kernel
theorem d_Prc_addToA_26 : decode b_Prc_addToA 26 = .ok (.iconst 1, 1) := by decide +kernel
theorem d_Prc_addToA_27 : decode b_Prc_addToA 27 = .ok (.iand, 1) := by decide +kernel
theorem d_Prc_addToA_28 : decode b_Prc_addToA 28 = .ok (.iadd, 1) := by decide +kernel
theorem d_Prc_addToA_29 : decode b_Prc_addToA 29 = .ok (.istore 4, 2) := by decide +kernel
theorem d_Prc_addToA_31 : decode b_Prc_addToA 31 = .ok (.iload_n 3, 1) := by decide +kernel
theorem d_Prc_addToA_32 : decode b_Prc_addToA 32 = .ok (.iload_n 1, 1) := by decide +kernel
theorem d_Prc_addToA_33 : decode b_Prc_addToA 33 = .ok (.ixor, 1) := by decide +kernel
theorem d_Prc_addToA_34 : decode b_Prc_addToA 34 = .ok (.iconst (-1), 1) := by decide +kernel
theorem d_Prc_addToA_35 : decode b_Prc_addToA 35 = .ok (.ixor, 1) := by decide +kernel
theorem d_Prc_addToA_36 : decode b_Prc_addToA 36 = .ok (.iload_n 3, 1) := by decide +kernel
theorem d_Prc_addToA_37 : decode b_Prc_addToA 37 = .ok (.iload 4, 2) := by decide +kernel
theorem d_Prc_addToA_39 : decode b_Prc_addToA 39 = .ok (.ixor, 1) := by decide +kernel
theorem d_Prc_addToA_40 : decode b_Prc_addToA 40 = .ok (.iand, 1) := by decide +kernel
theorem d_Prc_addToA_41 : decode b_Prc_addToA 41 = .ok (.iload_n 2, 1) := by decide +kernel
theorem d_Prc_addToA_42 : decode b_Prc_addToA 42 = .ok (.invokestatic 165, 3) := by decide +kernel
theorem d_Prc_addToA_45 : decode b_Prc_addToA 45 = .ok (.iand, 1) := by decide +kernel
theorem d_Prc_addToA_46 : decode b_Prc_addToA 46 = .ok (.istore 5, 2) := by decide +kernel
theorem d_Prc_addToA_48 : decode b_Prc_addToA 48 = .ok (.aload_n 0, 1) := by decide +kernel
theorem d_Prc_addToA_49 : decode b_Prc_addToA 49 = .ok (.getfield 13, 3) := by decide +kernel
theorem d_Prc_addToA_52 : decode b_Prc_addToA 52 = .ok (.bipush 64, 2) := by decide +kernel
theorem d_Prc_addToA_54 : decode b_Prc_addToA 54 = .ok (.iload 5, 2) := by decide +kernel
theorem d_Prc_addToA_56 : decode b_Prc_addToA 56 = .ok (.ifCond .eq 7, 3) := by decide +kernel
theorem d_Prc_addToA_59 : decode b_Prc_addToA 59 = .ok (.iconst 1, 1) := by decide +kernel
theorem d_Prc_addToA_60 : decode b_Prc_addToA 60 = .ok (.goto 4, 3) := by decide +kernel
theorem d_Prc_addToA_63 : decode b_Prc_addToA 63 = .ok (.iconst 0, 1) := by decide +kernel
theorem d_Prc_addToA_64 : decode b_Prc_addToA 64 = .ok (.invokevirtual 112, 3) := by decide +kernel
theorem d_Prc_addToA_67 : decode b_Prc_addToA 67 = .ok (.aload_n 0, 1) := by decide +kernel
theorem d_Prc_addToA_68 : decode b_Prc_addToA 68 = .ok (.getfield 13, 3) := by decide +kernel
theorem d_Prc_addToA_71 : decode b_Prc_addToA 71 = .ok (.iconst 1, 1) := by decide +kernel
theorem d_Prc_addToA_72 : decode b_Prc_addToA 72 = .ok (.iload 4, 2) := by decide +kernel
theorem d_Prc_addToA_74 : decode b_Prc_addToA 74 = .ok (.iload_n 2, 1) := by decide +kernel
theorem d_Prc_addToA_75 : decode b_Prc_addToA 75 = .ok (.invokestatic 162, 3) := by decide +kernel
theorem d_Prc_addToA_78 : decode b_Prc_addToA 78 = .ok (.if_icmp .le 7, 3) := by decide +kernel
theorem d_Prc_addToA_81 : decode b_Prc_addToA 81 = .ok (.iconst 1, 1) := by decide +kernel
theorem d_Prc_addToA_82 : decode b_Prc_addToA 82 = .ok (.goto 4, 3) := by decide +kernel
theorem d_Prc_addToA_85 : decode b_Prc_addToA 85 = .ok (.iconst 0, 1) := by decide +kernel
theorem d_Prc_addToA_86 : decode b_Prc_addToA 86 = .ok (.invokevirtual 112, 3) := by decide +kernel
theorem d_Prc_addToA_89 : decode b_Prc_addToA 89 = .ok (.aload_n 0, 1) := by decide +kernel
theorem d_Prc_addToA_90 : decode b_Prc_addToA 90 = .ok (.getfield 13, 3) := by decide +kernel
theorem d_Prc_addToA_93 : decode b_Prc_addToA 93 = .ok (.iload 4, 2) := by decide +kernel
theorem d_Prc_addToA_95 : decode b_Prc_addToA 95 = .ok (.invokevirtual 153, 3) := by decide +kernel
theorem d_Prc_addToA_98 : decode b_Prc_addToA 98 = .ok (.return_, 1) := by decide +kernel
theorem d_Prc_compare_0 : decode b_Prc_compare 0 = .ok (.aload_n 0, 1) := by decide +kernel
theorem d_Prc_compare_1 : decode b_Prc_compare 1 = .ok (.getfield 13, 3) := by decide +kernel
theorem d_Prc_compare_4 : decode b_Prc_compare 4 = .ok (.iconst 1, 1) := by decide +kernel
theorem d_Prc_compare_5 : decode b_Prc_compare 5 = .ok (.iload_n 1, 1) := by decide +kernel
theorem d_Prc_compare_6 : decode b_Prc_compare 6 = .ok (.iload_n 2, 1) := by decide +kernel
theorem d_Prc_compare_7 : decode b_Prc_compare 7 = .ok (.if_icmp .lt 7, 3) := by decide +kernel
theorem d_Prc_compare_10 : decode b_Prc_compare 10 = .ok (.iconst 1, 1) := by decide +kernel
theorem d_Prc_compare_11 : decode b_Prc_compare 11 = .ok (.goto 4, 3) := by decide +kernel
theorem d_Prc_compare_14 : decode b_Prc_compare 14 = .ok (.iconst 0, 1) := by decide +kernel
theorem d_Prc_compare_15 : decode b_Prc_compare 15 = .ok (.invokevirtual 112, 3) := by decide +kernel
theorem d_Prc_compare_18 : decode b_Prc_compare 18 = .ok (.aload_n 0, 1) := by decide +kernel
theorem d_Prc_compare_19 : decode b_Prc_compare 19 = .ok (.getfield 13, 3) := by decide +kernel
theorem d_Prc_compare_22 : decode b_Prc_compare 22 = .ok (.iload_n 1, 1) := by decide +kernel
theorem d_Prc_compare_23 : decode b_Prc_compare 23 = .ok (.iload_n 2, 1) := by decide +kernel
theorem d_Prc_compare_24 : decode b_Prc_compare 24 = .ok (.isub, 1) := by decide +kernel
theorem d_Prc_compare_25 : decode b_Prc_compare 25 = .ok (.iload_n 3, 1) := by decide +kernel
theorem d_Prc_compare_26 : decode b_Prc_compare 26 = .ok (.invokestatic 162, 3) := by decide +kernel
theorem d_Prc_compare_29 : decode b_Prc_compare 29 = .ok (.iand, 1) := by decide +kernel
theorem d_Prc_compare_30 : decode b_Prc_compare 30 = .ok (.iload_n 3, 1) := by decide +kernel
theorem d_Prc_compare_31 : decode b_Prc_compare 31 = .ok (.invokevirtual 168, 3) := by decide +kernel
theorem d_Prc_compare_34 : decode b_Prc_compare 34 = .ok (.return_, 1) := by decide +kernel
theorem d_Prc_useIndex_0 : decode b_Prc_useIndex 0 = .ok (.aload_n 0, 1) := by decide +kernel
theorem d_Prc_useIndex_1 : decode b_Prc_useIndex 1 = .ok (.getfield 13, 3) := by decide +kernel
theorem d_Prc_useIndex_4 : decode b_Prc_useIndex 4 = .ok (.invokevirtual 171, 3) := by decide +kernel
theorem d_Prc_useIndex_7 : decode b_Prc_useIndex 7 = .ok (.istore_n 2, 1) := by decide +kernel
theorem d_Prc_useIndex_8 : decode b_Prc_useIndex 8 = .ok (.iload_n 1, 1) := by decide +kernel
theorem d_Prc_useIndex_9 : decode b_Prc_useIndex 9 = .ok (.lookupswitch 401 #[(132, 348), (134, 295), (140, 374), (142, 321), (160, 178), (162, 107), (164, 196), (166, 125), (172, 222), (174, 151), (192, 272), (224, 249)], 107) := by decide +kernel
theorem d_Prc_useIndex_116 : decode b_Prc_useIndex 116 = .ok (.aload_n 0, 1) := by decide +kernel
theorem d_Prc_useIndex_117 : decode b_Prc_useIndex 117 = .ok (.getfield 13, 3) := by decide +kernel
theorem d_Prc_useIndex_120 : decode b_Prc_useIndex 120 = .ok (.aload_n 0, 1) := by decide +kernel
theorem d_Prc_useIndex_121 : decode b_Prc_useIndex 121 = .ok (.getfield 22, 3) := by decide +kernel
theorem d_Prc_useIndex_124 : decode b_Prc_useIndex 124 = .ok (.iload_n 2, 1) := by decide +kernel
theorem d_Prc_useIndex_125 : decode b_Prc_useIndex 125 = .ok (.invokevirtual 142, 3) := by decide +kernel
theorem d_Prc_useIndex_128 : decode b_Prc_useIndex 128 = .ok (.invokevirtual 174, 3) := by decide +kernel
theorem d_Prc_useIndex_131 : decode b_Prc_useIndex 131 = .ok (.goto 281, 3) := by decide +kernel
theorem d_Prc_useIndex_134 : decode b_Prc_useIndex 134 = .ok (.aload_n 0, 1) := by decide +kernel
theorem d_Prc_useIndex_135 : decode b_Prc_useIndex 135 = .ok (.getfield 13, 3) := by decide +kernel
theorem d_Prc_useIndex_138 : decode b_Prc_useIndex 138 = .ok (.aload_n 0, 1) := by decide +kernel
theorem d_Prc_useIndex_139 : decode b_Prc_useIndex 139 = .ok (.getfield 7, 3) := by decide +kernel
theorem d_Prc_useIndex_142 : decode b_Prc_useIndex 142 = .ok (.aload_n 0, 1) := by decide +kernel
theorem d_Prc_useIndex_143 : decode b_Prc_useIndex 143 = .ok (.getfield 22, 3) := by decide +kernel
theorem d_Prc_useIndex_146 : decode b_Prc_useIndex 146 = .ok (.iconst 5, 1) := by decide +kernel
theorem d_Prc_useIndex_147 : decode b_Prc_useIndex 147 = .ok (.invokevirtual 132, 3) := by decide +kernel
theorem d_Prc_useIndex_150 : decode b_Prc_useIndex 150 = .ok (.iload_n 2, 1) := by decide +kernel
theorem d_Prc_useIndex_151 : decode b_Prc_useIndex 151 = .ok (.invokevirtual 146, 3) := by decide +kernel
theorem d_Prc_useIndex_154 : decode b_Prc_useIndex 154 = .ok (.invokevirtual 174, 3) := by decide +kernel
theorem d_Prc_useIndex_157 : decode b_Prc_useIndex 157 = .ok (.goto 255, 3) := by decide +kernel
theorem d_Prc_useIndex_160 : decode b_Prc_useIndex 160 = .ok (.aload_n 0, 1) := by decide +kernel
theorem d_Prc_useIndex_161 : decode b_Prc_useIndex 161 = .ok (.getfield 13, 3) := by decide +kernel
theorem d_Prc_useIndex_164 : decode b_Prc_useIndex 164 = .ok (.aload_n 0, 1) := by decide +kernel
theorem d_Prc_useIndex_165 : decode b_Prc_useIndex 165 = .ok (.getfield 7, 3) := by decide +kernel
theorem d_Prc_useIndex_168 : decode b_Prc_useIndex 168 = .ok (.aload_n 0, 1) := by decide +kernel
theorem d_Prc_useIndex_169 : decode b_Prc_useIndex 169 = .ok (.getfield 22, 3) := by decide +kernel
theorem d_Prc_useIndex_172 : decode b_Prc_useIndex 172 = .ok (.bipush 13, 2) := by decide +kernel
theorem d_Prc_useIndex_174 : decode b_Prc_useIndex 174 = .ok (.invokevirtual 132, 3) := by decide +kernel
theorem d_Prc_useIndex_177 : decode b_Prc_useIndex 177 = .ok (.iload_n 2, 1) := by decide +kernel
theorem d_Prc_useIndex_178 : decode b_Prc_useIndex 178 = .ok (.invokevirtual 146, 3) := by decide +kernel
theorem d_Prc_useIndex_181 : decode b_Prc_useIndex 181 = .ok (.invokevirtual 174, 3) := by decide +kernel
theorem d_Prc_useIndex_184 : decode b_Prc_useIndex 184 = .ok (.goto 228, 3) := by decide +kernel
theorem d_Prc_useIndex_187 : decode b_Prc_useIndex 187 = .ok (.aload_n 0, 1) := by decide +kernel
theorem d_Prc_useIndex_188 : decode b_Prc_useIndex 188 = .ok (.getfield 13, 3) := by decide +kernel
theorem d_Prc_useIndex_191 : decode b_Prc_useIndex 191 = .ok (.aload_n 0, 1) := by decide +kernel
theorem d_Prc_useIndex_192 : decode b_Prc_useIndex 192 = .ok (.getfield 22, 3) := by decide +kernel
theorem d_Prc_useIndex_195 : decode b_Prc_useIndex 195 = .ok (.iload_n 2, 1) := by decide +kernel
theorem d_Prc_useIndex_196 : decode b_Prc_useIndex 196 = .ok (.invokevirtual 142, 3) := by decide +kernel
theorem d_Prc_useIndex_199 : decode b_Prc_useIndex 199 = .ok (.invokevirtual 177, 3) := by decide +kernel
theorem d_Prc_useIndex_202 : decode b_Prc_useIndex 202 = .ok (.goto 210, 3) := by decide +kernel
theorem d_Prc_useIndex_205 : decode b_Prc_useIndex 205 = .ok (.aload_n 0, 1) := by decide +kernel
theorem d_Prc_useIndex_206 : decode b_Prc_useIndex 206 = .ok (.getfield 13, 3) := by decide +kernel
theorem d_Prc_useIndex_209 : decode b_Prc_useIndex 209 = .ok (.aload_n 0, 1) := by decide +kernel
theorem d_Prc_useIndex_210 : decode b_Prc_useIndex 210 = .ok (.getfield 7, 3) := by decide +kernel
theorem d_Prc_useIndex_213 : decode b_Prc_useIndex 213 = .ok (.aload_n 0, 1) := by decide +kernel
theorem d_Prc_useIndex_214 : decode b_Prc_useIndex 214 = .ok (.getfield 22, 3) := by decide +kernel
theorem d_Prc_useIndex_217 : decode b_Prc_useIndex 217 = .ok (.iconst 5, 1) := by decide +kernel
theorem d_Prc_useIndex_218 : decode b_Prc_useIndex 218 = .ok (.invokevirtual 132, 3) := by decide +kernel
theorem d_Prc_useIndex_221 : decode b_Prc_useIndex 221 = .ok (.iload_n 2, 1) := by decide +kernel
theorem d_Prc_useIndex_222 : decode b_Prc_useIndex 222 = .ok (.invokevirtual 146, 3) := by decide +kernel
theorem d_Prc_useIndex_225 : decode b_Prc_useIndex 225 = .ok (.invokevirtual 177, 3) := by decide +kernel
theorem d_Prc_useIndex_228 : decode b_Prc_useIndex 228 = .ok (.goto 184, 3) := by decide +kernel
theorem d_Prc_useIndex_231 : decode b_Prc_useIndex 231 = .ok (.aload_n 0, 1) := by decide +kernel
theorem d_Prc_useIndex_232 : decode b_Prc_useIndex 232 = .ok (.getfield 13, 3) := by decide +kernel
theorem d_Prc_useIndex_235 : decode b_Prc_useIndex 235 = .ok (.aload_n 0, 1) := by decide +kernel
theorem d_Prc_useIndex_236 : decode b_Prc_useIndex 236 = .ok (.getfield 7, 3) := by decide +kernel
theorem d_Prc_useIndex_239 : decode b_Prc_useIndex 239 = .ok (.aload_n 0, 1) := by decide +kernel
theorem d_Prc_useIndex_240 : decode b_Prc_useIndex 240 = .ok (.getfield 22, 3) := by decide +kernel
theorem d_Prc_useIndex_243 : decode b_Prc_useIndex 243 = .ok (.bipush 13, 2) := by decide +kernel
theorem d_Prc_useIndex_245 : decode b_Prc_useIndex 245 = .ok (.invokevirtual 132, 3) := by decide +kernel
theorem d_Prc_useIndex_248 : decode b_Prc_useIndex 248 = .ok (.iload_n 2, 1) := by decide +kernel
theorem d_Prc_useIndex_249 : decode b_Prc_useIndex 249 = .ok (.invokevirtual 146, 3) := by decide +kernel
theorem d_Prc_useIndex_252 : decode b_Prc_useIndex 252 = .ok (.invokevirtual 177, 3) := by decide +kernel
theorem d_Prc_useIndex_255 : decode b_Prc_useIndex 255 = .ok (.goto 157, 3) := by decide +kernel
theorem d_Prc_useIndex_258 : decode b_Prc_useIndex 258 = .ok (.aload_n 0, 1) := by decide +kernel
theorem d_Prc_useIndex_259 : decode b_Prc_useIndex 259 = .ok (.aload_n 0, 1) := by decide +kernel
theorem d_Prc_useIndex_260 : decode b_Prc_useIndex 260 = .ok (.getfield 13, 3) := by decide +kernel
theorem d_Prc_useIndex_263 : decode b_Prc_useIndex 263 = .ok (.getfield 180, 3) := by decide +kernel
theorem d_Prc_useIndex_266 : decode b_Prc_useIndex 266 = .ok (.aload_n 0, 1) := by decide +kernel
theorem d_Prc_useIndex_267 : decode b_Prc_useIndex 267 = .ok (.getfield 22, 3) := by decide +kernel
theorem d_Prc_useIndex_270 : decode b_Prc_useIndex 270 = .ok (.iload_n 2, 1) := by decide +kernel
theorem d_Prc_useIndex_271 : decode b_Prc_useIndex 271 = .ok (.invokevirtual 142, 3) := by decide +kernel
theorem d_Prc_useIndex_274 : decode b_Prc_useIndex 274 = .ok (.iload_n 2, 1) := by decide +kernel
theorem d_Prc_useIndex_275 : decode b_Prc_useIndex 275 = .ok (.invokevirtual 159, 3) := by decide +kernel
theorem d_Prc_useIndex_278 : decode b_Prc_useIndex 278 = .ok (.goto 134, 3) := by decide +kernel
theorem d_Prc_useIndex_281 : decode b_Prc_useIndex 281 = .ok (.aload_n 0, 1) := by decide +kernel
theorem d_Prc_useIndex_282 : decode b_Prc_useIndex 282 = .ok (.aload_n 0, 1) := by decide +kernel
theorem d_Prc_useIndex_283 : decode b_Prc_useIndex 283 = .ok (.getfield 13, 3) := by decide +kernel
theorem d_Prc_useIndex_286 : decode b_Prc_useIndex 286 = .ok (.getfield 183, 3) := by decide +kernel
theorem d_Prc_useIndex_289 : decode b_Prc_useIndex 289 = .ok (.aload_n 0, 1) := by decide +kernel
theorem d_Prc_useIndex_290 : decode b_Prc_useIndex 290 = .ok (.getfield 22, 3) := by decide +kernel
theorem d_Prc_useIndex_293 : decode b_Prc_useIndex 293 = .ok (.iload_n 2, 1) := by decide +kernel
theorem d_Prc_useIndex_294 : decode b_Prc_useIndex 294 = .ok (.invokevirtual 142, 3) := by decide +kernel
theorem d_Prc_useIndex_297 : decode b_Prc_useIndex 297 = .ok (.iload_n 2, 1) := by decide +kernel
theorem d_Prc_useIndex_298 : decode b_Prc_useIndex 298 = .ok (.invokevirtual 159, 3) := by decide +kernel
theorem d_Prc_useIndex_301 : decode b_Prc_useIndex 301 = .ok (.goto 111, 3) := by decide +kernel
theorem d_Prc_useIndex_304 : decode b_Prc_useIndex 304 = .ok (.aload_n 0, 1) := by decide +kernel
theorem d_Prc_useIndex_305 : decode b_Prc_useIndex 305 = .ok (.getfield 7, 3) := by decide +kernel
theorem d_Prc_useIndex_308 : decode b_Prc_useIndex 308 = .ok (.aload_n 0, 1) := by decide +kernel
theorem d_Prc_useIndex_309 : decode b_Prc_useIndex 309 = .ok (.getfield 22, 3) := by decide +kernel
theorem d_Prc_useIndex_312 : decode b_Prc_useIndex 312 = .ok (.iconst 5, 1) := by decide +kernel
theorem d_Prc_useIndex_313 : decode b_Prc_useIndex 313 = .ok (.invokevirtual 132, 3) := by decide +kernel
theorem d_Prc_useIndex_316 : decode b_Prc_useIndex 316 = .ok (.aload_n 0, 1) := by decide +kernel
theorem d_Prc_useIndex_317 : decode b_Prc_useIndex 317 = .ok (.getfield 13, 3) := by decide +kernel
theorem d_Prc_useIndex_320 : decode b_Prc_useIndex 320 = .ok (.getfield 180, 3) := by decide +kernel
theorem d_Prc_useIndex_323 : decode b_Prc_useIndex 323 = .ok (.iload_n 2, 1) := by decide +kernel
theorem d_Prc_useIndex_324 : decode b_Prc_useIndex 324 = .ok (.invokevirtual 138, 3) := by decide +kernel
theorem d_Prc_useIndex_327 : decode b_Prc_useIndex 327 = .ok (.goto 85, 3) := by decide +kernel
theorem d_Prc_useIndex_330 : decode b_Prc_useIndex 330 = .ok (.aload_n 0, 1) := by decide +kernel
theorem d_Prc_useIndex_331 : decode b_Prc_useIndex 331 = .ok (.getfield 7, 3) := by decide +kernel
theorem d_Prc_useIndex_334 : decode b_Prc_useIndex 334 = .ok (.aload_n 0, 1) := by decide +kernel
theorem d_Prc_useIndex_335 : decode b_Prc_useIndex 335 = .ok (.getfield 22, 3) := by decide +kernel
theorem d_Prc_useIndex_338 : decode b_Prc_useIndex 338 = .ok (.bipush 13, 2) := by decide +kernel
theorem d_Prc_useIndex_340 : decode b_Prc_useIndex 340 = .ok (.invokevirtual 132, 3) := by decide +kernel
theorem d_Prc_useIndex_343 : decode b_Prc_useIndex 343 = .ok (.aload_n 0, 1) := by decide +kernel
theorem d_Prc_useIndex_344 : decode b_Prc_useIndex 344 = .ok (.getfield 13, 3) := by decide +kernel
theorem d_Prc_useIndex_347 : decode b_Prc_useIndex 347 = .ok (.getfield 180, 3) := by decide +kernel
theorem d_Prc_useIndex_350 : decode b_Prc_useIndex 350 = .ok (.iload_n 2, 1) := by decide +kernel
theorem d_Prc_useIndex_351 : decode b_Prc_useIndex 351 = .ok (.invokevirtual 138, 3) := by decide +kernel
theorem d_Prc_useIndex_354 : decode b_Prc_useIndex 354 = .ok (.goto 58, 3) := by decide +kernel
theorem d_Prc_useIndex_357 : decode b_Prc_useIndex 357 = .ok (.aload_n 0, 1) := by decide +kernel
theorem d_Prc_useIndex_358 : decode b_Prc_useIndex 358 = .ok (.getfield 7, 3) := by decide +kernel
theorem d_Prc_useIndex_361 : decode b_Prc_useIndex 361 = .ok (.aload_n 0, 1) := by decide +kernel
theorem d_Prc_useIndex_362 : decode b_Prc_useIndex 362 = .ok (.getfield 22, 3) := by decide +kernel
theorem d_Prc_useIndex_365 : decode b_Prc_useIndex 365 = .ok (.iconst 5, 1) := by decide +kernel
theorem d_Prc_useIndex_366 : decode b_Prc_useIndex 366 = .ok (.invokevirtual 132, 3) := by decide +kernel
theorem d_Prc_useIndex_369 : decode b_Prc_useIndex 369 = .ok (.aload_n 0, 1) := by decide +kernel
theorem d_Prc_useIndex_370 : decode b_Prc_useIndex 370 = .ok (.getfield 13, 3) := by decide +kernel
theorem d_Prc_useIndex_373 : decode b_Prc_useIndex 373 = .ok (.getfield 183, 3) := by decide +kernel
theorem d_Prc_useIndex_376 : decode b_Prc_useIndex 376 = .ok (.iload_n 2, 1) := by decide +kernel
theorem d_Prc_useIndex_377 : decode b_Prc_useIndex 377 = .ok (.invokevirtual 138, 3) := by decide +kernel
theorem d_Prc_useIndex_380 : decode b_Prc_useIndex 380 = .ok (.goto 32, 3) := by decide +kernel
theorem d_Prc_useIndex_383 : decode b_Prc_useIndex 383 = .ok (.aload_n 0, 1) := by decide +kernel
theorem d_Prc_useIndex_384 : decode b_Prc_useIndex 384 = .ok (.getfield 7, 3) := by decide +kernel
theorem d_Prc_useIndex_387 : decode b_Prc_useIndex 387 = .ok (.aload_n 0, 1) := by decide +kernel
theorem d_Prc_useIndex_388 : decode b_Prc_useIndex 388 = .ok (.getfield 22, 3) := by decide +kernel
theorem d_Prc_useIndex_391 : decode b_Prc_useIndex 391 = .ok (.bipush 13, 2) := by decide +kernel
theorem d_Prc_useIndex_393 : decode b_Prc_useIndex 393 = .ok (.invokevirtual 132, 3) := by decide +kernel
theorem d_Prc_useIndex_396 : decode b_Prc_useIndex 396 = .ok (.aload_n 0, 1) := by decide +kernel
theorem d_Prc_useIndex_397 : decode b_Prc_useIndex 397 = .ok (.getfield 13, 3) := by decide +kernel
theorem d_Prc_useIndex_400 : decode b_Prc_useIndex 400 = .ok (.getfield 183, 3) := by decide +kernel
theorem d_Prc_useIndex_403 : decode b_Prc_useIndex 403 = .ok (.iload_n 2, 1) := by decide +kernel
theorem d_Prc_useIndex_404 : decode b_Prc_useIndex 404 = .ok (.invokevirtual 138, 3) := by decide +kernel
theorem d_Prc_useIndex_407 : decode b_Prc_useIndex 407 = .ok (.goto 5, 3) := by decide +kernel
theorem d_Prc_useIndex_410 : decode b_Prc_useIndex 410 = .ok (.iconst 0, 1) := by decide +kernel
theorem d_Prc_useIndex_411 : decode b_Prc_useIndex 411 = .ok (.ireturn, 1) := by decide +kernel
theorem d_Prc_useIndex_412 : decode b_Prc_useIndex 412 = .ok (.iconst 1, 1) := by decide +kernel
theorem d_Prc_useIndex_413 : decode b_Prc_useIndex 413 = .ok (.ireturn, 1) := by decide +kernel
theorem d_Prc_storeZero_0 : decode b_Prc_storeZero 0 = .ok (.iload_n 1, 1) := by decide +kernel
theorem d_Prc_storeZero_1 : decode b_Prc_storeZero 1 = .ok (.lookupswitch 80 #[(100, 27), (156, 53)], 27) := by decide +kernel
theorem d_Prc_storeZero_28 : decode b_Prc_storeZero 28 = .ok (.aload_n 0, 1) := by decide +kernel
theorem d_Prc_storeZero_29 : decode b_Prc_storeZero 29 = .ok (.getfield 7, 3) := by decide +kernel
theorem d_Prc_storeZero_32 : decode b_Prc_storeZero 32 = .ok (.aload_n 0, 1) := by decide +kernel
theorem d_Prc_storeZero_33 : decode b_Prc_storeZero 33 = .ok (.getfield 22, 3) := by decide +kernel
theorem d_Prc_storeZero_36 : decode b_Prc_storeZero 36 = .ok (.iconst 5, 1) := by decide +kernel
theorem d_Prc_storeZero_37 : decode b_Prc_storeZero 37 = .ok (.invokevirtual 132, 3) := by decide +kernel
theorem d_Prc_storeZero_40 : decode b_Prc_storeZero 40 = .ok (.iconst 0, 1) := by decide +kernel
theorem d_Prc_storeZero_41 : decode b_Prc_storeZero 41 = .ok (.aload_n 0, 1) := by decide +kernel
theorem d_Prc_storeZero_42 : decode b_Prc_storeZero 42 = .ok (.getfield 13, 3) := by decide +kernel
theorem d_Prc_storeZero_45 : decode b_Prc_storeZero 45 = .ok (.invokevirtual 128, 3) := by decide +kernel
theorem d_Prc_storeZero_48 : decode b_Prc_storeZero 48 = .ok (.invokevirtual 138, 3) := by decide +kernel
theorem d_Prc_storeZero_51 : decode b_Prc_storeZero 51 = .ok (.goto 32, 3) := by decide +kernel
theorem d_Prc_storeZero_54 : decode b_Prc_storeZero 54 = .ok (.aload_n 0, 1) := by decide +kernel
theorem d_Prc_storeZero_55 : decode b_Prc_storeZero 55 = .ok (.getfield 7, 3) := by decide +kernel
theorem d_Prc_storeZero_58 : decode b_Prc_storeZero 58 = .ok (.aload_n 0, 1) := by decide +kernel
theorem d_Prc_storeZero_59 : decode b_Prc_storeZero 59 = .ok (.getfield 22, 3) := by decide +kernel
theorem d_Prc_storeZero_62 : decode b_Prc_storeZero 62 = .ok (.bipush 13, 2) := by decide +kernel
theorem d_Prc_storeZero_64 : decode b_Prc_storeZero 64 = .ok (.invokevirtual 132, 3) := by decide +kernel
theorem d_Prc_storeZero_67 : decode b_Prc_storeZero 67 = .ok (.iconst 0, 1) := by decide +kernel
theorem d_Prc_storeZero_68 : decode b_Prc_storeZero 68 = .ok (.aload_n 0, 1) := by decide +kernel
theorem d_Prc_storeZero_69 : decode b_Prc_storeZero 69 = .ok (.getfield 13, 3) := by decide +kernel
theorem d_Prc_storeZero_72 : decode b_Prc_storeZero 72 = .ok (.invokevirtual 128, 3) := by decide +kernel
theorem d_Prc_storeZero_75 : decode b_Prc_storeZero 75 = .ok (.invokevirtual 138, 3) := by decide +kernel
theorem d_Prc_storeZero_78 : decode b_Prc_storeZero 78 = .ok (.goto 5, 3) := by decide +kernel
theorem d_Prc_storeZero_81 : decode b_Prc_storeZero 81 = .ok (.iconst 0, 1) := by decide +kernel
theorem d_Prc_storeZero_82 : decode b_Prc_storeZero 82 = .ok (.ireturn, 1) := by decide +kernel
theorem d_Prc_storeZero_83 : decode b_Prc_storeZero 83 = .ok (.iconst 1, 1) := by decide +kernel
theorem d_Prc_storeZero_84 : decode b_Prc_storeZero 84 = .ok (.ireturn, 1) := by decide +kernel
theorem d_Prc_changeMemory_0 : decode b_Prc_changeMemory 0 = .ok (.iload_n 1, 1) := by decide +kernel
theorem d_Prc_changeMemory_1 : decode b_Prc_changeMemory 1 = .ok (.lookupswitch 86 #[(6, 75), (38, 75), (70, 75), (102, 75), (198, 75), (206, 80), (230, 75), (238, 80)], 75) := by decide +kernel
theorem d_Prc_changeMemory_76 : decode b_Prc_changeMemory 76 = .ok (.iconst 5, 1) := by decide +kernel
theorem d_Prc_changeMemory_77 : decode b_Prc_changeMemory 77 = .ok (.istore_n 2, 1) := by decide +kernel
theorem d_Prc_changeMemory_78 : decode b_Prc_changeMemory 78 = .ok (.goto 11, 3) := by decide +kernel
theorem d_Prc_changeMemory_81 : decode b_Prc_changeMemory 81 = .ok (.bipush 13, 2) := by decide +kernel
theorem d_Prc_changeMemory_83 : decode b_Prc_changeMemory 83 = .ok (.istore_n 2, 1) := by decide +kernel
theorem d_Prc_changeMemory_84 : decode b_Prc_changeMemory 84 = .ok (.goto 5, 3) := by decide +kernel
theorem d_Prc_changeMemory_87 : decode b_Prc_changeMemory 87 = .ok (.iconst 0, 1) := by decide +kernel
theorem d_Prc_changeMemory_88 : decode b_Prc_changeMemory 88 = .ok (.ireturn, 1) := by decide +kernel
theorem d_Prc_changeMemory_89 : decode b_Prc_changeMemory 89 = .ok (.aload_n 0, 1) := by decide +kernel
theorem d_Prc_changeMemory_90 : decode b_Prc_changeMemory 90 = .ok (.getfield 13, 3) := by decide +kernel
theorem d_Prc_changeMemory_93 : decode b_Prc_changeMemory 93 = .ok (.invokevirtual 128, 3) := by decide +kernel
theorem d_Prc_changeMemory_96 : decode b_Prc_changeMemory 96 = .ok (.istore_n 3, 1) := by decide +kernel
theorem d_Prc_changeMemory_97 : decode b_Prc_changeMemory 97 = .ok (.aload_n 0, 1) := by decide +kernel
theorem d_Prc_changeMemory_98 : decode b_Prc_changeMemory 98 = .ok (.getfield 22, 3) := by decide +kernel
theorem d_Prc_changeMemory_101 : decode b_Prc_changeMemory 101 = .ok (.iload_n 2, 1) := by decide +kernel
theorem d_Prc_changeMemory_102 : decode b_Prc_changeMemory 102 = .ok (.invokevirtual 132, 3) := by decide +kernel
theorem d_Prc_changeMemory_105 : decode b_Prc_changeMemory 105 = .ok (.istore 4, 2) := by decide +kernel
theorem d_Prc_changeMemory_107 : decode b_Prc_changeMemory 107 = .ok (.aload_n 0, 1) := by decide +kernel
theorem d_Prc_changeMemory_108 : decode b_Prc_changeMemory 108 = .ok (.iload_n 1, 1) := by decide +kernel
theorem d_Prc_changeMemory_109 : decode b_Prc_changeMemory 109 = .ok (.iconst 5, 1) := by decide +kernel
theorem d_Prc_changeMemory_110 : decode b_Prc_changeMemory 110 = .ok (.ishr, 1) := by decide +kernel
theorem d_Prc_changeMemory_111 : decode b_Prc_changeMemory 111 = .ok (.aload_n 0, 1) := by decide +kernel
theorem d_Prc_changeMemory_112 : decode b_Prc_changeMemory 112 = .ok (.getfield 7, 3) := by decide +kernel
theorem d_Prc_changeMemory_115 : decode b_Prc_changeMemory 115 = .ok (.iload 4, 2) := by decide +kernel
theorem d_Prc_changeMemory_117 : decode b_Prc_changeMemory 117 = .ok (.iload_n 3, 1) := by decide +kernel
theorem d_Prc_changeMemory_118 : decode b_Prc_changeMemory 118 = .ok (.invokevirtual 146, 3) := by decide +kernel
theorem d_Prc_changeMemory_121 : decode b_Prc_changeMemory 121 = .ok (.iload_n 3, 1) := by decide +kernel
theorem d_Prc_changeMemory_122 : decode b_Prc_changeMemory 122 = .ok (.invokevirtual 186, 3) := by decide +kernel
theorem d_Prc_changeMemory_125 : decode b_Prc_changeMemory 125 = .ok (.istore 5, 2) := by decide +kernel
theorem d_Prc_changeMemory_127 : decode b_Prc_changeMemory 127 = .ok (.aload_n 0, 1) := by decide +kernel
theorem d_Prc_changeMemory_128 : decode b_Prc_changeMemory 128 = .ok (.getfield 13, 3) := by decide +kernel
theorem d_Prc_changeMemory_131 : decode b_Prc_changeMemory 131 = .ok (.iload 5, 2) := by decide +kernel
theorem d_Prc_changeMemory_133 : decode b_Prc_changeMemory 133 = .ok (.iload_n 3, 1) := by decide +kernel
theorem d_Prc_changeMemory_134 : decode b_Prc_changeMemory 134 = .ok (.invokevirtual 168, 3) := by decide +kernel
theorem d_Prc_changeMemory_137 : decode b_Prc_changeMemory 137 = .ok (.aload_n 0, 1) := by decide +kernel
theorem d_Prc_changeMemory_138 : decode b_Prc_changeMemory 138 = .ok (.getfield 7, 3) := by decide +kernel
theorem d_Prc_changeMemory_141 : decode b_Prc_changeMemory 141 = .ok (.iload 4, 2) := by decide +kernel
theorem d_Prc_changeMemory_143 : decode b_Prc_changeMemory 143 = .ok (.iload 5, 2) := by decide +kernel
theorem d_Prc_changeMemory_145 : decode b_Prc_changeMemory 145 = .ok (.iload_n 3, 1) := by decide +kernel
theorem d_Prc_changeMemory_146 : decode b_Prc_changeMemory 146 = .ok (.invokevirtual 138, 3) := by decide +kernel
theorem d_Prc_changeMemory_149 : decode b_Prc_changeMemory 149 = .ok (.iconst 1, 1) := by decide +kernel
theorem d_Prc_changeMemory_150 : decode b_Prc_changeMemory 150 = .ok (.ireturn, 1) := by decide +kernel
theorem d_Prc_changeRegister_0 : decode b_Prc_changeRegister 0 = .ok (.aload_n 0, 1) := by decide +kernel
theorem d_Prc_changeRegister_1 : decode b_Prc_changeRegister 1 = .ok (.getfield 13, 3) := by decide +kernel
theorem d_Prc_changeRegister_4 : decode b_Prc_changeRegister 4 = .ok (.invokevirtual 128, 3) := by decide +kernel
theorem d_Prc_changeRegister_7 : decode b_Prc_changeRegister 7 = .ok (.istore_n 2, 1) := by decide +kernel
theorem d_Prc_changeRegister_8 : decode b_Prc_changeRegister 8 = .ok (.iload_n 1, 1) := by decide +kernel
theorem d_Prc_changeRegister_9 : decode b_Prc_changeRegister 9 = .ok (.lookupswitch 240 #[(10, 91), (26, 116), (42, 91), (58, 140), (74, 91), (106, 91), (136, 221), (200, 183), (202, 202), (232, 164)], 91) := by decide +kernel
theorem d_Prc_changeRegister_100 : decode b_Prc_changeRegister 100 = .ok (.aload_n 0, 1) := by decide +kernel
theorem d_Prc_changeRegister_101 : decode b_Prc_changeRegister 101 = .ok (.getfield 13, 3) := by decide +kernel
theorem d_Prc_changeRegister_104 : decode b_Prc_changeRegister 104 = .ok (.aload_n 0, 1) := by decide +kernel
theorem d_Prc_changeRegister_105 : decode b_Prc_changeRegister 105 = .ok (.iload_n 1, 1) := by decide +kernel
theorem d_Prc_changeRegister_106 : decode b_Prc_changeRegister 106 = .ok (.iconst 5, 1) := by decide +kernel
theorem d_Prc_changeRegister_107 : decode b_Prc_changeRegister 107 = .ok (.ishr, 1) := by decide +kernel
theorem d_Prc_changeRegister_108 : decode b_Prc_changeRegister 108 = .ok (.aload_n 0, 1) := by decide +kernel
theorem d_Prc_changeRegister_109 : decode b_Prc_changeRegister 109 = .ok (.getfield 13, 3) := by decide +kernel
theorem d_Prc_changeRegister_112 : decode b_Prc_changeRegister 112 = .ok (.invokevirtual 150, 3) := by decide +kernel
theorem d_Prc_changeRegister_115 : decode b_Prc_changeRegister 115 = .ok (.iload_n 2, 1) := by decide +kernel
theorem d_Prc_changeRegister_116 : decode b_Prc_changeRegister 116 = .ok (.invokevirtual 186, 3) := by decide +kernel
theorem d_Prc_changeRegister_119 : decode b_Prc_changeRegister 119 = .ok (.invokevirtual 153, 3) := by decide +kernel
theorem d_Prc_changeRegister_122 : decode b_Prc_changeRegister 122 = .ok (.goto 129, 3) := by decide +kernel
theorem d_Prc_changeRegister_125 : decode b_Prc_changeRegister 125 = .ok (.aload_n 0, 1) := by decide +kernel
theorem d_Prc_changeRegister_126 : decode b_Prc_changeRegister 126 = .ok (.getfield 13, 3) := by decide +kernel
theorem d_Prc_changeRegister_129 : decode b_Prc_changeRegister 129 = .ok (.aload_n 0, 1) := by decide +kernel
theorem d_Prc_changeRegister_130 : decode b_Prc_changeRegister 130 = .ok (.bipush 7, 2) := by decide +kernel
theorem d_Prc_changeRegister_132 : decode b_Prc_changeRegister 132 = .ok (.aload_n 0, 1) := by decide +kernel
theorem d_Prc_changeRegister_133 : decode b_Prc_changeRegister 133 = .ok (.getfield 13, 3) := by decide +kernel
theorem d_Prc_changeRegister_136 : decode b_Prc_changeRegister 136 = .ok (.invokevirtual 150, 3) := by decide +kernel
theorem d_Prc_changeRegister_139 : decode b_Prc_changeRegister 139 = .ok (.iload_n 2, 1) := by decide +kernel
theorem d_Prc_changeRegister_140 : decode b_Prc_changeRegister 140 = .ok (.invokevirtual 186, 3) := by decide +kernel
theorem d_Prc_changeRegister_143 : decode b_Prc_changeRegister 143 = .ok (.invokevirtual 153, 3) := by decide +kernel
theorem d_Prc_changeRegister_146 : decode b_Prc_changeRegister 146 = .ok (.goto 105, 3) := by decide +kernel
theorem d_Prc_changeRegister_149 : decode b_Prc_changeRegister 149 = .ok (.aload_n 0, 1) := by decide +kernel
theorem d_Prc_changeRegister_150 : decode b_Prc_changeRegister 150 = .ok (.getfield 13, 3) := by decide +kernel
theorem d_Prc_changeRegister_153 : decode b_Prc_changeRegister 153 = .ok (.aload_n 0, 1) := by decide +kernel
theorem d_Prc_changeRegister_154 : decode b_Prc_changeRegister 154 = .ok (.bipush 6, 2) := by decide +kernel
theorem d_Prc_changeRegister_156 : decode b_Prc_changeRegister 156 = .ok (.aload_n 0, 1) := by decide +kernel
theorem d_Prc_changeRegister_157 : decode b_Prc_changeRegister 157 = .ok (.getfield 13, 3) := by decide +kernel
theorem d_Prc_changeRegister_160 : decode b_Prc_changeRegister 160 = .ok (.invokevirtual 150, 3) := by decide +kernel
theorem d_Prc_changeRegister_163 : decode b_Prc_changeRegister 163 = .ok (.iload_n 2, 1) := by decide +kernel
theorem d_Prc_changeRegister_164 : decode b_Prc_changeRegister 164 = .ok (.invokevirtual 186, 3) := by decide +kernel
theorem d_Prc_changeRegister_167 : decode b_Prc_changeRegister 167 = .ok (.invokevirtual 153, 3) := by decide +kernel
theorem d_Prc_changeRegister_170 : decode b_Prc_changeRegister 170 = .ok (.goto 81, 3) := by decide +kernel
theorem d_Prc_changeRegister_173 : decode b_Prc_changeRegister 173 = .ok (.aload_n 0, 1) := by decide +kernel
theorem d_Prc_changeRegister_174 : decode b_Prc_changeRegister 174 = .ok (.getfield 13, 3) := by decide +kernel
theorem d_Prc_changeRegister_177 : decode b_Prc_changeRegister 177 = .ok (.aload_n 0, 1) := by decide +kernel
theorem d_Prc_changeRegister_178 : decode b_Prc_changeRegister 178 = .ok (.getfield 13, 3) := by decide +kernel
theorem d_Prc_changeRegister_181 : decode b_Prc_changeRegister 181 = .ok (.getfield 180, 3) := by decide +kernel
theorem d_Prc_changeRegister_184 : decode b_Prc_changeRegister 184 = .ok (.iconst 1, 1) := by decide +kernel
theorem d_Prc_changeRegister_185 : decode b_Prc_changeRegister 185 = .ok (.iadd, 1) := by decide +kernel
theorem d_Prc_changeRegister_186 : decode b_Prc_changeRegister 186 = .ok (.invokevirtual 174, 3) := by decide +kernel
theorem d_Prc_changeRegister_189 : decode b_Prc_changeRegister 189 = .ok (.goto 62, 3) := by decide +kernel
theorem d_Prc_changeRegister_192 : decode b_Prc_changeRegister 192 = .ok (.aload_n 0, 1) := by decide +kernel
theorem d_Prc_changeRegister_193 : decode b_Prc_changeRegister 193 = .ok (.getfield 13, 3) := by decide +kernel
theorem d_Prc_changeRegister_196 : decode b_Prc_changeRegister 196 = .ok (.aload_n 0, 1) := by decide +kernel
theorem d_Prc_changeRegister_197 : decode b_Prc_changeRegister 197 = .ok (.getfield 13, 3) := by decide +kernel
theorem d_Prc_changeRegister_200 : decode b_Prc_changeRegister 200 = .ok (.getfield 183, 3) := by decide +kernel
theorem d_Prc_changeRegister_203 : decode b_Prc_changeRegister 203 = .ok (.iconst 1, 1) := by decide +kernel
theorem d_Prc_changeRegister_204 : decode b_Prc_changeRegister 204 = .ok (.iadd, 1) := by decide +kernel
theorem d_Prc_changeRegister_205 : decode b_Prc_changeRegister 205 = .ok (.invokevirtual 177, 3) := by decide +kernel
theorem d_Prc_changeRegister_208 : decode b_Prc_changeRegister 208 = .ok (.goto 43, 3) := by decide +kernel
theorem d_Prc_changeRegister_211 : decode b_Prc_changeRegister 211 = .ok (.aload_n 0, 1) := by decide +kernel
theorem d_Prc_changeRegister_212 : decode b_Prc_changeRegister 212 = .ok (.getfield 13, 3) := by decide +kernel
theorem d_Prc_changeRegister_215 : decode b_Prc_changeRegister 215 = .ok (.aload_n 0, 1) := by decide +kernel
theorem d_Prc_changeRegister_216 : decode b_Prc_changeRegister 216 = .ok (.getfield 13, 3) := by decide +kernel
theorem d_Prc_changeRegister_219 : decode b_Prc_changeRegister 219 = .ok (.getfield 180, 3) := by decide +kernel
theorem d_Prc_changeRegister_222 : decode b_Prc_changeRegister 222 = .ok (.iconst 1, 1) := by decide +kernel
theorem d_Prc_changeRegister_223 : decode b_Prc_changeRegister 223 = .ok (.isub, 1) := by decide +kernel
theorem d_Prc_changeRegister_224 : decode b_Prc_changeRegister 224 = .ok (.invokevirtual 174, 3) := by decide +kernel
theorem d_Prc_changeRegister_227 : decode b_Prc_changeRegister 227 = .ok (.goto 24, 3) := by decide +kernel
theorem d_Prc_changeRegister_230 : decode b_Prc_changeRegister 230 = .ok (.aload_n 0, 1) := by decide +kernel
theorem d_Prc_changeRegister_231 : decode b_Prc_changeRegister 231 = .ok (.getfield 13, 3) := by decide +kernel
theorem d_Prc_changeRegister_234 : decode b_Prc_changeRegister 234 = .ok (.aload_n 0, 1) := by decide +kernel
theorem d_Prc_changeRegister_235 : decode b_Prc_changeRegister 235 = .ok (.getfield 13, 3) := by decide +kernel
theorem d_Prc_changeRegister_238 : decode b_Prc_changeRegister 238 = .ok (.getfield 183, 3) := by decide +kernel
theorem d_Prc_changeRegister_241 : decode b_Prc_changeRegister 241 = .ok (.iconst 1, 1) := by decide +kernel
theorem d_Prc_changeRegister_242 : decode b_Prc_changeRegister 242 = .ok (.isub, 1) := by decide +kernel
theorem d_Prc_changeRegister_243 : decode b_Prc_changeRegister 243 = .ok (.invokevirtual 177, 3) := by decide +kernel
theorem d_Prc_changeRegister_246 : decode b_Prc_changeRegister 246 = .ok (.goto 5, 3) := by decide +kernel
theorem d_Prc_changeRegister_249 : decode b_Prc_changeRegister 249 = .ok (.iconst 0, 1) := by decide +kernel
theorem d_Prc_changeRegister_250 : decode b_Prc_changeRegister 250 = .ok (.ireturn, 1) := by decide +kernel
theorem d_Prc_changeRegister_251 : decode b_Prc_changeRegister 251 = .ok (.iconst 1, 1) := by decide +kernel
theorem d_Prc_changeRegister_252 : decode b_Prc_changeRegister 252 = .ok (.ireturn, 1) := by decide +kernel
theorem d_Prc_changed_0 : decode b_Prc_changed 0 = .ok (.iload_n 3, 1) := by decide +kernel
theorem d_Prc_changed_1 : decode b_Prc_changed 1 = .ok (.invokestatic 162, 3) := by decide +kernel
theorem d_Prc_changed_4 : decode b_Prc_changed 4 = .ok (.istore 4, 2) := by decide +kernel
theorem d_Prc_changed_6 : decode b_Prc_changed 6 = .ok (.iload_n 3, 1) := by decide +kernel
theorem d_Prc_changed_7 : decode b_Prc_changed 7 = .ok (.invokestatic 165, 3) := by decide +kernel
theorem d_Prc_changed_10 : decode b_Prc_changed 10 = .ok (.istore 5, 2) := by decide +kernel
theorem d_Prc_changed_12 : decode b_Prc_changed 12 = .ok (.aload_n 0, 1) := by decide +kernel
theorem d_Prc_changed_13 : decode b_Prc_changed 13 = .ok (.getfield 13, 3) := by decide +kernel
theorem d_Prc_changed_16 : decode b_Prc_changed 16 = .ok (.iconst 1, 1) := by decide +kernel
theorem d_Prc_changed_17 : decode b_Prc_changed 17 = .ok (.invokevirtual 50, 3) := by decide +kernel
theorem d_Prc_changed_20 : decode b_Prc_changed 20 = .ok (.istore 6, 2) := by decide +kernel
theorem d_Prc_changed_22 : decode b_Prc_changed 22 = .ok (.iload_n 1, 1) := by decide +kernel
theorem d_Prc_changed_23 : decode b_Prc_changed 23 = .ok (.tableswitch 74 0 3 #[29, 29, 52, 52], 29) := by decide +kernel
theorem d_Prc_changed_52 : decode b_Prc_changed 52 = .ok (.aload_n 0, 1) := by decide +kernel
theorem d_Prc_changed_53 : decode b_Prc_changed 53 = .ok (.getfield 13, 3) := by decide +kernel
theorem d_Prc_changed_56 : decode b_Prc_changed 56 = .ok (.iconst 1, 1) := by decide +kernel
theorem d_Prc_changed_57 : decode b_Prc_changed 57 = .ok (.iload_n 2, 1) := by decide +kernel
theorem d_Prc_changed_58 : decode b_Prc_changed 58 = .ok (.iload 5, 2) := by decide +kernel
theorem d_Prc_changed_60 : decode b_Prc_changed 60 = .ok (.iand, 1) := by decide +kernel
theorem d_Prc_changed_61 : decode b_Prc_changed 61 = .ok (.ifCond .eq 7, 3) := by decide +kernel
theorem d_Prc_changed_64 : decode b_Prc_changed 64 = .ok (.iconst 1, 1) := by decide +kernel
theorem d_Prc_changed_65 : decode b_Prc_changed 65 = .ok (.goto 4, 3) := by decide +kernel
theorem d_Prc_changed_68 : decode b_Prc_changed 68 = .ok (.iconst 0, 1) := by decide +kernel
theorem d_Prc_changed_69 : decode b_Prc_changed 69 = .ok (.invokevirtual 112, 3) := by decide +kernel
theorem d_Prc_changed_72 : decode b_Prc_changed 72 = .ok (.goto 25, 3) := by decide +kernel
theorem d_Prc_changed_75 : decode b_Prc_changed 75 = .ok (.aload_n 0, 1) := by decide +kernel
theorem d_Prc_changed_76 : decode b_Prc_changed 76 = .ok (.getfield 13, 3) := by decide +kernel
theorem d_Prc_changed_79 : decode b_Prc_changed 79 = .ok (.iconst 1, 1) := by decide +kernel
theorem d_Prc_changed_80 : decode b_Prc_changed 80 = .ok (.iload_n 2, 1) := by decide +kernel
theorem d_Prc_changed_81 : decode b_Prc_changed 81 = .ok (.iconst 1, 1) := by decide +kernel
theorem d_Prc_changed_82 : decode b_Prc_changed 82 = .ok (.iand, 1) := by decide +kernel
theorem d_Prc_changed_83 : decode b_Prc_changed 83 = .ok (.ifCond .eq 7, 3) := by decide +kernel
theorem d_Prc_changed_86 : decode b_Prc_changed 86 = .ok (.iconst 1, 1) := by decide +kernel
theorem d_Prc_changed_87 : decode b_Prc_changed 87 = .ok (.goto 4, 3) := by decide +kernel
theorem d_Prc_changed_90 : decode b_Prc_changed 90 = .ok (.iconst 0, 1) := by decide +kernel
theorem d_Prc_changed_91 : decode b_Prc_changed 91 = .ok (.invokevirtual 112, 3) := by decide +kernel
theorem d_Prc_changed_94 : decode b_Prc_changed 94 = .ok (.goto 3, 3) := by decide +kernel
theorem d_Prc_changed_97 : decode b_Prc_changed 97 = .ok (.iload_n 1, 1) := by decide +kernel
theorem d_Prc_changed_98 : decode b_Prc_changed 98 = .ok (.tableswitch 117 0 7 #[46, 55, 75, 81, 117, 117, 108, 99], 46) := by decide +kernel
theorem d_Prc_changed_144 : decode b_Prc_changed 144 = .ok (.iload_n 2, 1) := by decide +kernel
theorem d_Prc_changed_145 : decode b_Prc_changed 145 = .ok (.iconst 1, 1) := by decide +kernel
theorem d_Prc_changed_146 : decode b_Prc_changed 146 = .ok (.ishl, 1) := by decide +kernel
theorem d_Prc_changed_147 : decode b_Prc_changed 147 = .ok (.iload 4, 2) := by decide +kernel
theorem d_Prc_changed_149 : decode b_Prc_changed 149 = .ok (.iand, 1) := by decide +kernel
theorem d_Prc_changed_150 : decode b_Prc_changed 150 = .ok (.goto 66, 3) := by decide +kernel
theorem d_Prc_changed_153 : decode b_Prc_changed 153 = .ok (.iload_n 2, 1) := by decide +kernel
end
section
theorem d_Prc_changed_154 : decode b_Prc_changed 154 = .ok (.iconst 1, 1) := by decide +kernel
theorem d_Prc_changed_155 : decode b_Prc_changed 155 = .ok (.ishl, 1) := by decide +kernel
theorem d_Prc_changed_156 : decode b_Prc_changed 156 = .ok (.iload 4, 2) := by decide +kernel
theorem d_Prc_changed_158 : decode b_Prc_changed 158 = .ok (.iand, 1) := by decide +kernel
theorem d_Prc_changed_159 : decode b_Prc_changed 159 = .ok (.iload 6, 2) := by decide +kernel
theorem d_Prc_changed_161 : decode b_Prc_changed 161 = .ok (.ifCond .eq 7, 3) := by decide +kernel
theorem d_Prc_changed_164 : decode b_Prc_changed 164 = .ok (.iconst 1, 1) := by decide +kernel
theorem d_Prc_changed_165 : decode b_Prc_changed 165 = .ok (.goto 4, 3) := by decide +kernel
theorem d_Prc_changed_168 : decode b_Prc_changed 168 = .ok (.iconst 0, 1) := by decide +kernel
theorem d_Prc_changed_169 : decode b_Prc_changed 169 = .ok (.ior, 1) := by decide +kernel
theorem d_Prc_changed_170 : decode b_Prc_changed 170 = .ok (.goto 46, 3) := by decide +kernel
theorem d_Prc_changed_173 : decode b_Prc_changed 173 = .ok (.iload_n 2, 1) := by decide +kernel
theorem d_Prc_changed_174 : decode b_Prc_changed 174 = .ok (.iconst 1, 1) := by decide +kernel
theorem d_Prc_changed_175 : decode b_Prc_changed 175 = .ok (.ishr, 1) := by decide +kernel
theorem d_Prc_changed_176 : decode b_Prc_changed 176 = .ok (.goto 40, 3) := by decide +kernel
theorem d_Prc_changed_179 : decode b_Prc_changed 179 = .ok (.iload_n 2, 1) := by decide +kernel
theorem d_Prc_changed_180 : decode b_Prc_changed 180 = .ok (.iconst 1, 1) := by decide +kernel
theorem d_Prc_changed_181 : decode b_Prc_changed 181 = .ok (.ishr, 1) := by decide +kernel
theorem d_Prc_changed_182 : decode b_Prc_changed 182 = .ok (.iload 6, 2) := by decide +kernel
theorem d_Prc_changed_184 : decode b_Prc_changed 184 = .ok (.ifCond .eq 8, 3) := by decide +kernel
theorem d_Prc_changed_187 : decode b_Prc_changed 187 = .ok (.iload 5, 2) := by decide +kernel
theorem d_Prc_changed_189 : decode b_Prc_changed 189 = .ok (.goto 4, 3) := by decide +kernel
theorem d_Prc_changed_192 : decode b_Prc_changed 192 = .ok (.iconst 0, 1) := by decide +kernel
theorem d_Prc_changed_193 : decode b_Prc_changed 193 = .ok (.ior, 1) := by decide +kernel
theorem d_Prc_changed_194 : decode b_Prc_changed 194 = .ok (.goto 22, 3) := by decide +kernel
theorem d_Prc_changed_197 : decode b_Prc_changed 197 = .ok (.iload_n 2, 1) := by decide +kernel
theorem d_Prc_changed_198 : decode b_Prc_changed 198 = .ok (.iconst 1, 1) := by decide +kernel
theorem d_Prc_changed_199 : decode b_Prc_changed 199 = .ok (.iadd, 1) := by decide +kernel
theorem d_Prc_changed_200 : decode b_Prc_changed 200 = .ok (.iload 4, 2) := by decide +kernel
theorem d_Prc_changed_202 : decode b_Prc_changed 202 = .ok (.iand, 1) := by decide +kernel
theorem d_Prc_changed_203 : decode b_Prc_changed 203 = .ok (.goto 13, 3) := by decide +kernel
theorem d_Prc_changed_206 : decode b_Prc_changed 206 = .ok (.iload_n 2, 1) := by decide +kernel
theorem d_Prc_changed_207 : decode b_Prc_changed 207 = .ok (.iconst 1, 1) := by decide +kernel
theorem d_Prc_changed_208 : decode b_Prc_changed 208 = .ok (.isub, 1) := by decide +kernel
theorem d_Prc_changed_209 : decode b_Prc_changed 209 = .ok (.iload 4, 2) := by decide +kernel
theorem d_Prc_changed_211 : decode b_Prc_changed 211 = .ok (.iand, 1) := by decide +kernel
theorem d_Prc_changed_212 : decode b_Prc_changed 212 = .ok (.goto 4, 3) := by decide +kernel
theorem d_Prc_changed_215 : decode b_Prc_changed 215 = .ok (.iload_n 2, 1) := by decide +kernel
theorem d_Prc_changed_216 : decode b_Prc_changed 216 = .ok (.ireturn, 1) := by decide +kernel
theorem d_Prc_transfer_0 : decode b_Prc_transfer 0 = .ok (.iload_n 1, 1) := by decide +kernel
theorem d_Prc_transfer_1 : decode b_Prc_transfer 1 = .ok (.lookupswitch 373 #[(27, 302), (59, 268), (91, 234), (123, 251), (138, 200), (152, 217), (154, 285), (155, 166), (168, 132), (170, 115), (186, 149), (187, 183), (235, 319)], 115) := by decide +kernel
theorem d_Prc_transfer_116 : decode b_Prc_transfer 116 = .ok (.aload_n 0, 1) := by decide +kernel
theorem d_Prc_transfer_117 : decode b_Prc_transfer 117 = .ok (.getfield 13, 3) := by decide +kernel
theorem d_Prc_transfer_120 : decode b_Prc_transfer 120 = .ok (.aload_n 0, 1) := by decide +kernel
theorem d_Prc_transfer_121 : decode b_Prc_transfer 121 = .ok (.getfield 13, 3) := by decide +kernel
theorem d_Prc_transfer_124 : decode b_Prc_transfer 124 = .ok (.getfield 135, 3) := by decide +kernel
theorem d_Prc_transfer_127 : decode b_Prc_transfer 127 = .ok (.invokevirtual 174, 3) := by decide +kernel
theorem d_Prc_transfer_130 : decode b_Prc_transfer 130 = .ok (.goto 246, 3) := by decide +kernel
theorem d_Prc_transfer_133 : decode b_Prc_transfer 133 = .ok (.aload_n 0, 1) := by decide +kernel
theorem d_Prc_transfer_134 : decode b_Prc_transfer 134 = .ok (.getfield 13, 3) := by decide +kernel
theorem d_Prc_transfer_137 : decode b_Prc_transfer 137 = .ok (.aload_n 0, 1) := by decide +kernel
theorem d_Prc_transfer_138 : decode b_Prc_transfer 138 = .ok (.getfield 13, 3) := by decide +kernel
theorem d_Prc_transfer_141 : decode b_Prc_transfer 141 = .ok (.getfield 135, 3) := by decide +kernel
theorem d_Prc_transfer_144 : decode b_Prc_transfer 144 = .ok (.invokevirtual 177, 3) := by decide +kernel
theorem d_Prc_transfer_147 : decode b_Prc_transfer 147 = .ok (.goto 229, 3) := by decide +kernel
theorem d_Prc_transfer_150 : decode b_Prc_transfer 150 = .ok (.aload_n 0, 1) := by decide +kernel
theorem d_Prc_transfer_151 : decode b_Prc_transfer 151 = .ok (.getfield 13, 3) := by decide +kernel
theorem d_Prc_transfer_154 : decode b_Prc_transfer 154 = .ok (.aload_n 0, 1) := by decide +kernel
theorem d_Prc_transfer_155 : decode b_Prc_transfer 155 = .ok (.getfield 13, 3) := by decide +kernel
theorem d_Prc_transfer_158 : decode b_Prc_transfer 158 = .ok (.getfield 190, 3) := by decide +kernel
theorem d_Prc_transfer_161 : decode b_Prc_transfer 161 = .ok (.invokevirtual 174, 3) := by decide +kernel
theorem d_Prc_transfer_164 : decode b_Prc_transfer 164 = .ok (.goto 212, 3) := by decide +kernel
theorem d_Prc_transfer_167 : decode b_Prc_transfer 167 = .ok (.aload_n 0, 1) := by decide +kernel
theorem d_Prc_transfer_168 : decode b_Prc_transfer 168 = .ok (.getfield 13, 3) := by decide +kernel
theorem d_Prc_transfer_171 : decode b_Prc_transfer 171 = .ok (.aload_n 0, 1) := by decide +kernel
theorem d_Prc_transfer_172 : decode b_Prc_transfer 172 = .ok (.getfield 13, 3) := by decide +kernel
theorem d_Prc_transfer_175 : decode b_Prc_transfer 175 = .ok (.getfield 180, 3) := by decide +kernel
theorem d_Prc_transfer_178 : decode b_Prc_transfer 178 = .ok (.invokevirtual 177, 3) := by decide +kernel
theorem d_Prc_transfer_181 : decode b_Prc_transfer 181 = .ok (.goto 195, 3) := by decide +kernel
theorem d_Prc_transfer_184 : decode b_Prc_transfer 184 = .ok (.aload_n 0, 1) := by decide +kernel
theorem d_Prc_transfer_185 : decode b_Prc_transfer 185 = .ok (.getfield 13, 3) := by decide +kernel
theorem d_Prc_transfer_188 : decode b_Prc_transfer 188 = .ok (.aload_n 0, 1) := by decide +kernel
theorem d_Prc_transfer_189 : decode b_Prc_transfer 189 = .ok (.getfield 13, 3) := by decide +kernel
theorem d_Prc_transfer_192 : decode b_Prc_transfer 192 = .ok (.getfield 183, 3) := by decide +kernel
theorem d_Prc_transfer_195 : decode b_Prc_transfer 195 = .ok (.invokevirtual 174, 3) := by decide +kernel
theorem d_Prc_transfer_198 : decode b_Prc_transfer 198 = .ok (.goto 178, 3) := by decide +kernel
theorem d_Prc_transfer_201 : decode b_Prc_transfer 201 = .ok (.aload_n 0, 1) := by decide +kernel
theorem d_Prc_transfer_202 : decode b_Prc_transfer 202 = .ok (.getfield 13, 3) := by decide +kernel
theorem d_Prc_transfer_205 : decode b_Prc_transfer 205 = .ok (.aload_n 0, 1) := by decide +kernel
theorem d_Prc_transfer_206 : decode b_Prc_transfer 206 = .ok (.getfield 13, 3) := by decide +kernel
theorem d_Prc_transfer_209 : decode b_Prc_transfer 209 = .ok (.getfield 180, 3) := by decide +kernel
theorem d_Prc_transfer_212 : decode b_Prc_transfer 212 = .ok (.invokevirtual 153, 3) := by decide +kernel
theorem d_Prc_transfer_215 : decode b_Prc_transfer 215 = .ok (.goto 161, 3) := by decide +kernel
theorem d_Prc_transfer_218 : decode b_Prc_transfer 218 = .ok (.aload_n 0, 1) := by decide +kernel
theorem d_Prc_transfer_219 : decode b_Prc_transfer 219 = .ok (.getfield 13, 3) := by decide +kernel
theorem d_Prc_transfer_222 : decode b_Prc_transfer 222 = .ok (.aload_n 0, 1) := by decide +kernel
theorem d_Prc_transfer_223 : decode b_Prc_transfer 223 = .ok (.getfield 13, 3) := by decide +kernel
theorem d_Prc_transfer_226 : decode b_Prc_transfer 226 = .ok (.getfield 183, 3) := by decide +kernel
theorem d_Prc_transfer_229 : decode b_Prc_transfer 229 = .ok (.invokevirtual 153, 3) := by decide +kernel
theorem d_Prc_transfer_232 : decode b_Prc_transfer 232 = .ok (.goto 144, 3) := by decide +kernel
theorem d_Prc_transfer_235 : decode b_Prc_transfer 235 = .ok (.aload_n 0, 1) := by decide +kernel
theorem d_Prc_transfer_236 : decode b_Prc_transfer 236 = .ok (.getfield 13, 3) := by decide +kernel
theorem d_Prc_transfer_239 : decode b_Prc_transfer 239 = .ok (.aload_n 0, 1) := by decide +kernel
theorem d_Prc_transfer_240 : decode b_Prc_transfer 240 = .ok (.getfield 13, 3) := by decide +kernel
theorem d_Prc_transfer_243 : decode b_Prc_transfer 243 = .ok (.getfield 135, 3) := by decide +kernel
theorem d_Prc_transfer_246 : decode b_Prc_transfer 246 = .ok (.invokevirtual 193, 3) := by decide +kernel
theorem d_Prc_transfer_249 : decode b_Prc_transfer 249 = .ok (.goto 127, 3) := by decide +kernel
theorem d_Prc_transfer_252 : decode b_Prc_transfer 252 = .ok (.aload_n 0, 1) := by decide +kernel
theorem d_Prc_transfer_253 : decode b_Prc_transfer 253 = .ok (.getfield 13, 3) := by decide +kernel
theorem d_Prc_transfer_256 : decode b_Prc_transfer 256 = .ok (.aload_n 0, 1) := by decide +kernel
theorem d_Prc_transfer_257 : decode b_Prc_transfer 257 = .ok (.getfield 13, 3) := by decide +kernel
theorem d_Prc_transfer_260 : decode b_Prc_transfer 260 = .ok (.getfield 196, 3) := by decide +kernel
theorem d_Prc_transfer_263 : decode b_Prc_transfer 263 = .ok (.invokevirtual 199, 3) := by decide +kernel
theorem d_Prc_transfer_266 : decode b_Prc_transfer 266 = .ok (.goto 110, 3) := by decide +kernel
theorem d_Prc_transfer_269 : decode b_Prc_transfer 269 = .ok (.aload_n 0, 1) := by decide +kernel
theorem d_Prc_transfer_270 : decode b_Prc_transfer 270 = .ok (.getfield 13, 3) := by decide +kernel
theorem d_Prc_transfer_273 : decode b_Prc_transfer 273 = .ok (.aload_n 0, 1) := by decide +kernel
theorem d_Prc_transfer_274 : decode b_Prc_transfer 274 = .ok (.getfield 13, 3) := by decide +kernel
theorem d_Prc_transfer_277 : decode b_Prc_transfer 277 = .ok (.getfield 190, 3) := by decide +kernel
theorem d_Prc_transfer_280 : decode b_Prc_transfer 280 = .ok (.invokevirtual 199, 3) := by decide +kernel
theorem d_Prc_transfer_283 : decode b_Prc_transfer 283 = .ok (.goto 93, 3) := by decide +kernel
theorem d_Prc_transfer_286 : decode b_Prc_transfer 286 = .ok (.aload_n 0, 1) := by decide +kernel
theorem d_Prc_transfer_287 : decode b_Prc_transfer 287 = .ok (.getfield 13, 3) := by decide +kernel
theorem d_Prc_transfer_290 : decode b_Prc_transfer 290 = .ok (.aload_n 0, 1) := by decide +kernel
theorem d_Prc_transfer_291 : decode b_Prc_transfer 291 = .ok (.getfield 13, 3) := by decide +kernel
theorem d_Prc_transfer_294 : decode b_Prc_transfer 294 = .ok (.getfield 180, 3) := by decide +kernel
theorem d_Prc_transfer_297 : decode b_Prc_transfer 297 = .ok (.putfield 190, 3) := by decide +kernel
theorem d_Prc_transfer_300 : decode b_Prc_transfer 300 = .ok (.goto 76, 3) := by decide +kernel
theorem d_Prc_transfer_303 : decode b_Prc_transfer 303 = .ok (.aload_n 0, 1) := by decide +kernel
theorem d_Prc_transfer_304 : decode b_Prc_transfer 304 = .ok (.getfield 13, 3) := by decide +kernel
theorem d_Prc_transfer_307 : decode b_Prc_transfer 307 = .ok (.aload_n 0, 1) := by decide +kernel
theorem d_Prc_transfer_308 : decode b_Prc_transfer 308 = .ok (.getfield 13, 3) := by decide +kernel
theorem d_Prc_transfer_311 : decode b_Prc_transfer 311 = .ok (.getfield 135, 3) := by decide +kernel
theorem d_Prc_transfer_314 : decode b_Prc_transfer 314 = .ok (.putfield 190, 3) := by decide +kernel
theorem d_Prc_transfer_317 : decode b_Prc_transfer 317 = .ok (.goto 59, 3) := by decide +kernel
theorem d_Prc_transfer_320 : decode b_Prc_transfer 320 = .ok (.aload_n 0, 1) := by decide +kernel
theorem d_Prc_transfer_321 : decode b_Prc_transfer 321 = .ok (.getfield 13, 3) := by decide +kernel
theorem d_Prc_transfer_324 : decode b_Prc_transfer 324 = .ok (.aload_n 0, 1) := by decide +kernel
theorem d_Prc_transfer_325 : decode b_Prc_transfer 325 = .ok (.getfield 13, 3) := by decide +kernel
theorem d_Prc_transfer_328 : decode b_Prc_transfer 328 = .ok (.getfield 135, 3) := by decide +kernel
theorem d_Prc_transfer_331 : decode b_Prc_transfer 331 = .ok (.bipush 8, 2) := by decide +kernel
theorem d_Prc_transfer_333 : decode b_Prc_transfer 333 = .ok (.ishr, 1) := by decide +kernel
theorem d_Prc_transfer_334 : decode b_Prc_transfer 334 = .ok (.aload_n 0, 1) := by decide +kernel
theorem d_Prc_transfer_335 : decode b_Prc_transfer 335 = .ok (.getfield 13, 3) := by decide +kernel
theorem d_Prc_transfer_338 : decode b_Prc_transfer 338 = .ok (.getfield 135, 3) := by decide +kernel
theorem d_Prc_transfer_341 : decode b_Prc_transfer 341 = .ok (.sipush 255, 3) := by decide +kernel
theorem d_Prc_transfer_344 : decode b_Prc_transfer 344 = .ok (.iand, 1) := by decide +kernel
theorem d_Prc_transfer_345 : decode b_Prc_transfer 345 = .ok (.bipush 8, 2) := by decide +kernel
theorem d_Prc_transfer_347 : decode b_Prc_transfer 347 = .ok (.ishl, 1) := by decide +kernel
theorem d_Prc_transfer_348 : decode b_Prc_transfer 348 = .ok (.ior, 1) := by decide +kernel
theorem d_Prc_transfer_349 : decode b_Prc_transfer 349 = .ok (.putfield 135, 3) := by decide +kernel
theorem d_Prc_transfer_352 : decode b_Prc_transfer 352 = .ok (.aload_n 0, 1) := by decide +kernel
theorem d_Prc_transfer_353 : decode b_Prc_transfer 353 = .ok (.getfield 13, 3) := by decide +kernel
theorem d_Prc_transfer_356 : decode b_Prc_transfer 356 = .ok (.aload_n 0, 1) := by decide +kernel
theorem d_Prc_transfer_357 : decode b_Prc_transfer 357 = .ok (.getfield 13, 3) := by decide +kernel
theorem d_Prc_transfer_360 : decode b_Prc_transfer 360 = .ok (.getfield 135, 3) := by decide +kernel
theorem d_Prc_transfer_363 : decode b_Prc_transfer 363 = .ok (.sipush 255, 3) := by decide +kernel
theorem d_Prc_transfer_366 : decode b_Prc_transfer 366 = .ok (.iand, 1) := by decide +kernel
theorem d_Prc_transfer_367 : decode b_Prc_transfer 367 = .ok (.iconst 0, 1) := by decide +kernel
theorem d_Prc_transfer_368 : decode b_Prc_transfer 368 = .ok (.invokevirtual 168, 3) := by decide +kernel
theorem d_Prc_transfer_371 : decode b_Prc_transfer 371 = .ok (.goto 5, 3) := by decide +kernel
theorem d_Prc_transfer_374 : decode b_Prc_transfer 374 = .ok (.iconst 0, 1) := by decide +kernel
theorem d_Prc_transfer_375 : decode b_Prc_transfer 375 = .ok (.ireturn, 1) := by decide +kernel
theorem d_Prc_transfer_376 : decode b_Prc_transfer 376 = .ok (.iconst 1, 1) := by decide +kernel
theorem d_Prc_transfer_377 : decode b_Prc_transfer 377 = .ok (.ireturn, 1) := by decide +kernel
theorem d_Prc_push_0 : decode b_Prc_push 0 = .ok (.iload_n 1, 1) := by decide +kernel
theorem d_Prc_push_1 : decode b_Prc_push 1 = .ok (.lookupswitch 232 #[(8, 147), (11, 198), (72, 75), (75, 181), (90, 123), (139, 164), (218, 99), (244, 215)], 75) := by decide +kernel
theorem d_Prc_push_76 : decode b_Prc_push 76 = .ok (.aload_n 0, 1) := by decide +kernel
theorem d_Prc_push_77 : decode b_Prc_push 77 = .ok (.getfield 29, 3) := by decide +kernel
theorem d_Prc_push_80 : decode b_Prc_push 80 = .ok (.aload_n 0, 1) := by decide +kernel
theorem d_Prc_push_81 : decode b_Prc_push 81 = .ok (.getfield 13, 3) := by decide +kernel
theorem d_Prc_push_84 : decode b_Prc_push 84 = .ok (.getfield 135, 3) := by decide +kernel
theorem d_Prc_push_87 : decode b_Prc_push 87 = .ok (.aload_n 0, 1) := by decide +kernel
theorem d_Prc_push_88 : decode b_Prc_push 88 = .ok (.getfield 13, 3) := by decide +kernel
theorem d_Prc_push_91 : decode b_Prc_push 91 = .ok (.invokevirtual 128, 3) := by decide +kernel
theorem d_Prc_push_94 : decode b_Prc_push 94 = .ok (.invokevirtual 202, 3) := by decide +kernel
theorem d_Prc_push_97 : decode b_Prc_push 97 = .ok (.goto 138, 3) := by decide +kernel
theorem d_Prc_push_100 : decode b_Prc_push 100 = .ok (.aload_n 0, 1) := by decide +kernel
theorem d_Prc_push_101 : decode b_Prc_push 101 = .ok (.getfield 29, 3) := by decide +kernel
theorem d_Prc_push_104 : decode b_Prc_push 104 = .ok (.aload_n 0, 1) := by decide +kernel
theorem d_Prc_push_105 : decode b_Prc_push 105 = .ok (.getfield 13, 3) := by decide +kernel
theorem d_Prc_push_108 : decode b_Prc_push 108 = .ok (.getfield 180, 3) := by decide +kernel
theorem d_Prc_push_111 : decode b_Prc_push 111 = .ok (.aload_n 0, 1) := by decide +kernel
theorem d_Prc_push_112 : decode b_Prc_push 112 = .ok (.getfield 13, 3) := by decide +kernel
theorem d_Prc_push_115 : decode b_Prc_push 115 = .ok (.invokevirtual 171, 3) := by decide +kernel
theorem d_Prc_push_118 : decode b_Prc_push 118 = .ok (.invokevirtual 202, 3) := by decide +kernel
theorem d_Prc_push_121 : decode b_Prc_push 121 = .ok (.goto 114, 3) := by decide +kernel
theorem d_Prc_push_124 : decode b_Prc_push 124 = .ok (.aload_n 0, 1) := by decide +kernel
theorem d_Prc_push_125 : decode b_Prc_push 125 = .ok (.getfield 29, 3) := by decide +kernel
theorem d_Prc_push_128 : decode b_Prc_push 128 = .ok (.aload_n 0, 1) := by decide +kernel
theorem d_Prc_push_129 : decode b_Prc_push 129 = .ok (.getfield 13, 3) := by decide +kernel
theorem d_Prc_push_132 : decode b_Prc_push 132 = .ok (.getfield 183, 3) := by decide +kernel
theorem d_Prc_push_135 : decode b_Prc_push 135 = .ok (.aload_n 0, 1) := by decide +kernel
theorem d_Prc_push_136 : decode b_Prc_push 136 = .ok (.getfield 13, 3) := by decide +kernel
theorem d_Prc_push_139 : decode b_Prc_push 139 = .ok (.invokevirtual 171, 3) := by decide +kernel
theorem d_Prc_push_142 : decode b_Prc_push 142 = .ok (.invokevirtual 202, 3) := by decide +kernel
theorem d_Prc_push_145 : decode b_Prc_push 145 = .ok (.goto 90, 3) := by decide +kernel
theorem d_Prc_push_148 : decode b_Prc_push 148 = .ok (.aload_n 0, 1) := by decide +kernel
theorem d_Prc_push_149 : decode b_Prc_push 149 = .ok (.getfield 29, 3) := by decide +kernel
theorem d_Prc_push_152 : decode b_Prc_push 152 = .ok (.aload_n 0, 1) := by decide +kernel
theorem d_Prc_push_153 : decode b_Prc_push 153 = .ok (.getfield 13, 3) := by decide +kernel
theorem d_Prc_push_156 : decode b_Prc_push 156 = .ok (.getfield 109, 3) := by decide +kernel
theorem d_Prc_push_159 : decode b_Prc_push 159 = .ok (.invokevirtual 100, 3) := by decide +kernel
theorem d_Prc_push_162 : decode b_Prc_push 162 = .ok (.goto 73, 3) := by decide +kernel
theorem d_Prc_push_165 : decode b_Prc_push 165 = .ok (.aload_n 0, 1) := by decide +kernel
theorem d_Prc_push_166 : decode b_Prc_push 166 = .ok (.getfield 29, 3) := by decide +kernel
theorem d_Prc_push_169 : decode b_Prc_push 169 = .ok (.aload_n 0, 1) := by decide +kernel
theorem d_Prc_push_170 : decode b_Prc_push 170 = .ok (.getfield 13, 3) := by decide +kernel
theorem d_Prc_push_173 : decode b_Prc_push 173 = .ok (.getfield 205, 3) := by decide +kernel
theorem d_Prc_push_176 : decode b_Prc_push 176 = .ok (.invokevirtual 100, 3) := by decide +kernel
theorem d_Prc_push_179 : decode b_Prc_push 179 = .ok (.goto 56, 3) := by decide +kernel
theorem d_Prc_push_182 : decode b_Prc_push 182 = .ok (.aload_n 0, 1) := by decide +kernel
theorem d_Prc_push_183 : decode b_Prc_push 183 = .ok (.getfield 29, 3) := by decide +kernel
theorem d_Prc_push_186 : decode b_Prc_push 186 = .ok (.aload_n 0, 1) := by decide +kernel
theorem d_Prc_push_187 : decode b_Prc_push 187 = .ok (.getfield 13, 3) := by decide +kernel
theorem d_Prc_push_190 : decode b_Prc_push 190 = .ok (.getfield 97, 3) := by decide +kernel
theorem d_Prc_push_193 : decode b_Prc_push 193 = .ok (.invokevirtual 100, 3) := by decide +kernel
theorem d_Prc_push_196 : decode b_Prc_push 196 = .ok (.goto 39, 3) := by decide +kernel
theorem d_Prc_push_199 : decode b_Prc_push 199 = .ok (.aload_n 0, 1) := by decide +kernel
theorem d_Prc_push_200 : decode b_Prc_push 200 = .ok (.getfield 29, 3) := by decide +kernel
theorem d_Prc_push_203 : decode b_Prc_push 203 = .ok (.aload_n 0, 1) := by decide +kernel
theorem d_Prc_push_204 : decode b_Prc_push 204 = .ok (.getfield 13, 3) := by decide +kernel
theorem d_Prc_push_207 : decode b_Prc_push 207 = .ok (.getfield 196, 3) := by decide +kernel
theorem d_Prc_push_210 : decode b_Prc_push 210 = .ok (.invokevirtual 106, 3) := by decide +kernel
theorem d_Prc_push_213 : decode b_Prc_push 213 = .ok (.goto 22, 3) := by decide +kernel
theorem d_Prc_push_216 : decode b_Prc_push 216 = .ok (.aload_n 0, 1) := by decide +kernel
theorem d_Prc_push_217 : decode b_Prc_push 217 = .ok (.getfield 29, 3) := by decide +kernel
theorem d_Prc_push_220 : decode b_Prc_push 220 = .ok (.aload_n 0, 1) := by decide +kernel
theorem d_Prc_push_221 : decode b_Prc_push 221 = .ok (.getfield 22, 3) := by decide +kernel
theorem d_Prc_push_224 : decode b_Prc_push 224 = .ok (.invokevirtual 208, 3) := by decide +kernel
theorem d_Prc_push_227 : decode b_Prc_push 227 = .ok (.invokevirtual 106, 3) := by decide +kernel
theorem d_Prc_push_230 : decode b_Prc_push 230 = .ok (.goto 5, 3) := by decide +kernel
theorem d_Prc_push_233 : decode b_Prc_push 233 = .ok (.iconst 0, 1) := by decide +kernel
theorem d_Prc_push_234 : decode b_Prc_push 234 = .ok (.ireturn, 1) := by decide +kernel
theorem d_Prc_push_235 : decode b_Prc_push 235 = .ok (.iconst 1, 1) := by decide +kernel
theorem d_Prc_push_236 : decode b_Prc_push 236 = .ok (.ireturn, 1) := by decide +kernel
theorem d_Prc_pull_0 : decode b_Prc_pull 0 = .ok (.iload_n 1, 1) := by decide +kernel
theorem d_Prc_pull_1 : decode b_Prc_pull 1 = .ok (.lookupswitch 182 #[(40, 165), (43, 131), (104, 59), (122, 107), (171, 148), (250, 83)], 59) := by decide +kernel
theorem d_Prc_pull_60 : decode b_Prc_pull 60 = .ok (.aload_n 0, 1) := by decide +kernel
theorem d_Prc_pull_61 : decode b_Prc_pull 61 = .ok (.getfield 13, 3) := by decide +kernel
theorem d_Prc_pull_64 : decode b_Prc_pull 64 = .ok (.aload_n 0, 1) := by decide +kernel
theorem d_Prc_pull_65 : decode b_Prc_pull 65 = .ok (.getfield 29, 3) := by decide +kernel
theorem d_Prc_pull_68 : decode b_Prc_pull 68 = .ok (.aload_n 0, 1) := by decide +kernel
theorem d_Prc_pull_69 : decode b_Prc_pull 69 = .ok (.getfield 13, 3) := by decide +kernel
theorem d_Prc_pull_72 : decode b_Prc_pull 72 = .ok (.invokevirtual 128, 3) := by decide +kernel
theorem d_Prc_pull_75 : decode b_Prc_pull 75 = .ok (.invokevirtual 211, 3) := by decide +kernel
theorem d_Prc_pull_78 : decode b_Prc_pull 78 = .ok (.invokevirtual 153, 3) := by decide +kernel
theorem d_Prc_pull_81 : decode b_Prc_pull 81 = .ok (.goto 104, 3) := by decide +kernel
theorem d_Prc_pull_84 : decode b_Prc_pull 84 = .ok (.aload_n 0, 1) := by decide +kernel
theorem d_Prc_pull_85 : decode b_Prc_pull 85 = .ok (.getfield 13, 3) := by decide +kernel
theorem d_Prc_pull_88 : decode b_Prc_pull 88 = .ok (.aload_n 0, 1) := by decide +kernel
theorem d_Prc_pull_89 : decode b_Prc_pull 89 = .ok (.getfield 29, 3) := by decide +kernel
theorem d_Prc_pull_92 : decode b_Prc_pull 92 = .ok (.aload_n 0, 1) := by decide +kernel
theorem d_Prc_pull_93 : decode b_Prc_pull 93 = .ok (.getfield 13, 3) := by decide +kernel
theorem d_Prc_pull_96 : decode b_Prc_pull 96 = .ok (.invokevirtual 171, 3) := by decide +kernel
theorem d_Prc_pull_99 : decode b_Prc_pull 99 = .ok (.invokevirtual 211, 3) := by decide +kernel
theorem d_Prc_pull_102 : decode b_Prc_pull 102 = .ok (.invokevirtual 174, 3) := by decide +kernel
theorem d_Prc_pull_105 : decode b_Prc_pull 105 = .ok (.goto 80, 3) := by decide +kernel
theorem d_Prc_pull_108 : decode b_Prc_pull 108 = .ok (.aload_n 0, 1) := by decide +kernel
theorem d_Prc_pull_109 : decode b_Prc_pull 109 = .ok (.getfield 13, 3) := by decide +kernel
theorem d_Prc_pull_112 : decode b_Prc_pull 112 = .ok (.aload_n 0, 1) := by decide +kernel
theorem d_Prc_pull_113 : decode b_Prc_pull 113 = .ok (.getfield 29, 3) := by decide +kernel
theorem d_Prc_pull_116 : decode b_Prc_pull 116 = .ok (.aload_n 0, 1) := by decide +kernel
theorem d_Prc_pull_117 : decode b_Prc_pull 117 = .ok (.getfield 13, 3) := by decide +kernel
theorem d_Prc_pull_120 : decode b_Prc_pull 120 = .ok (.invokevirtual 171, 3) := by decide +kernel
theorem d_Prc_pull_123 : decode b_Prc_pull 123 = .ok (.invokevirtual 211, 3) := by decide +kernel
theorem d_Prc_pull_126 : decode b_Prc_pull 126 = .ok (.invokevirtual 177, 3) := by decide +kernel
theorem d_Prc_pull_129 : decode b_Prc_pull 129 = .ok (.goto 56, 3) := by decide +kernel
theorem d_Prc_pull_132 : decode b_Prc_pull 132 = .ok (.aload_n 0, 1) := by decide +kernel
theorem d_Prc_pull_133 : decode b_Prc_pull 133 = .ok (.getfield 13, 3) := by decide +kernel
theorem d_Prc_pull_136 : decode b_Prc_pull 136 = .ok (.aload_n 0, 1) := by decide +kernel
theorem d_Prc_pull_137 : decode b_Prc_pull 137 = .ok (.getfield 29, 3) := by decide +kernel
theorem d_Prc_pull_140 : decode b_Prc_pull 140 = .ok (.invokevirtual 214, 3) := by decide +kernel
theorem d_Prc_pull_143 : decode b_Prc_pull 143 = .ok (.invokevirtual 193, 3) := by decide +kernel
theorem d_Prc_pull_146 : decode b_Prc_pull 146 = .ok (.goto 39, 3) := by decide +kernel
theorem d_Prc_pull_149 : decode b_Prc_pull 149 = .ok (.aload_n 0, 1) := by decide +kernel
theorem d_Prc_pull_150 : decode b_Prc_pull 150 = .ok (.getfield 13, 3) := by decide +kernel
theorem d_Prc_pull_153 : decode b_Prc_pull 153 = .ok (.aload_n 0, 1) := by decide +kernel
theorem d_Prc_pull_154 : decode b_Prc_pull 154 = .ok (.getfield 29, 3) := by decide +kernel
theorem d_Prc_pull_157 : decode b_Prc_pull 157 = .ok (.invokevirtual 217, 3) := by decide +kernel
theorem d_Prc_pull_160 : decode b_Prc_pull 160 = .ok (.invokevirtual 220, 3) := by decide +kernel
theorem d_Prc_pull_163 : decode b_Prc_pull 163 = .ok (.goto 22, 3) := by decide +kernel
theorem d_Prc_pull_166 : decode b_Prc_pull 166 = .ok (.aload_n 0, 1) := by decide +kernel
theorem d_Prc_pull_167 : decode b_Prc_pull 167 = .ok (.getfield 13, 3) := by decide +kernel
theorem d_Prc_pull_170 : decode b_Prc_pull 170 = .ok (.aload_n 0, 1) := by decide +kernel
theorem d_Prc_pull_171 : decode b_Prc_pull 171 = .ok (.getfield 29, 3) := by decide +kernel
theorem d_Prc_pull_174 : decode b_Prc_pull 174 = .ok (.invokevirtual 217, 3) := by decide +kernel
theorem d_Prc_pull_177 : decode b_Prc_pull 177 = .ok (.invokevirtual 223, 3) := by decide +kernel
theorem d_Prc_pull_180 : decode b_Prc_pull 180 = .ok (.goto 5, 3) := by decide +kernel
theorem d_Prc_pull_183 : decode b_Prc_pull 183 = .ok (.iconst 0, 1) := by decide +kernel
theorem d_Prc_pull_184 : decode b_Prc_pull 184 = .ok (.ireturn, 1) := by decide +kernel
theorem d_Prc_pull_185 : decode b_Prc_pull 185 = .ok (.iconst 1, 1) := by decide +kernel
theorem d_Prc_pull_186 : decode b_Prc_pull 186 = .ok (.ireturn, 1) := by decide +kernel
theorem d_Prc_branch_0 : decode b_Prc_branch 0 = .ok (.iload_n 1, 1) := by decide +kernel
theorem d_Prc_branch_1 : decode b_Prc_branch 1 = .ok (.sipush 130, 3) := by decide +kernel
theorem d_Prc_branch_4 : decode b_Prc_branch 4 = .ok (.if_icmp .ne 29, 3) := by decide +kernel
theorem d_Prc_branch_7 : decode b_Prc_branch 7 = .ok (.aload_n 0, 1) := by decide +kernel
theorem d_Prc_branch_8 : decode b_Prc_branch 8 = .ok (.getfield 22, 3) := by decide +kernel
theorem d_Prc_branch_11 : decode b_Prc_branch 11 = .ok (.invokevirtual 208, 3) := by decide +kernel
theorem d_Prc_branch_14 : decode b_Prc_branch 14 = .ok (.istore_n 2, 1) := by decide +kernel
theorem d_Prc_branch_15 : decode b_Prc_branch 15 = .ok (.aload_n 0, 1) := by decide +kernel
theorem d_Prc_branch_16 : decode b_Prc_branch 16 = .ok (.getfield 13, 3) := by decide +kernel
theorem d_Prc_branch_19 : decode b_Prc_branch 19 = .ok (.aload_n 0, 1) := by decide +kernel
theorem d_Prc_branch_20 : decode b_Prc_branch 20 = .ok (.getfield 13, 3) := by decide +kernel
theorem d_Prc_branch_23 : decode b_Prc_branch 23 = .ok (.getfield 103, 3) := by decide +kernel
theorem d_Prc_branch_26 : decode b_Prc_branch 26 = .ok (.iload_n 2, 1) := by decide +kernel
theorem d_Prc_branch_27 : decode b_Prc_branch 27 = .ok (.iadd, 1) := by decide +kernel
theorem d_Prc_branch_28 : decode b_Prc_branch 28 = .ok (.invokevirtual 226, 3) := by decide +kernel
theorem d_Prc_branch_31 : decode b_Prc_branch 31 = .ok (.iconst 1, 1) := by decide +kernel
theorem d_Prc_branch_32 : decode b_Prc_branch 32 = .ok (.ireturn, 1) := by decide +kernel
theorem d_Prc_branch_33 : decode b_Prc_branch 33 = .ok (.iload_n 1, 1) := by decide +kernel
theorem d_Prc_branch_34 : decode b_Prc_branch 34 = .ok (.sipush 128, 3) := by decide +kernel
theorem d_Prc_branch_37 : decode b_Prc_branch 37 = .ok (.if_icmp .ne 7, 3) := by decide +kernel
theorem d_Prc_branch_40 : decode b_Prc_branch 40 = .ok (.iconst 1, 1) := by decide +kernel
theorem d_Prc_branch_41 : decode b_Prc_branch 41 = .ok (.goto 4, 3) := by decide +kernel
theorem d_Prc_branch_44 : decode b_Prc_branch 44 = .ok (.iconst 0, 1) := by decide +kernel
theorem d_Prc_branch_45 : decode b_Prc_branch 45 = .ok (.istore_n 2, 1) := by decide +kernel
theorem d_Prc_branch_46 : decode b_Prc_branch 46 = .ok (.iload_n 2, 1) := by decide +kernel
theorem d_Prc_branch_47 : decode b_Prc_branch 47 = .ok (.ifCond .ne 14, 3) := by decide +kernel
theorem d_Prc_branch_50 : decode b_Prc_branch 50 = .ok (.iload_n 1, 1) := by decide +kernel
theorem d_Prc_branch_51 : decode b_Prc_branch 51 = .ok (.bipush 31, 2) := by decide +kernel
theorem d_Prc_branch_53 : decode b_Prc_branch 53 = .ok (.iand, 1) := by decide +kernel
theorem d_Prc_branch_54 : decode b_Prc_branch 54 = .ok (.bipush 16, 2) := by decide +kernel
theorem d_Prc_branch_56 : decode b_Prc_branch 56 = .ok (.if_icmp .eq 5, 3) := by decide +kernel
theorem d_Prc_branch_59 : decode b_Prc_branch 59 = .ok (.iconst 0, 1) := by decide +kernel
theorem d_Prc_branch_60 : decode b_Prc_branch 60 = .ok (.ireturn, 1) := by decide +kernel
theorem d_Prc_branch_61 : decode b_Prc_branch 61 = .ok (.aload_n 0, 1) := by decide +kernel
theorem d_Prc_branch_62 : decode b_Prc_branch 62 = .ok (.getfield 22, 3) := by decide +kernel
theorem d_Prc_branch_65 : decode b_Prc_branch 65 = .ok (.invokevirtual 54, 3) := by decide +kernel
theorem d_Prc_branch_68 : decode b_Prc_branch 68 = .ok (.i2b, 1) := by decide +kernel
theorem d_Prc_branch_69 : decode b_Prc_branch 69 = .ok (.istore_n 3, 1) := by decide +kernel
theorem d_Prc_branch_70 : decode b_Prc_branch 70 = .ok (.iload_n 2, 1) := by decide +kernel
theorem d_Prc_branch_71 : decode b_Prc_branch 71 = .ok (.ifCond .ne 33, 3) := by decide +kernel
theorem d_Prc_branch_74 : decode b_Prc_branch 74 = .ok (.aload_n 0, 1) := by decide +kernel
theorem d_Prc_branch_75 : decode b_Prc_branch 75 = .ok (.getfield 13, 3) := by decide +kernel
theorem d_Prc_branch_78 : decode b_Prc_branch 78 = .ok (.getstatic 229, 3) := by decide +kernel
theorem d_Prc_branch_81 : decode b_Prc_branch 81 = .ok (.iload_n 1, 1) := by decide +kernel
theorem d_Prc_branch_82 : decode b_Prc_branch 82 = .ok (.bipush 6, 2) := by decide +kernel
theorem d_Prc_branch_84 : decode b_Prc_branch 84 = .ok (.ishr, 1) := by decide +kernel
theorem d_Prc_branch_85 : decode b_Prc_branch 85 = .ok (.iaload, 1) := by decide +kernel
theorem d_Prc_branch_86 : decode b_Prc_branch 86 = .ok (.invokevirtual 50, 3) := by decide +kernel
theorem d_Prc_branch_89 : decode b_Prc_branch 89 = .ok (.iload_n 1, 1) := by decide +kernel
theorem d_Prc_branch_90 : decode b_Prc_branch 90 = .ok (.bipush 32, 2) := by decide +kernel
theorem d_Prc_branch_92 : decode b_Prc_branch 92 = .ok (.iand, 1) := by decide +kernel
theorem d_Prc_branch_93 : decode b_Prc_branch 93 = .ok (.ifCond .eq 7, 3) := by decide +kernel
theorem d_Prc_branch_96 : decode b_Prc_branch 96 = .ok (.iconst 1, 1) := by decide +kernel
theorem d_Prc_branch_97 : decode b_Prc_branch 97 = .ok (.goto 4, 3) := by decide +kernel
theorem d_Prc_branch_100 : decode b_Prc_branch 100 = .ok (.iconst 0, 1) := by decide +kernel
theorem d_Prc_branch_101 : decode b_Prc_branch 101 = .ok (.if_icmp .ne 19, 3) := by decide +kernel
theorem d_Prc_branch_104 : decode b_Prc_branch 104 = .ok (.aload_n 0, 1) := by decide +kernel
theorem d_Prc_branch_105 : decode b_Prc_branch 105 = .ok (.getfield 13, 3) := by decide +kernel
theorem d_Prc_branch_108 : decode b_Prc_branch 108 = .ok (.aload_n 0, 1) := by decide +kernel
theorem d_Prc_branch_109 : decode b_Prc_branch 109 = .ok (.getfield 13, 3) := by decide +kernel
theorem d_Prc_branch_112 : decode b_Prc_branch 112 = .ok (.getfield 103, 3) := by decide +kernel
theorem d_Prc_branch_115 : decode b_Prc_branch 115 = .ok (.iload_n 3, 1) := by decide +kernel
theorem d_Prc_branch_116 : decode b_Prc_branch 116 = .ok (.iadd, 1) := by decide +kernel
theorem d_Prc_branch_117 : decode b_Prc_branch 117 = .ok (.invokevirtual 226, 3) := by decide +kernel
theorem d_Prc_branch_120 : decode b_Prc_branch 120 = .ok (.iconst 1, 1) := by decide +kernel
theorem d_Prc_branch_121 : decode b_Prc_branch 121 = .ok (.ireturn, 1) := by decide +kernel
theorem d_Prc_jump_0 : decode b_Prc_jump 0 = .ok (.iload_n 1, 1) := by decide +kernel
theorem d_Prc_jump_1 : decode b_Prc_jump 1 = .ok (.lookupswitch 288 #[(32, 101), (34, 139), (64, 243), (76, 67), (92, 84), (96, 191), (107, 210)], 67) := by decide +kernel
theorem d_Prc_jump_68 : decode b_Prc_jump 68 = .ok (.aload_n 0, 1) := by decide +kernel
theorem d_Prc_jump_69 : decode b_Prc_jump 69 = .ok (.getfield 13, 3) := by decide +kernel
theorem d_Prc_jump_72 : decode b_Prc_jump 72 = .ok (.aload_n 0, 1) := by decide +kernel
theorem d_Prc_jump_73 : decode b_Prc_jump 73 = .ok (.getfield 22, 3) := by decide +kernel
theorem d_Prc_jump_76 : decode b_Prc_jump 76 = .ok (.invokevirtual 208, 3) := by decide +kernel
theorem d_Prc_jump_79 : decode b_Prc_jump 79 = .ok (.invokevirtual 226, 3) := by decide +kernel
theorem d_Prc_jump_82 : decode b_Prc_jump 82 = .ok (.goto 209, 3) := by decide +kernel
theorem d_Prc_jump_85 : decode b_Prc_jump 85 = .ok (.aload_n 0, 1) := by decide +kernel
theorem d_Prc_jump_86 : decode b_Prc_jump 86 = .ok (.getfield 13, 3) := by decide +kernel
theorem d_Prc_jump_89 : decode b_Prc_jump 89 = .ok (.aload_n 0, 1) := by decide +kernel
theorem d_Prc_jump_90 : decode b_Prc_jump 90 = .ok (.getfield 22, 3) := by decide +kernel
theorem d_Prc_jump_93 : decode b_Prc_jump 93 = .ok (.invokevirtual 233, 3) := by decide +kernel
theorem d_Prc_jump_96 : decode b_Prc_jump 96 = .ok (.invokevirtual 236, 3) := by decide +kernel
theorem d_Prc_jump_99 : decode b_Prc_jump 99 = .ok (.goto 192, 3) := by decide +kernel
theorem d_Prc_jump_102 : decode b_Prc_jump 102 = .ok (.aload_n 0, 1) := by decide +kernel
theorem d_Prc_jump_103 : decode b_Prc_jump 103 = .ok (.getfield 22, 3) := by decide +kernel
theorem d_Prc_jump_106 : decode b_Prc_jump 106 = .ok (.invokevirtual 208, 3) := by decide +kernel
theorem d_Prc_jump_109 : decode b_Prc_jump 109 = .ok (.istore_n 2, 1) := by decide +kernel
theorem d_Prc_jump_110 : decode b_Prc_jump 110 = .ok (.aload_n 0, 1) := by decide +kernel
theorem d_Prc_jump_111 : decode b_Prc_jump 111 = .ok (.getfield 29, 3) := by decide +kernel
theorem d_Prc_jump_114 : decode b_Prc_jump 114 = .ok (.aload_n 0, 1) := by decide +kernel
theorem d_Prc_jump_115 : decode b_Prc_jump 115 = .ok (.getfield 13, 3) := by decide +kernel
theorem d_Prc_jump_118 : decode b_Prc_jump 118 = .ok (.getfield 103, 3) := by decide +kernel
theorem d_Prc_jump_121 : decode b_Prc_jump 121 = .ok (.iconst 1, 1) := by decide +kernel
theorem d_Prc_jump_122 : decode b_Prc_jump 122 = .ok (.isub, 1) := by decide +kernel
theorem d_Prc_jump_123 : decode b_Prc_jump 123 = .ok (.ldc 239, 2) := by decide +kernel
theorem d_Prc_jump_125 : decode b_Prc_jump 125 = .ok (.iand, 1) := by decide +kernel
theorem d_Prc_jump_126 : decode b_Prc_jump 126 = .ok (.invokevirtual 106, 3) := by decide +kernel
theorem d_Prc_jump_129 : decode b_Prc_jump 129 = .ok (.aload_n 0, 1) := by decide +kernel
theorem d_Prc_jump_130 : decode b_Prc_jump 130 = .ok (.getfield 13, 3) := by decide +kernel
theorem d_Prc_jump_133 : decode b_Prc_jump 133 = .ok (.iload_n 2, 1) := by decide +kernel
theorem d_Prc_jump_134 : decode b_Prc_jump 134 = .ok (.invokevirtual 226, 3) := by decide +kernel
theorem d_Prc_jump_137 : decode b_Prc_jump 137 = .ok (.goto 154, 3) := by decide +kernel
theorem d_Prc_jump_140 : decode b_Prc_jump 140 = .ok (.aload_n 0, 1) := by decide +kernel
theorem d_Prc_jump_141 : decode b_Prc_jump 141 = .ok (.getfield 22, 3) := by decide +kernel
theorem d_Prc_jump_144 : decode b_Prc_jump 144 = .ok (.invokevirtual 233, 3) := by decide +kernel
theorem d_Prc_jump_147 : decode b_Prc_jump 147 = .ok (.istore_n 2, 1) := by decide +kernel
theorem d_Prc_jump_148 : decode b_Prc_jump 148 = .ok (.aload_n 0, 1) := by decide +kernel
theorem d_Prc_jump_149 : decode b_Prc_jump 149 = .ok (.getfield 29, 3) := by decide +kernel
theorem d_Prc_jump_152 : decode b_Prc_jump 152 = .ok (.aload_n 0, 1) := by decide +kernel
theorem d_Prc_jump_153 : decode b_Prc_jump 153 = .ok (.getfield 13, 3) := by decide +kernel
theorem d_Prc_jump_156 : decode b_Prc_jump 156 = .ok (.getfield 97, 3) := by decide +kernel
theorem d_Prc_jump_159 : decode b_Prc_jump 159 = .ok (.invokevirtual 100, 3) := by decide +kernel
theorem d_Prc_jump_162 : decode b_Prc_jump 162 = .ok (.aload_n 0, 1) := by decide +kernel
theorem d_Prc_jump_163 : decode b_Prc_jump 163 = .ok (.getfield 29, 3) := by decide +kernel
theorem d_Prc_jump_166 : decode b_Prc_jump 166 = .ok (.aload_n 0, 1) := by decide +kernel
theorem d_Prc_jump_167 : decode b_Prc_jump 167 = .ok (.getfield 13, 3) := by decide +kernel
theorem d_Prc_jump_170 : decode b_Prc_jump 170 = .ok (.getfield 103, 3) := by decide +kernel
theorem d_Prc_jump_173 : decode b_Prc_jump 173 = .ok (.iconst 1, 1) := by decide +kernel
theorem d_Prc_jump_174 : decode b_Prc_jump 174 = .ok (.isub, 1) := by decide +kernel
theorem d_Prc_jump_175 : decode b_Prc_jump 175 = .ok (.ldc 239, 2) := by decide +kernel
theorem d_Prc_jump_177 : decode b_Prc_jump 177 = .ok (.iand, 1) := by decide +kernel
theorem d_Prc_jump_178 : decode b_Prc_jump 178 = .ok (.invokevirtual 106, 3) := by decide +kernel
theorem d_Prc_jump_181 : decode b_Prc_jump 181 = .ok (.aload_n 0, 1) := by decide +kernel
theorem d_Prc_jump_182 : decode b_Prc_jump 182 = .ok (.getfield 13, 3) := by decide +kernel
theorem d_Prc_jump_185 : decode b_Prc_jump 185 = .ok (.iload_n 2, 1) := by decide +kernel
theorem d_Prc_jump_186 : decode b_Prc_jump 186 = .ok (.invokevirtual 236, 3) := by decide +kernel
theorem d_Prc_jump_189 : decode b_Prc_jump 189 = .ok (.goto 102, 3) := by decide +kernel
theorem d_Prc_jump_192 : decode b_Prc_jump 192 = .ok (.aload_n 0, 1) := by decide +kernel
theorem d_Prc_jump_193 : decode b_Prc_jump 193 = .ok (.getfield 13, 3) := by decide +kernel
theorem d_Prc_jump_196 : decode b_Prc_jump 196 = .ok (.aload_n 0, 1) := by decide +kernel
theorem d_Prc_jump_197 : decode b_Prc_jump 197 = .ok (.getfield 29, 3) := by decide +kernel
theorem d_Prc_jump_200 : decode b_Prc_jump 200 = .ok (.invokevirtual 214, 3) := by decide +kernel
theorem d_Prc_jump_203 : decode b_Prc_jump 203 = .ok (.iconst 1, 1) := by decide +kernel
theorem d_Prc_jump_204 : decode b_Prc_jump 204 = .ok (.iadd, 1) := by decide +kernel
theorem d_Prc_jump_205 : decode b_Prc_jump 205 = .ok (.invokevirtual 226, 3) := by decide +kernel
theorem d_Prc_jump_208 : decode b_Prc_jump 208 = .ok (.goto 83, 3) := by decide +kernel
theorem d_Prc_jump_211 : decode b_Prc_jump 211 = .ok (.aload_n 0, 1) := by decide +kernel
theorem d_Prc_jump_212 : decode b_Prc_jump 212 = .ok (.getfield 13, 3) := by decide +kernel
theorem d_Prc_jump_215 : decode b_Prc_jump 215 = .ok (.aload_n 0, 1) := by decide +kernel
theorem d_Prc_jump_216 : decode b_Prc_jump 216 = .ok (.getfield 29, 3) := by decide +kernel
theorem d_Prc_jump_219 : decode b_Prc_jump 219 = .ok (.invokevirtual 214, 3) := by decide +kernel
theorem d_Prc_jump_222 : decode b_Prc_jump 222 = .ok (.iconst 1, 1) := by decide +kernel
theorem d_Prc_jump_223 : decode b_Prc_jump 223 = .ok (.iadd, 1) := by decide +kernel
theorem d_Prc_jump_224 : decode b_Prc_jump 224 = .ok (.invokevirtual 226, 3) := by decide +kernel
theorem d_Prc_jump_227 : decode b_Prc_jump 227 = .ok (.aload_n 0, 1) := by decide +kernel
theorem d_Prc_jump_228 : decode b_Prc_jump 228 = .ok (.getfield 13, 3) := by decide +kernel
theorem d_Prc_jump_231 : decode b_Prc_jump 231 = .ok (.aload_n 0, 1) := by decide +kernel
theorem d_Prc_jump_232 : decode b_Prc_jump 232 = .ok (.getfield 29, 3) := by decide +kernel
theorem d_Prc_jump_235 : decode b_Prc_jump 235 = .ok (.invokevirtual 217, 3) := by decide +kernel
theorem d_Prc_jump_238 : decode b_Prc_jump 238 = .ok (.putfield 97, 3) := by decide +kernel
theorem d_Prc_jump_241 : decode b_Prc_jump 241 = .ok (.goto 50, 3) := by decide +kernel
theorem d_Prc_jump_244 : decode b_Prc_jump 244 = .ok (.aload_n 0, 1) := by decide +kernel
theorem d_Prc_jump_245 : decode b_Prc_jump 245 = .ok (.getfield 13, 3) := by decide +kernel
theorem d_Prc_jump_248 : decode b_Prc_jump 248 = .ok (.aload_n 0, 1) := by decide +kernel
theorem d_Prc_jump_249 : decode b_Prc_jump 249 = .ok (.getfield 29, 3) := by decide +kernel
theorem d_Prc_jump_252 : decode b_Prc_jump 252 = .ok (.invokevirtual 217, 3) := by decide +kernel
theorem d_Prc_jump_255 : decode b_Prc_jump 255 = .ok (.invokevirtual 223, 3) := by decide +kernel
theorem d_Prc_jump_258 : decode b_Prc_jump 258 = .ok (.aload_n 0, 1) := by decide +kernel
theorem d_Prc_jump_259 : decode b_Prc_jump 259 = .ok (.getfield 13, 3) := by decide +kernel
theorem d_Prc_jump_262 : decode b_Prc_jump 262 = .ok (.aload_n 0, 1) := by decide +kernel
theorem d_Prc_jump_263 : decode b_Prc_jump 263 = .ok (.getfield 29, 3) := by decide +kernel
theorem d_Prc_jump_266 : decode b_Prc_jump 266 = .ok (.invokevirtual 214, 3) := by decide +kernel
theorem d_Prc_jump_269 : decode b_Prc_jump 269 = .ok (.invokevirtual 226, 3) := by decide +kernel
theorem d_Prc_jump_272 : decode b_Prc_jump 272 = .ok (.aload_n 0, 1) := by decide +kernel
theorem d_Prc_jump_273 : decode b_Prc_jump 273 = .ok (.getfield 13, 3) := by decide +kernel
theorem d_Prc_jump_276 : decode b_Prc_jump 276 = .ok (.aload_n 0, 1) := by decide +kernel
theorem d_Prc_jump_277 : decode b_Prc_jump 277 = .ok (.getfield 29, 3) := by decide +kernel
theorem d_Prc_jump_280 : decode b_Prc_jump 280 = .ok (.invokevirtual 217, 3) := by decide +kernel
theorem d_Prc_jump_283 : decode b_Prc_jump 283 = .ok (.putfield 97, 3) := by decide +kernel
theorem d_Prc_jump_286 : decode b_Prc_jump 286 = .ok (.goto 5, 3) := by decide +kernel
theorem d_Prc_jump_289 : decode b_Prc_jump 289 = .ok (.iconst 0, 1) := by decide +kernel
theorem d_Prc_jump_290 : decode b_Prc_jump 290 = .ok (.ireturn, 1) := by decide +kernel
theorem d_Prc_jump_291 : decode b_Prc_jump 291 = .ok (.iconst 1, 1) := by decide +kernel
theorem d_Prc_jump_292 : decode b_Prc_jump 292 = .ok (.ireturn, 1) := by decide +kernel
theorem d_Prc_changeFlags_0 : decode b_Prc_changeFlags 0 = .ok (.iload_n 1, 1) := by decide +kernel
theorem d_Prc_changeFlags_1 : decode b_Prc_changeFlags 1 = .ok (.lookupswitch 233 #[(24, 143), (56, 155), (88, 167), (120, 179), (184, 217), (194, 116), (216, 191), (226, 91), (234, 230), (248, 204)], 91) := by decide +kernel
theorem d_Prc_changeFlags_92 : decode b_Prc_changeFlags 92 = .ok (.aload_n 0, 1) := by decide +kernel
theorem d_Prc_changeFlags_93 : decode b_Prc_changeFlags 93 = .ok (.getfield 13, 3) := by decide +kernel
theorem d_Prc_changeFlags_96 : decode b_Prc_changeFlags 96 = .ok (.aload_n 0, 1) := by decide +kernel
theorem d_Prc_changeFlags_97 : decode b_Prc_changeFlags 97 = .ok (.getfield 13, 3) := by decide +kernel
theorem d_Prc_changeFlags_100 : decode b_Prc_changeFlags 100 = .ok (.getfield 109, 3) := by decide +kernel
theorem d_Prc_changeFlags_103 : decode b_Prc_changeFlags 103 = .ok (.aload_n 0, 1) := by decide +kernel
theorem d_Prc_changeFlags_104 : decode b_Prc_changeFlags 104 = .ok (.getfield 22, 3) := by decide +kernel
theorem d_Prc_changeFlags_107 : decode b_Prc_changeFlags 107 = .ok (.invokevirtual 54, 3) := by decide +kernel
theorem d_Prc_changeFlags_110 : decode b_Prc_changeFlags 110 = .ok (.ior, 1) := by decide +kernel
theorem d_Prc_changeFlags_111 : decode b_Prc_changeFlags 111 = .ok (.invokevirtual 223, 3) := by decide +kernel
theorem d_Prc_changeFlags_114 : decode b_Prc_changeFlags 114 = .ok (.goto 122, 3) := by decide +kernel
theorem d_Prc_changeFlags_117 : decode b_Prc_changeFlags 117 = .ok (.aload_n 0, 1) := by decide +kernel
theorem d_Prc_changeFlags_118 : decode b_Prc_changeFlags 118 = .ok (.getfield 13, 3) := by decide +kernel
theorem d_Prc_changeFlags_121 : decode b_Prc_changeFlags 121 = .ok (.aload_n 0, 1) := by decide +kernel
theorem d_Prc_changeFlags_122 : decode b_Prc_changeFlags 122 = .ok (.getfield 13, 3) := by decide +kernel
theorem d_Prc_changeFlags_125 : decode b_Prc_changeFlags 125 = .ok (.getfield 109, 3) := by decide +kernel
theorem d_Prc_changeFlags_128 : decode b_Prc_changeFlags 128 = .ok (.aload_n 0, 1) := by decide +kernel
theorem d_Prc_changeFlags_129 : decode b_Prc_changeFlags 129 = .ok (.getfield 22, 3) := by decide +kernel
theorem d_Prc_changeFlags_132 : decode b_Prc_changeFlags 132 = .ok (.invokevirtual 54, 3) := by decide +kernel
theorem d_Prc_changeFlags_135 : decode b_Prc_changeFlags 135 = .ok (.iconst (-1), 1) := by decide +kernel
theorem d_Prc_changeFlags_136 : decode b_Prc_changeFlags 136 = .ok (.ixor, 1) := by decide +kernel
theorem d_Prc_changeFlags_137 : decode b_Prc_changeFlags 137 = .ok (.iand, 1) := by decide +kernel
theorem d_Prc_changeFlags_138 : decode b_Prc_changeFlags 138 = .ok (.invokevirtual 223, 3) := by decide +kernel
theorem d_Prc_changeFlags_141 : decode b_Prc_changeFlags 141 = .ok (.goto 95, 3) := by decide +kernel
theorem d_Prc_changeFlags_144 : decode b_Prc_changeFlags 144 = .ok (.aload_n 0, 1) := by decide +kernel
theorem d_Prc_changeFlags_145 : decode b_Prc_changeFlags 145 = .ok (.getfield 13, 3) := by decide +kernel
theorem d_Prc_changeFlags_148 : decode b_Prc_changeFlags 148 = .ok (.iconst 1, 1) := by decide +kernel
theorem d_Prc_changeFlags_149 : decode b_Prc_changeFlags 149 = .ok (.iconst 0, 1) := by decide +kernel
theorem d_Prc_changeFlags_150 : decode b_Prc_changeFlags 150 = .ok (.invokevirtual 112, 3) := by decide +kernel
theorem d_Prc_changeFlags_153 : decode b_Prc_changeFlags 153 = .ok (.goto 83, 3) := by decide +kernel
theorem d_Prc_changeFlags_156 : decode b_Prc_changeFlags 156 = .ok (.aload_n 0, 1) := by decide +kernel
theorem d_Prc_changeFlags_157 : decode b_Prc_changeFlags 157 = .ok (.getfield 13, 3) := by decide +kernel
theorem d_Prc_changeFlags_160 : decode b_Prc_changeFlags 160 = .ok (.iconst 1, 1) := by decide +kernel
theorem d_Prc_changeFlags_161 : decode b_Prc_changeFlags 161 = .ok (.iconst 1, 1) := by decide +kernel
theorem d_Prc_changeFlags_162 : decode b_Prc_changeFlags 162 = .ok (.invokevirtual 112, 3) := by decide +kernel
theorem d_Prc_changeFlags_165 : decode b_Prc_changeFlags 165 = .ok (.goto 71, 3) := by decide +kernel
theorem d_Prc_changeFlags_168 : decode b_Prc_changeFlags 168 = .ok (.aload_n 0, 1) := by decide +kernel
theorem d_Prc_changeFlags_169 : decode b_Prc_changeFlags 169 = .ok (.getfield 13, 3) := by decide +kernel
theorem d_Prc_changeFlags_172 : decode b_Prc_changeFlags 172 = .ok (.iconst 4, 1) := by decide +kernel
theorem d_Prc_changeFlags_173 : decode b_Prc_changeFlags 173 = .ok (.iconst 0, 1) := by decide +kernel
theorem d_Prc_changeFlags_174 : decode b_Prc_changeFlags 174 = .ok (.invokevirtual 112, 3) := by decide +kernel
theorem d_Prc_changeFlags_177 : decode b_Prc_changeFlags 177 = .ok (.goto 59, 3) := by decide +kernel
theorem d_Prc_changeFlags_180 : decode b_Prc_changeFlags 180 = .ok (.aload_n 0, 1) := by decide +kernel
theorem d_Prc_changeFlags_181 : decode b_Prc_changeFlags 181 = .ok (.getfield 13, 3) := by decide +kernel
theorem d_Prc_changeFlags_184 : decode b_Prc_changeFlags 184 = .ok (.iconst 4, 1) := by decide +kernel
theorem d_Prc_changeFlags_185 : decode b_Prc_changeFlags 185 = .ok (.iconst 1, 1) := by decide +kernel
theorem d_Prc_changeFlags_186 : decode b_Prc_changeFlags 186 = .ok (.invokevirtual 112, 3) := by decide +kernel
theorem d_Prc_changeFlags_189 : decode b_Prc_changeFlags 189 = .ok (.goto 47, 3) := by decide +kernel
theorem d_Prc_changeFlags_192 : decode b_Prc_changeFlags 192 = .ok (.aload_n 0, 1) := by decide +kernel
theorem d_Prc_changeFlags_193 : decode b_Prc_changeFlags 193 = .ok (.getfield 13, 3) := by decide +kernel
theorem d_Prc_changeFlags_196 : decode b_Prc_changeFlags 196 = .ok (.bipush 8, 2) := by decide +kernel
theorem d_Prc_changeFlags_198 : decode b_Prc_changeFlags 198 = .ok (.iconst 0, 1) := by decide +kernel
theorem d_Prc_changeFlags_199 : decode b_Prc_changeFlags 199 = .ok (.invokevirtual 112, 3) := by decide +kernel
theorem d_Prc_changeFlags_202 : decode b_Prc_changeFlags 202 = .ok (.goto 34, 3) := by decide +kernel
theorem d_Prc_changeFlags_205 : decode b_Prc_changeFlags 205 = .ok (.aload_n 0, 1) := by decide +kernel
theorem d_Prc_changeFlags_206 : decode b_Prc_changeFlags 206 = .ok (.getfield 13, 3) := by decide +kernel
theorem d_Prc_changeFlags_209 : decode b_Prc_changeFlags 209 = .ok (.bipush 8, 2) := by decide +kernel
theorem d_Prc_changeFlags_211 : decode b_Prc_changeFlags 211 = .ok (.iconst 1, 1) := by decide +kernel
theorem d_Prc_changeFlags_212 : decode b_Prc_changeFlags 212 = .ok (.invokevirtual 112, 3) := by decide +kernel
theorem d_Prc_changeFlags_215 : decode b_Prc_changeFlags 215 = .ok (.goto 21, 3) := by decide +kernel
theorem d_Prc_changeFlags_218 : decode b_Prc_changeFlags 218 = .ok (.aload_n 0, 1) := by decide +kernel
theorem d_Prc_changeFlags_219 : decode b_Prc_changeFlags 219 = .ok (.getfield 13, 3) := by decide +kernel
theorem d_Prc_changeFlags_222 : decode b_Prc_changeFlags 222 = .ok (.bipush 64, 2) := by decide +kernel
theorem d_Prc_changeFlags_224 : decode b_Prc_changeFlags 224 = .ok (.iconst 0, 1) := by decide +kernel
theorem d_Prc_changeFlags_225 : decode b_Prc_changeFlags 225 = .ok (.invokevirtual 112, 3) := by decide +kernel
theorem d_Prc_changeFlags_228 : decode b_Prc_changeFlags 228 = .ok (.goto 8, 3) := by decide +kernel
theorem d_Prc_changeFlags_231 : decode b_Prc_changeFlags 231 = .ok (.goto 5, 3) := by decide +kernel
theorem d_Prc_changeFlags_234 : decode b_Prc_changeFlags 234 = .ok (.iconst 0, 1) := by decide +kernel
theorem d_Prc_changeFlags_235 : decode b_Prc_changeFlags 235 = .ok (.ireturn, 1) := by decide +kernel
theorem d_Prc_changeFlags_236 : decode b_Prc_changeFlags 236 = .ok (.iconst 1, 1) := by decide +kernel
theorem d_Prc_changeFlags_237 : decode b_Prc_changeFlags 237 = .ok (.ireturn, 1) := by decide +kernel
theorem d_Prc_moveBlock_0 : decode b_Prc_moveBlock 0 = .ok (.iload_n 1, 1) := by decide +kernel
theorem d_Prc_moveBlock_1 : decode b_Prc_moveBlock 1 = .ok (.bipush 84, 2) := by decide +kernel
theorem d_Prc_moveBlock_3 : decode b_Prc_moveBlock 3 = .ok (.if_icmp .eq 11, 3) := by decide +kernel
theorem d_Prc_moveBlock_6 : decode b_Prc_moveBlock 6 = .ok (.iload_n 1, 1) := by decide +kernel
theorem d_Prc_moveBlock_7 : decode b_Prc_moveBlock 7 = .ok (.bipush 68, 2) := by decide +kernel
theorem d_Prc_moveBlock_9 : decode b_Prc_moveBlock 9 = .ok (.if_icmp .eq 5, 3) := by decide +kernel
theorem d_Prc_moveBlock_12 : decode b_Prc_moveBlock 12 = .ok (.iconst 0, 1) := by decide +kernel
theorem d_Prc_moveBlock_13 : decode b_Prc_moveBlock 13 = .ok (.ireturn, 1) := by decide +kernel
theorem d_Prc_moveBlock_14 : decode b_Prc_moveBlock 14 = .ok (.aload_n 0, 1) := by decide +kernel
theorem d_Prc_moveBlock_15 : decode b_Prc_moveBlock 15 = .ok (.getfield 13, 3) := by decide +kernel
theorem d_Prc_moveBlock_18 : decode b_Prc_moveBlock 18 = .ok (.getfield 103, 3) := by decide +kernel
theorem d_Prc_moveBlock_21 : decode b_Prc_moveBlock 21 = .ok (.iconst 1, 1) := by decide +kernel
theorem d_Prc_moveBlock_22 : decode b_Prc_moveBlock 22 = .ok (.isub, 1) := by decide +kernel
theorem d_Prc_moveBlock_23 : decode b_Prc_moveBlock 23 = .ok (.istore_n 2, 1) := by decide +kernel
theorem d_Prc_moveBlock_24 : decode b_Prc_moveBlock 24 = .ok (.aload_n 0, 1) := by decide +kernel
theorem d_Prc_moveBlock_25 : decode b_Prc_moveBlock 25 = .ok (.getfield 22, 3) := by decide +kernel
theorem d_Prc_moveBlock_28 : decode b_Prc_moveBlock 28 = .ok (.invokevirtual 54, 3) := by decide +kernel
theorem d_Prc_moveBlock_31 : decode b_Prc_moveBlock 31 = .ok (.istore_n 3, 1) := by decide +kernel
theorem d_Prc_moveBlock_32 : decode b_Prc_moveBlock 32 = .ok (.aload_n 0, 1) := by decide +kernel
theorem d_Prc_moveBlock_33 : decode b_Prc_moveBlock 33 = .ok (.getfield 22, 3) := by decide +kernel
theorem d_Prc_moveBlock_36 : decode b_Prc_moveBlock 36 = .ok (.invokevirtual 54, 3) := by decide +kernel
theorem d_Prc_moveBlock_39 : decode b_Prc_moveBlock 39 = .ok (.istore 4, 2) := by decide +kernel
theorem d_Prc_moveBlock_41 : decode b_Prc_moveBlock 41 = .ok (.iload_n 1, 1) := by decide +kernel
theorem d_Prc_moveBlock_42 : decode b_Prc_moveBlock 42 = .ok (.bipush 84, 2) := by decide +kernel
theorem d_Prc_moveBlock_44 : decode b_Prc_moveBlock 44 = .ok (.if_icmp .ne 7, 3) := by decide +kernel
theorem d_Prc_moveBlock_47 : decode b_Prc_moveBlock 47 = .ok (.iconst 1, 1) := by decide +kernel
theorem d_Prc_moveBlock_48 : decode b_Prc_moveBlock 48 = .ok (.goto 4, 3) := by decide +kernel
theorem d_Prc_moveBlock_51 : decode b_Prc_moveBlock 51 = .ok (.iconst (-1), 1) := by decide +kernel
theorem d_Prc_moveBlock_52 : decode b_Prc_moveBlock 52 = .ok (.istore 5, 2) := by decide +kernel
theorem d_Prc_moveBlock_54 : decode b_Prc_moveBlock 54 = .ok (.aload_n 0, 1) := by decide +kernel
theorem d_Prc_moveBlock_55 : decode b_Prc_moveBlock 55 = .ok (.getfield 13, 3) := by decide +kernel
theorem d_Prc_moveBlock_58 : decode b_Prc_moveBlock 58 = .ok (.iload_n 3, 1) := by decide +kernel
theorem d_Prc_moveBlock_59 : decode b_Prc_moveBlock 59 = .ok (.putfield 205, 3) := by decide +kernel
theorem d_Prc_moveBlock_62 : decode b_Prc_moveBlock 62 = .ok (.aload_n 0, 1) := by decide +kernel
theorem d_Prc_moveBlock_63 : decode b_Prc_moveBlock 63 = .ok (.getfield 7, 3) := by decide +kernel
theorem d_Prc_moveBlock_66 : decode b_Prc_moveBlock 66 = .ok (.iload_n 3, 1) := by decide +kernel
theorem d_Prc_moveBlock_67 : decode b_Prc_moveBlock 67 = .ok (.bipush 16, 2) := by decide +kernel
theorem d_Prc_moveBlock_69 : decode b_Prc_moveBlock 69 = .ok (.ishl, 1) := by decide +kernel
theorem d_Prc_moveBlock_70 : decode b_Prc_moveBlock 70 = .ok (.aload_n 0, 1) := by decide +kernel
theorem d_Prc_moveBlock_71 : decode b_Prc_moveBlock 71 = .ok (.getfield 13, 3) := by decide +kernel
theorem d_Prc_moveBlock_74 : decode b_Prc_moveBlock 74 = .ok (.getfield 183, 3) := by decide +kernel
theorem d_Prc_moveBlock_77 : decode b_Prc_moveBlock 77 = .ok (.ior, 1) := by decide +kernel
theorem d_Prc_moveBlock_78 : decode b_Prc_moveBlock 78 = .ok (.aload_n 0, 1) := by decide +kernel
theorem d_Prc_moveBlock_79 : decode b_Prc_moveBlock 79 = .ok (.getfield 7, 3) := by decide +kernel
theorem d_Prc_moveBlock_82 : decode b_Prc_moveBlock 82 = .ok (.iload 4, 2) := by decide +kernel
theorem d_Prc_moveBlock_84 : decode b_Prc_moveBlock 84 = .ok (.bipush 16, 2) := by decide +kernel
theorem d_Prc_moveBlock_86 : decode b_Prc_moveBlock 86 = .ok (.ishl, 1) := by decide +kernel
theorem d_Prc_moveBlock_87 : decode b_Prc_moveBlock 87 = .ok (.aload_n 0, 1) := by decide +kernel
theorem d_Prc_moveBlock_88 : decode b_Prc_moveBlock 88 = .ok (.getfield 13, 3) := by decide +kernel
theorem d_Prc_moveBlock_91 : decode b_Prc_moveBlock 91 = .ok (.getfield 180, 3) := by decide +kernel
theorem d_Prc_moveBlock_94 : decode b_Prc_moveBlock 94 = .ok (.ior, 1) := by decide +kernel
theorem d_Prc_moveBlock_95 : decode b_Prc_moveBlock 95 = .ok (.invokevirtual 240, 3) := by decide +kernel
theorem d_Prc_moveBlock_98 : decode b_Prc_moveBlock 98 = .ok (.invokevirtual 243, 3) := by decide +kernel
theorem d_Prc_moveBlock_101 : decode b_Prc_moveBlock 101 = .ok (.aload_n 0, 1) := by decide +kernel
theorem d_Prc_moveBlock_102 : decode b_Prc_moveBlock 102 = .ok (.getfield 13, 3) := by decide +kernel
theorem d_Prc_moveBlock_105 : decode b_Prc_moveBlock 105 = .ok (.aload_n 0, 1) := by decide +kernel
theorem d_Prc_moveBlock_106 : decode b_Prc_moveBlock 106 = .ok (.getfield 13, 3) := by decide +kernel
theorem d_Prc_moveBlock_109 : decode b_Prc_moveBlock 109 = .ok (.getfield 180, 3) := by decide +kernel
theorem d_Prc_moveBlock_112 : decode b_Prc_moveBlock 112 = .ok (.iload 5, 2) := by decide +kernel
theorem d_Prc_moveBlock_114 : decode b_Prc_moveBlock 114 = .ok (.iadd, 1) := by decide +kernel
theorem d_Prc_moveBlock_115 : decode b_Prc_moveBlock 115 = .ok (.aload_n 0, 1) := by decide +kernel
theorem d_Prc_moveBlock_116 : decode b_Prc_moveBlock 116 = .ok (.getfield 13, 3) := by decide +kernel
theorem d_Prc_moveBlock_119 : decode b_Prc_moveBlock 119 = .ok (.invokevirtual 247, 3) := by decide +kernel
theorem d_Prc_moveBlock_122 : decode b_Prc_moveBlock 122 = .ok (.iand, 1) := by decide +kernel
theorem d_Prc_moveBlock_123 : decode b_Prc_moveBlock 123 = .ok (.putfield 180, 3) := by decide +kernel
theorem d_Prc_moveBlock_126 : decode b_Prc_moveBlock 126 = .ok (.aload_n 0, 1) := by decide +kernel
theorem d_Prc_moveBlock_127 : decode b_Prc_moveBlock 127 = .ok (.getfield 13, 3) := by decide +kernel
theorem d_Prc_moveBlock_130 : decode b_Prc_moveBlock 130 = .ok (.aload_n 0, 1) := by decide +kernel
theorem d_Prc_moveBlock_131 : decode b_Prc_moveBlock 131 = .ok (.getfield 13, 3) := by decide +kernel
theorem d_Prc_moveBlock_134 : decode b_Prc_moveBlock 134 = .ok (.getfield 183, 3) := by decide +kernel
theorem d_Prc_moveBlock_137 : decode b_Prc_moveBlock 137 = .ok (.iload 5, 2) := by decide +kernel
theorem d_Prc_moveBlock_139 : decode b_Prc_moveBlock 139 = .ok (.iadd, 1) := by decide +kernel
theorem d_Prc_moveBlock_140 : decode b_Prc_moveBlock 140 = .ok (.aload_n 0, 1) := by decide +kernel
theorem d_Prc_moveBlock_141 : decode b_Prc_moveBlock 141 = .ok (.getfield 13, 3) := by decide +kernel
theorem d_Prc_moveBlock_144 : decode b_Prc_moveBlock 144 = .ok (.invokevirtual 247, 3) := by decide +kernel
theorem d_Prc_moveBlock_147 : decode b_Prc_moveBlock 147 = .ok (.iand, 1) := by decide +kernel
theorem d_Prc_moveBlock_148 : decode b_Prc_moveBlock 148 = .ok (.putfield 183, 3) := by decide +kernel
theorem d_Prc_moveBlock_151 : decode b_Prc_moveBlock 151 = .ok (.aload_n 0, 1) := by decide +kernel
theorem d_Prc_moveBlock_152 : decode b_Prc_moveBlock 152 = .ok (.getfield 13, 3) := by decide +kernel
theorem d_Prc_moveBlock_155 : decode b_Prc_moveBlock 155 = .ok (.getfield 135, 3) := by decide +kernel
theorem d_Prc_moveBlock_158 : decode b_Prc_moveBlock 158 = .ok (.ifCond .eq 11, 3) := by decide +kernel
theorem d_Prc_moveBlock_161 : decode b_Prc_moveBlock 161 = .ok (.aload_n 0, 1) := by decide +kernel
theorem d_Prc_moveBlock_162 : decode b_Prc_moveBlock 162 = .ok (.getfield 13, 3) := by decide +kernel
theorem d_Prc_moveBlock_165 : decode b_Prc_moveBlock 165 = .ok (.iload_n 2, 1) := by decide +kernel
theorem d_Prc_moveBlock_166 : decode b_Prc_moveBlock 166 = .ok (.invokevirtual 226, 3) := by decide +kernel
theorem d_Prc_moveBlock_169 : decode b_Prc_moveBlock 169 = .ok (.aload_n 0, 1) := by decide +kernel
theorem d_Prc_moveBlock_170 : decode b_Prc_moveBlock 170 = .ok (.getfield 13, 3) := by decide +kernel
theorem d_Prc_moveBlock_173 : decode b_Prc_moveBlock 173 = .ok (.aload_n 0, 1) := by decide +kernel
theorem d_Prc_moveBlock_174 : decode b_Prc_moveBlock 174 = .ok (.getfield 13, 3) := by decide +kernel
theorem d_Prc_moveBlock_177 : decode b_Prc_moveBlock 177 = .ok (.getfield 135, 3) := by decide +kernel
theorem d_Prc_moveBlock_180 : decode b_Prc_moveBlock 180 = .ok (.iconst 1, 1) := by decide +kernel
theorem d_Prc_moveBlock_181 : decode b_Prc_moveBlock 181 = .ok (.isub, 1) := by decide +kernel
theorem d_Prc_moveBlock_182 : decode b_Prc_moveBlock 182 = .ok (.ldc 239, 2) := by decide +kernel
theorem d_Prc_moveBlock_184 : decode b_Prc_moveBlock 184 = .ok (.iand, 1) := by decide +kernel
theorem d_Prc_moveBlock_185 : decode b_Prc_moveBlock 185 = .ok (.putfield 135, 3) := by decide +kernel
theorem d_Prc_moveBlock_188 : decode b_Prc_moveBlock 188 = .ok (.iconst 1, 1) := by decide +kernel
theorem d_Prc_moveBlock_189 : decode b_Prc_moveBlock 189 = .ok (.ireturn, 1) := by decide +kernel
end
section
theorem d_Wc_init_0 : decode b_Wc_init 0 = .ok (.aload_n 0, 1) := by decide +kernel
theorem d_Wc_init_1 : decode b_Wc_init 1 = .ok (.invokespecial 1, 3) := by decide +kernel
theorem d_Wc_init_4 : decode b_Wc_init 4 = .ok (.aload_n 0, 1) := by decide +kernel
theorem d_Wc_init_5 : decode b_Wc_init 5 = .ok (.new 7, 3) := by decide +kernel
theorem d_Wc_init_8 : decode b_Wc_init 8 = .ok (.dup, 1) := by decide +kernel
theorem d_Wc_init_9 : decode b_Wc_init 9 = .ok (.invokespecial 9, 3) := by decide +kernel
theorem d_Wc_init_12 : decode b_Wc_init 12 = .ok (.putfield 10, 3) := by decide +kernel
theorem d_Wc_init_15 : decode b_Wc_init 15 = .ok (.aload_n 0, 1) := by decide +kernel
theorem d_Wc_init_16 : decode b_Wc_init 16 = .ok (.new 16, 3) := by decide +kernel
theorem d_Wc_init_19 : decode b_Wc_init 19 = .ok (.dup, 1) := by decide +kernel
theorem d_Wc_init_20 : decode b_Wc_init 20 = .ok (.invokespecial 18, 3) := by decide +kernel
theorem d_Wc_init_23 : decode b_Wc_init 23 = .ok (.putfield 19, 3) := by decide +kernel
theorem d_Wc_init_26 : decode b_Wc_init 26 = .ok (.aload_n 0, 1) := by decide +kernel
theorem d_Wc_init_27 : decode b_Wc_init 27 = .ok (.new 23, 3) := by decide +kernel
theorem d_Wc_init_30 : decode b_Wc_init 30 = .ok (.dup, 1) := by decide +kernel
theorem d_Wc_init_31 : decode b_Wc_init 31 = .ok (.aload_n 0, 1) := by decide +kernel
theorem d_Wc_init_32 : decode b_Wc_init 32 = .ok (.getfield 10, 3) := by decide +kernel
theorem d_Wc_init_35 : decode b_Wc_init 35 = .ok (.aload_n 0, 1) := by decide +kernel
theorem d_Wc_init_36 : decode b_Wc_init 36 = .ok (.getfield 19, 3) := by decide +kernel
theorem d_Wc_init_39 : decode b_Wc_init 39 = .ok (.invokespecial 25, 3) := by decide +kernel
theorem d_Wc_init_42 : decode b_Wc_init 42 = .ok (.putfield 28, 3) := by decide +kernel
theorem d_Wc_init_45 : decode b_Wc_init 45 = .ok (.return_, 1) := by decide +kernel
theorem d_Wc_poke_0 : decode b_Wc_poke 0 = .ok (.iload_n 3, 1) := by decide +kernel
theorem d_Wc_poke_1 : decode b_Wc_poke 1 = .ok (.iconst 1, 1) := by decide +kernel
theorem d_Wc_poke_2 : decode b_Wc_poke 2 = .ok (.if_icmp .lt 21, 3) := by decide +kernel
theorem d_Wc_poke_5 : decode b_Wc_poke 5 = .ok (.iload_n 3, 1) := by decide +kernel
theorem d_Wc_poke_6 : decode b_Wc_poke 6 = .ok (.iconst 4, 1) := by decide +kernel
theorem d_Wc_poke_7 : decode b_Wc_poke 7 = .ok (.if_icmp .gt 16, 3) := by decide +kernel
theorem d_Wc_poke_10 : decode b_Wc_poke 10 = .ok (.iload_n 1, 1) := by decide +kernel
theorem d_Wc_poke_11 : decode b_Wc_poke 11 = .ok (.ifCond .lt 12, 3) := by decide +kernel
theorem d_Wc_poke_14 : decode b_Wc_poke 14 = .ok (.iload_n 1, 1) := by decide +kernel
theorem d_Wc_poke_15 : decode b_Wc_poke 15 = .ok (.sipush 1024, 3) := by decide +kernel
theorem d_Wc_poke_18 : decode b_Wc_poke 18 = .ok (.iload_n 3, 1) := by decide +kernel
theorem d_Wc_poke_19 : decode b_Wc_poke 19 = .ok (.isub, 1) := by decide +kernel
theorem d_Wc_poke_20 : decode b_Wc_poke 20 = .ok (.if_icmp .le 5, 3) := by decide +kernel
theorem d_Wc_poke_23 : decode b_Wc_poke 23 = .ok (.iconst 0, 1) := by decide +kernel
theorem d_Wc_poke_24 : decode b_Wc_poke 24 = .ok (.ireturn, 1) := by decide +kernel
theorem d_Wc_poke_25 : decode b_Wc_poke 25 = .ok (.iconst 0, 1) := by decide +kernel
theorem d_Wc_poke_26 : decode b_Wc_poke 26 = .ok (.istore 4, 2) := by decide +kernel
theorem d_Wc_poke_28 : decode b_Wc_poke 28 = .ok (.iload 4, 2) := by decide +kernel
theorem d_Wc_poke_30 : decode b_Wc_poke 30 = .ok (.iload_n 3, 1) := by decide +kernel
theorem d_Wc_poke_31 : decode b_Wc_poke 31 = .ok (.if_icmp .ge 29, 3) := by decide +kernel
theorem d_Wc_poke_34 : decode b_Wc_poke 34 = .ok (.aload_n 0, 1) := by decide +kernel
theorem d_Wc_poke_35 : decode b_Wc_poke 35 = .ok (.getfield 10, 3) := by decide +kernel
theorem d_Wc_poke_38 : decode b_Wc_poke 38 = .ok (.getfield 32, 3) := by decide +kernel
theorem d_Wc_poke_41 : decode b_Wc_poke 41 = .ok (.iload_n 1, 1) := by decide +kernel
theorem d_Wc_poke_42 : decode b_Wc_poke 42 = .ok (.iload 4, 2) := by decide +kernel
theorem d_Wc_poke_44 : decode b_Wc_poke 44 = .ok (.iadd, 1) := by decide +kernel
theorem d_Wc_poke_45 : decode b_Wc_poke 45 = .ok (.iload_n 2, 1) := by decide +kernel
theorem d_Wc_poke_46 : decode b_Wc_poke 46 = .ok (.bipush 8, 2) := by decide +kernel
theorem d_Wc_poke_48 : decode b_Wc_poke 48 = .ok (.iload 4, 2) := by decide +kernel
theorem d_Wc_poke_50 : decode b_Wc_poke 50 = .ok (.imul, 1) := by decide +kernel
theorem d_Wc_poke_51 : decode b_Wc_poke 51 = .ok (.ishr, 1) := by decide +kernel
theorem d_Wc_poke_52 : decode b_Wc_poke 52 = .ok (.i2b, 1) := by decide +kernel
theorem d_Wc_poke_53 : decode b_Wc_poke 53 = .ok (.bastore, 1) := by decide +kernel
theorem d_Wc_poke_54 : decode b_Wc_poke 54 = .ok (.iinc 4 1, 3) := by decide +kernel
theorem d_Wc_poke_57 : decode b_Wc_poke 57 = .ok (.goto (-29), 3) := by decide +kernel
theorem d_Wc_poke_60 : decode b_Wc_poke 60 = .ok (.iconst 1, 1) := by decide +kernel
theorem d_Wc_poke_61 : decode b_Wc_poke 61 = .ok (.ireturn, 1) := by decide +kernel
theorem d_Wc_peek_0 : decode b_Wc_peek 0 = .ok (.iload_n 1, 1) := by decide +kernel
theorem d_Wc_peek_1 : decode b_Wc_peek 1 = .ok (.ifCond .lt 10, 3) := by decide +kernel
theorem d_Wc_peek_4 : decode b_Wc_peek 4 = .ok (.iload_n 1, 1) := by decide +kernel
theorem d_Wc_peek_5 : decode b_Wc_peek 5 = .ok (.sipush 1024, 3) := by decide +kernel
theorem d_Wc_peek_8 : decode b_Wc_peek 8 = .ok (.if_icmp .lt 7, 3) := by decide +kernel
theorem d_Wc_peek_11 : decode b_Wc_peek 11 = .ok (.iconst (-1), 1) := by decide +kernel
theorem d_Wc_peek_12 : decode b_Wc_peek 12 = .ok (.goto 16, 3) := by decide +kernel
theorem d_Wc_peek_15 : decode b_Wc_peek 15 = .ok (.aload_n 0, 1) := by decide +kernel
theorem d_Wc_peek_16 : decode b_Wc_peek 16 = .ok (.getfield 10, 3) := by decide +kernel
theorem d_Wc_peek_19 : decode b_Wc_peek 19 = .ok (.getfield 32, 3) := by decide +kernel
theorem d_Wc_peek_22 : decode b_Wc_peek 22 = .ok (.iload_n 1, 1) := by decide +kernel
theorem d_Wc_peek_23 : decode b_Wc_peek 23 = .ok (.baload, 1) := by decide +kernel
theorem d_Wc_peek_24 : decode b_Wc_peek 24 = .ok (.sipush 255, 3) := by decide +kernel
theorem d_Wc_peek_27 : decode b_Wc_peek 27 = .ok (.iand, 1) := by decide +kernel
theorem d_Wc_peek_28 : decode b_Wc_peek 28 = .ok (.ireturn, 1) := by decide +kernel
theorem d_Wc_start_0 : decode b_Wc_start 0 = .ok (.iload_n 1, 1) := by decide +kernel
theorem d_Wc_start_1 : decode b_Wc_start 1 = .ok (.ifCond .lt 20, 3) := by decide +kernel
theorem d_Wc_start_4 : decode b_Wc_start 4 = .ok (.iload_n 1, 1) := by decide +kernel
theorem d_Wc_start_5 : decode b_Wc_start 5 = .ok (.sipush 255, 3) := by decide +kernel
theorem d_Wc_start_8 : decode b_Wc_start 8 = .ok (.if_icmp .gt 13, 3) := by decide +kernel
theorem d_Wc_start_11 : decode b_Wc_start 11 = .ok (.iload_n 2, 1) := by decide +kernel
theorem d_Wc_start_12 : decode b_Wc_start 12 = .ok (.ifCond .lt 9, 3) := by decide +kernel
theorem d_Wc_start_15 : decode b_Wc_start 15 = .ok (.iload_n 2, 1) := by decide +kernel
theorem d_Wc_start_16 : decode b_Wc_start 16 = .ok (.ldc 36, 2) := by decide +kernel
theorem d_Wc_start_18 : decode b_Wc_start 18 = .ok (.if_icmp .le 5, 3) := by decide +kernel
theorem d_Wc_start_21 : decode b_Wc_start 21 = .ok (.iconst 0, 1) := by decide +kernel
theorem d_Wc_start_22 : decode b_Wc_start 22 = .ok (.ireturn, 1) := by decide +kernel
theorem d_Wc_start_23 : decode b_Wc_start 23 = .ok (.aload_n 0, 1) := by decide +kernel
theorem d_Wc_start_24 : decode b_Wc_start 24 = .ok (.getfield 19, 3) := by decide +kernel
theorem d_Wc_start_27 : decode b_Wc_start 27 = .ok (.iload_n 1, 1) := by decide +kernel
theorem d_Wc_start_28 : decode b_Wc_start 28 = .ok (.putfield 37, 3) := by decide +kernel
theorem d_Wc_start_31 : decode b_Wc_start 31 = .ok (.aload_n 0, 1) := by decide +kernel
theorem d_Wc_start_32 : decode b_Wc_start 32 = .ok (.getfield 19, 3) := by decide +kernel
theorem d_Wc_start_35 : decode b_Wc_start 35 = .ok (.iload_n 2, 1) := by decide +kernel
theorem d_Wc_start_36 : decode b_Wc_start 36 = .ok (.putfield 41, 3) := by decide +kernel
theorem d_Wc_start_39 : decode b_Wc_start 39 = .ok (.aload_n 0, 1) := by decide +kernel
theorem d_Wc_start_40 : decode b_Wc_start 40 = .ok (.getfield 28, 3) := by decide +kernel
theorem d_Wc_start_43 : decode b_Wc_start 43 = .ok (.iconst 0, 1) := by decide +kernel
theorem d_Wc_start_44 : decode b_Wc_start 44 = .ok (.putfield 44, 3) := by decide +kernel
theorem d_Wc_start_47 : decode b_Wc_start 47 = .ok (.iconst 1, 1) := by decide +kernel
theorem d_Wc_start_48 : decode b_Wc_start 48 = .ok (.ireturn, 1) := by decide +kernel
theorem d_Wc_set_0 : decode b_Wc_set 0 = .ok (.iload_n 1, 1) := by decide +kernel
theorem d_Wc_set_1 : decode b_Wc_set 1 = .ok (.tableswitch 153 0 6 #[43, 57, 76, 95, 109, 123, 138], 43) := by decide +kernel
theorem d_Wc_set_44 : decode b_Wc_set 44 = .ok (.aload_n 0, 1) := by decide +kernel
theorem d_Wc_set_45 : decode b_Wc_set 45 = .ok (.getfield 19, 3) := by decide +kernel
theorem d_Wc_set_48 : decode b_Wc_set 48 = .ok (.iload_n 2, 1) := by decide +kernel
theorem d_Wc_set_49 : decode b_Wc_set 49 = .ok (.ldc 36, 2) := by decide +kernel
theorem d_Wc_set_51 : decode b_Wc_set 51 = .ok (.iand, 1) := by decide +kernel
theorem d_Wc_set_52 : decode b_Wc_set 52 = .ok (.putfield 48, 3) := by decide +kernel
theorem d_Wc_set_55 : decode b_Wc_set 55 = .ok (.goto 101, 3) := by decide +kernel
theorem d_Wc_set_58 : decode b_Wc_set 58 = .ok (.aload_n 0, 1) := by decide +kernel
theorem d_Wc_set_59 : decode b_Wc_set 59 = .ok (.getfield 19, 3) := by decide +kernel
theorem d_Wc_set_62 : decode b_Wc_set 62 = .ok (.iload_n 2, 1) := by decide +kernel
theorem d_Wc_set_63 : decode b_Wc_set 63 = .ok (.aload_n 0, 1) := by decide +kernel
theorem d_Wc_set_64 : decode b_Wc_set 64 = .ok (.getfield 19, 3) := by decide +kernel
theorem d_Wc_set_67 : decode b_Wc_set 67 = .ok (.invokevirtual 51, 3) := by decide +kernel
theorem d_Wc_set_70 : decode b_Wc_set 70 = .ok (.iand, 1) := by decide +kernel
theorem d_Wc_set_71 : decode b_Wc_set 71 = .ok (.putfield 55, 3) := by decide +kernel
theorem d_Wc_set_74 : decode b_Wc_set 74 = .ok (.goto 82, 3) := by decide +kernel
theorem d_Wc_set_77 : decode b_Wc_set 77 = .ok (.aload_n 0, 1) := by decide +kernel
theorem d_Wc_set_78 : decode b_Wc_set 78 = .ok (.getfield 19, 3) := by decide +kernel
theorem d_Wc_set_81 : decode b_Wc_set 81 = .ok (.iload_n 2, 1) := by decide +kernel
theorem d_Wc_set_82 : decode b_Wc_set 82 = .ok (.aload_n 0, 1) := by decide +kernel
theorem d_Wc_set_83 : decode b_Wc_set 83 = .ok (.getfield 19, 3) := by decide +kernel
theorem d_Wc_set_86 : decode b_Wc_set 86 = .ok (.invokevirtual 51, 3) := by decide +kernel
theorem d_Wc_set_89 : decode b_Wc_set 89 = .ok (.iand, 1) := by decide +kernel
theorem d_Wc_set_90 : decode b_Wc_set 90 = .ok (.putfield 58, 3) := by decide +kernel
theorem d_Wc_set_93 : decode b_Wc_set 93 = .ok (.goto 63, 3) := by decide +kernel
theorem d_Wc_set_96 : decode b_Wc_set 96 = .ok (.aload_n 0, 1) := by decide +kernel
theorem d_Wc_set_97 : decode b_Wc_set 97 = .ok (.getfield 19, 3) := by decide +kernel
theorem d_Wc_set_100 : decode b_Wc_set 100 = .ok (.iload_n 2, 1) := by decide +kernel
theorem d_Wc_set_101 : decode b_Wc_set 101 = .ok (.ldc 36, 2) := by decide +kernel
theorem d_Wc_set_103 : decode b_Wc_set 103 = .ok (.iand, 1) := by decide +kernel
theorem d_Wc_set_104 : decode b_Wc_set 104 = .ok (.putfield 61, 3) := by decide +kernel
theorem d_Wc_set_107 : decode b_Wc_set 107 = .ok (.goto 49, 3) := by decide +kernel
theorem d_Wc_set_110 : decode b_Wc_set 110 = .ok (.aload_n 0, 1) := by decide +kernel
theorem d_Wc_set_111 : decode b_Wc_set 111 = .ok (.getfield 19, 3) := by decide +kernel
theorem d_Wc_set_114 : decode b_Wc_set 114 = .ok (.iload_n 2, 1) := by decide +kernel
theorem d_Wc_set_115 : decode b_Wc_set 115 = .ok (.ldc 36, 2) := by decide +kernel
theorem d_Wc_set_117 : decode b_Wc_set 117 = .ok (.iand, 1) := by decide +kernel
theorem d_Wc_set_118 : decode b_Wc_set 118 = .ok (.putfield 64, 3) := by decide +kernel
theorem d_Wc_set_121 : decode b_Wc_set 121 = .ok (.goto 35, 3) := by decide +kernel
theorem d_Wc_set_124 : decode b_Wc_set 124 = .ok (.aload_n 0, 1) := by decide +kernel
theorem d_Wc_set_125 : decode b_Wc_set 125 = .ok (.getfield 19, 3) := by decide +kernel
theorem d_Wc_set_128 : decode b_Wc_set 128 = .ok (.iload_n 2, 1) := by decide +kernel
theorem d_Wc_set_129 : decode b_Wc_set 129 = .ok (.sipush 255, 3) := by decide +kernel
theorem d_Wc_set_132 : decode b_Wc_set 132 = .ok (.iand, 1) := by decide +kernel
theorem d_Wc_set_133 : decode b_Wc_set 133 = .ok (.putfield 67, 3) := by decide +kernel
theorem d_Wc_set_136 : decode b_Wc_set 136 = .ok (.goto 20, 3) := by decide +kernel
theorem d_Wc_set_139 : decode b_Wc_set 139 = .ok (.aload_n 0, 1) := by decide +kernel
theorem d_Wc_set_140 : decode b_Wc_set 140 = .ok (.getfield 19, 3) := by decide +kernel
theorem d_Wc_set_143 : decode b_Wc_set 143 = .ok (.iload_n 2, 1) := by decide +kernel
theorem d_Wc_set_144 : decode b_Wc_set 144 = .ok (.sipush 255, 3) := by decide +kernel
theorem d_Wc_set_147 : decode b_Wc_set 147 = .ok (.iand, 1) := by decide +kernel
theorem d_Wc_set_148 : decode b_Wc_set 148 = .ok (.invokevirtual 70, 3) := by decide +kernel
theorem d_Wc_set_151 : decode b_Wc_set 151 = .ok (.goto 5, 3) := by decide +kernel
theorem d_Wc_set_154 : decode b_Wc_set 154 = .ok (.iconst 0, 1) := by decide +kernel
theorem d_Wc_set_155 : decode b_Wc_set 155 = .ok (.ireturn, 1) := by decide +kernel
theorem d_Wc_set_156 : decode b_Wc_set 156 = .ok (.iconst 1, 1) := by decide +kernel
theorem d_Wc_set_157 : decode b_Wc_set 157 = .ok (.ireturn, 1) := by decide +kernel
theorem d_Wc_register_0 : decode b_Wc_register 0 = .ok (.iload_n 1, 1) := by decide +kernel
theorem d_Wc_register_1 : decode b_Wc_register 1 = .ok (.tableswitch 141 0 8 #[51, 61, 71, 81, 91, 101, 111, 121, 131], 51) := by decide +kernel
theorem d_Wc_register_52 : decode b_Wc_register 52 = .ok (.aload_n 0, 1) := by decide +kernel
theorem d_Wc_register_53 : decode b_Wc_register 53 = .ok (.getfield 19, 3) := by decide +kernel
theorem d_Wc_register_56 : decode b_Wc_register 56 = .ok (.getfield 48, 3) := by decide +kernel
theorem d_Wc_register_59 : decode b_Wc_register 59 = .ok (.goto 84, 3) := by decide +kernel
theorem d_Wc_register_62 : decode b_Wc_register 62 = .ok (.aload_n 0, 1) := by decide +kernel
theorem d_Wc_register_63 : decode b_Wc_register 63 = .ok (.getfield 19, 3) := by decide +kernel
theorem d_Wc_register_66 : decode b_Wc_register 66 = .ok (.getfield 55, 3) := by decide +kernel
theorem d_Wc_register_69 : decode b_Wc_register 69 = .ok (.goto 74, 3) := by decide +kernel
theorem d_Wc_register_72 : decode b_Wc_register 72 = .ok (.aload_n 0, 1) := by decide +kernel
theorem d_Wc_register_73 : decode b_Wc_register 73 = .ok (.getfield 19, 3) := by decide +kernel
theorem d_Wc_register_76 : decode b_Wc_register 76 = .ok (.getfield 58, 3) := by decide +kernel
theorem d_Wc_register_79 : decode b_Wc_register 79 = .ok (.goto 64, 3) := by decide +kernel
theorem d_Wc_register_82 : decode b_Wc_register 82 = .ok (.aload_n 0, 1) := by decide +kernel
theorem d_Wc_register_83 : decode b_Wc_register 83 = .ok (.getfield 19, 3) := by decide +kernel
theorem d_Wc_register_86 : decode b_Wc_register 86 = .ok (.getfield 61, 3) := by decide +kernel
theorem d_Wc_register_89 : decode b_Wc_register 89 = .ok (.goto 54, 3) := by decide +kernel
theorem d_Wc_register_92 : decode b_Wc_register 92 = .ok (.aload_n 0, 1) := by decide +kernel
theorem d_Wc_register_93 : decode b_Wc_register 93 = .ok (.getfield 19, 3) := by decide +kernel
theorem d_Wc_register_96 : decode b_Wc_register 96 = .ok (.getfield 64, 3) := by decide +kernel
theorem d_Wc_register_99 : decode b_Wc_register 99 = .ok (.goto 44, 3) := by decide +kernel
theorem d_Wc_register_102 : decode b_Wc_register 102 = .ok (.aload_n 0, 1) := by decide +kernel
theorem d_Wc_register_103 : decode b_Wc_register 103 = .ok (.getfield 19, 3) := by decide +kernel
theorem d_Wc_register_106 : decode b_Wc_register 106 = .ok (.getfield 67, 3) := by decide +kernel
theorem d_Wc_register_109 : decode b_Wc_register 109 = .ok (.goto 34, 3) := by decide +kernel
theorem d_Wc_register_112 : decode b_Wc_register 112 = .ok (.aload_n 0, 1) := by decide +kernel
theorem d_Wc_register_113 : decode b_Wc_register 113 = .ok (.getfield 19, 3) := by decide +kernel
theorem d_Wc_register_116 : decode b_Wc_register 116 = .ok (.getfield 74, 3) := by decide +kernel
theorem d_Wc_register_119 : decode b_Wc_register 119 = .ok (.goto 24, 3) := by decide +kernel
theorem d_Wc_register_122 : decode b_Wc_register 122 = .ok (.aload_n 0, 1) := by decide +kernel
theorem d_Wc_register_123 : decode b_Wc_register 123 = .ok (.getfield 19, 3) := by decide +kernel
theorem d_Wc_register_126 : decode b_Wc_register 126 = .ok (.getfield 37, 3) := by decide +kernel
theorem d_Wc_register_129 : decode b_Wc_register 129 = .ok (.goto 14, 3) := by decide +kernel
theorem d_Wc_register_132 : decode b_Wc_register 132 = .ok (.aload_n 0, 1) := by decide +kernel
theorem d_Wc_register_133 : decode b_Wc_register 133 = .ok (.getfield 19, 3) := by decide +kernel
theorem d_Wc_register_136 : decode b_Wc_register 136 = .ok (.getfield 41, 3) := by decide +kernel
theorem d_Wc_register_139 : decode b_Wc_register 139 = .ok (.goto 4, 3) := by decide +kernel
theorem d_Wc_register_142 : decode b_Wc_register 142 = .ok (.iconst (-1), 1) := by decide +kernel
theorem d_Wc_register_143 : decode b_Wc_register 143 = .ok (.ireturn, 1) := by decide +kernel
theorem d_Wc_stopped_0 : decode b_Wc_stopped 0 = .ok (.aload_n 0, 1) := by decide +kernel
theorem d_Wc_stopped_1 : decode b_Wc_stopped 1 = .ok (.getfield 28, 3) := by decide +kernel
theorem d_Wc_stopped_4 : decode b_Wc_stopped 4 = .ok (.getfield 44, 3) := by decide +kernel
theorem d_Wc_stopped_7 : decode b_Wc_stopped 7 = .ok (.ireturn, 1) := by decide +kernel
theorem d_Wc_interrupt_0 : decode b_Wc_interrupt 0 = .ok (.aload_n 0, 1) := by decide +kernel
theorem d_Wc_interrupt_1 : decode b_Wc_interrupt 1 = .ok (.getfield 28, 3) := by decide +kernel
theorem d_Wc_interrupt_4 : decode b_Wc_interrupt 4 = .ok (.getfield 80, 3) := by decide +kernel
theorem d_Wc_interrupt_7 : decode b_Wc_interrupt 7 = .ok (.ifCond .eq 5, 3) := by decide +kernel
theorem d_Wc_interrupt_10 : decode b_Wc_interrupt 10 = .ok (.iconst 0, 1) := by decide +kernel
theorem d_Wc_interrupt_11 : decode b_Wc_interrupt 11 = .ok (.ireturn, 1) := by decide +kernel
theorem d_Wc_interrupt_12 : decode b_Wc_interrupt 12 = .ok (.aload_n 0, 1) := by decide +kernel
theorem d_Wc_interrupt_13 : decode b_Wc_interrupt 13 = .ok (.getfield 28, 3) := by decide +kernel
theorem d_Wc_interrupt_16 : decode b_Wc_interrupt 16 = .ok (.iconst 1, 1) := by decide +kernel
theorem d_Wc_interrupt_17 : decode b_Wc_interrupt 17 = .ok (.putfield 80, 3) := by decide +kernel
theorem d_Wc_interrupt_20 : decode b_Wc_interrupt 20 = .ok (.iconst 1, 1) := by decide +kernel
theorem d_Wc_interrupt_21 : decode b_Wc_interrupt 21 = .ok (.ireturn, 1) := by decide +kernel
theorem d_Wc_line_0 : decode b_Wc_line 0 = .ok (.aload_n 0, 1) := by decide +kernel
theorem d_Wc_line_1 : decode b_Wc_line 1 = .ok (.getfield 28, 3) := by decide +kernel
theorem d_Wc_line_4 : decode b_Wc_line 4 = .ok (.iload_n 1, 1) := by decide +kernel
theorem d_Wc_line_5 : decode b_Wc_line 5 = .ok (.putfield 83, 3) := by decide +kernel
theorem d_Wc_line_8 : decode b_Wc_line 8 = .ok (.return_, 1) := by decide +kernel
theorem d_Wc_touches_0 : decode b_Wc_touches 0 = .ok (.aload_n 0, 1) := by decide +kernel
theorem d_Wc_touches_1 : decode b_Wc_touches 1 = .ok (.getfield 10, 3) := by decide +kernel
theorem d_Wc_touches_4 : decode b_Wc_touches 4 = .ok (.getfield 86, 3) := by decide +kernel
theorem d_Wc_touches_7 : decode b_Wc_touches 7 = .ok (.ireturn, 1) := by decide +kernel
theorem d_Wc_touched_0 : decode b_Wc_touched 0 = .ok (.iload_n 1, 1) := by decide +kernel
theorem d_Wc_touched_1 : decode b_Wc_touched 1 = .ok (.ifCond .lt 20, 3) := by decide +kernel
theorem d_Wc_touched_4 : decode b_Wc_touched 4 = .ok (.iload_n 1, 1) := by decide +kernel
theorem d_Wc_touched_5 : decode b_Wc_touched 5 = .ok (.bipush 8, 2) := by decide +kernel
theorem d_Wc_touched_7 : decode b_Wc_touched 7 = .ok (.if_icmp .ge 14, 3) := by decide +kernel
theorem d_Wc_touched_10 : decode b_Wc_touched 10 = .ok (.iload_n 1, 1) := by decide +kernel
theorem d_Wc_touched_11 : decode b_Wc_touched 11 = .ok (.aload_n 0, 1) := by decide +kernel
theorem d_Wc_touched_12 : decode b_Wc_touched 12 = .ok (.getfield 10, 3) := by decide +kernel
theorem d_Wc_touched_15 : decode b_Wc_touched 15 = .ok (.getfield 86, 3) := by decide +kernel
theorem d_Wc_touched_18 : decode b_Wc_touched 18 = .ok (.if_icmp .lt 7, 3) := by decide +kernel
theorem d_Wc_touched_21 : decode b_Wc_touched 21 = .ok (.iconst (-1), 1) := by decide +kernel
theorem d_Wc_touched_22 : decode b_Wc_touched 22 = .ok (.goto 11, 3) := by decide +kernel
theorem d_Wc_touched_25 : decode b_Wc_touched 25 = .ok (.aload_n 0, 1) := by decide +kernel
theorem d_Wc_touched_26 : decode b_Wc_touched 26 = .ok (.getfield 10, 3) := by decide +kernel
theorem d_Wc_touched_29 : decode b_Wc_touched 29 = .ok (.iload_n 1, 1) := by decide +kernel
theorem d_Wc_touched_30 : decode b_Wc_touched 30 = .ok (.invokevirtual 89, 3) := by decide +kernel
theorem d_Wc_touched_33 : decode b_Wc_touched 33 = .ok (.ireturn, 1) := by decide +kernel
theorem d_Wc_steps_0 : decode b_Wc_steps 0 = .ok (.aload_n 0, 1) := by decide +kernel
theorem d_Wc_steps_1 : decode b_Wc_steps 1 = .ok (.getfield 28, 3) := by decide +kernel
theorem d_Wc_steps_4 : decode b_Wc_steps 4 = .ok (.getfield 93, 3) := by decide +kernel
theorem d_Wc_steps_7 : decode b_Wc_steps 7 = .ok (.ireturn, 1) := by decide +kernel
end
section
theorem d_Mdl_init_0 : decode b_Mdl_init 0 = .ok (.aload_n 0, 1) := by decide +kernel
theorem d_Mdl_init_1 : decode b_Mdl_init 1 = .ok (.invokespecial 1, 3) := by decide +kernel
theorem d_Mdl_init_4 : decode b_Mdl_init 4 = .ok (.aload_n 0, 1) := by decide +kernel
theorem d_Mdl_init_5 : decode b_Mdl_init 5 = .ok (.sipush 1024, 3) := by decide +kernel
theorem d_Mdl_init_8 : decode b_Mdl_init 8 = .ok (.newarray .int, 2) := by decide +kernel
theorem d_Mdl_init_10 : decode b_Mdl_init 10 = .ok (.putfield 7, 3) := by decide +kernel
theorem d_Mdl_init_13 : decode b_Mdl_init 13 = .ok (.aload_n 0, 1) := by decide +kernel
theorem d_Mdl_init_14 : decode b_Mdl_init 14 = .ok (.sipush 255, 3) := by decide +kernel
theorem d_Mdl_init_17 : decode b_Mdl_init 17 = .ok (.putfield 13, 3) := by decide +kernel
theorem d_Mdl_init_20 : decode b_Mdl_init 20 = .ok (.aload_n 0, 1) := by decide +kernel
theorem d_Mdl_init_21 : decode b_Mdl_init 21 = .ok (.bipush 52, 2) := by decide +kernel
theorem d_Mdl_init_23 : decode b_Mdl_init 23 = .ok (.putfield 17, 3) := by decide +kernel
theorem d_Mdl_init_26 : decode b_Mdl_init 26 = .ok (.aload_n 0, 1) := by decide +kernel
theorem d_Mdl_init_27 : decode b_Mdl_init 27 = .ok (.bipush 8, 2) := by decide +kernel
theorem d_Mdl_init_29 : decode b_Mdl_init 29 = .ok (.newarray .int, 2) := by decide +kernel
theorem d_Mdl_init_31 : decode b_Mdl_init 31 = .ok (.putfield 20, 3) := by decide +kernel
theorem d_Mdl_init_34 : decode b_Mdl_init 34 = .ok (.return_, 1) := by decide +kernel
theorem d_Mdl_is_0 : decode b_Mdl_is 0 = .ok (.aload_n 0, 1) := by decide +kernel
theorem d_Mdl_is_1 : decode b_Mdl_is 1 = .ok (.getfield 17, 3) := by decide +kernel
theorem d_Mdl_is_4 : decode b_Mdl_is 4 = .ok (.iload_n 1, 1) := by decide +kernel
theorem d_Mdl_is_5 : decode b_Mdl_is 5 = .ok (.iand, 1) := by decide +kernel
theorem d_Mdl_is_6 : decode b_Mdl_is 6 = .ok (.ifCond .eq 7, 3) := by decide +kernel
theorem d_Mdl_is_9 : decode b_Mdl_is 9 = .ok (.iconst 1, 1) := by decide +kernel
theorem d_Mdl_is_10 : decode b_Mdl_is 10 = .ok (.goto 4, 3) := by decide +kernel
theorem d_Mdl_is_13 : decode b_Mdl_is 13 = .ok (.iconst 0, 1) := by decide +kernel
theorem d_Mdl_is_14 : decode b_Mdl_is 14 = .ok (.ireturn, 1) := by decide +kernel
theorem d_Mdl_flag_0 : decode b_Mdl_flag 0 = .ok (.aload_n 0, 1) := by decide +kernel
theorem d_Mdl_flag_1 : decode b_Mdl_flag 1 = .ok (.iload_n 2, 1) := by decide +kernel
theorem d_Mdl_flag_2 : decode b_Mdl_flag 2 = .ok (.ifCond .eq 12, 3) := by decide +kernel
theorem d_Mdl_flag_5 : decode b_Mdl_flag 5 = .ok (.aload_n 0, 1) := by decide +kernel
theorem d_Mdl_flag_6 : decode b_Mdl_flag 6 = .ok (.getfield 17, 3) := by decide +kernel
theorem d_Mdl_flag_9 : decode b_Mdl_flag 9 = .ok (.iload_n 1, 1) := by decide +kernel
theorem d_Mdl_flag_10 : decode b_Mdl_flag 10 = .ok (.ior, 1) := by decide +kernel
theorem d_Mdl_flag_11 : decode b_Mdl_flag 11 = .ok (.goto 11, 3) := by decide +kernel
theorem d_Mdl_flag_14 : decode b_Mdl_flag 14 = .ok (.aload_n 0, 1) := by decide +kernel
theorem d_Mdl_flag_15 : decode b_Mdl_flag 15 = .ok (.getfield 17, 3) := by decide +kernel
theorem d_Mdl_flag_18 : decode b_Mdl_flag 18 = .ok (.iload_n 1, 1) := by decide +kernel
theorem d_Mdl_flag_19 : decode b_Mdl_flag 19 = .ok (.iconst (-1), 1) := by decide +kernel
theorem d_Mdl_flag_20 : decode b_Mdl_flag 20 = .ok (.ixor, 1) := by decide +kernel
theorem d_Mdl_flag_21 : decode b_Mdl_flag 21 = .ok (.iand, 1) := by decide +kernel
theorem d_Mdl_flag_22 : decode b_Mdl_flag 22 = .ok (.putfield 17, 3) := by decide +kernel
theorem d_Mdl_flag_25 : decode b_Mdl_flag 25 = .ok (.return_, 1) := by decide +kernel
theorem d_Mdl_cell_0 : decode b_Mdl_cell 0 = .ok (.sipush 512, 3) := by decide +kernel
theorem d_Mdl_cell_3 : decode b_Mdl_cell 3 = .ok (.iload_n 0, 1) := by decide +kernel
theorem d_Mdl_cell_4 : decode b_Mdl_cell 4 = .ok (.bipush 16, 2) := by decide +kernel
theorem d_Mdl_cell_6 : decode b_Mdl_cell 6 = .ok (.ishr, 1) := by decide +kernel
theorem d_Mdl_cell_7 : decode b_Mdl_cell 7 = .ok (.iconst 1, 1) := by decide +kernel
theorem d_Mdl_cell_8 : decode b_Mdl_cell 8 = .ok (.iand, 1) := by decide +kernel
theorem d_Mdl_cell_9 : decode b_Mdl_cell 9 = .ok (.imul, 1) := by decide +kernel
theorem d_Mdl_cell_10 : decode b_Mdl_cell 10 = .ok (.iload_n 0, 1) := by decide +kernel
theorem d_Mdl_cell_11 : decode b_Mdl_cell 11 = .ok (.sipush 511, 3) := by decide +kernel
theorem d_Mdl_cell_14 : decode b_Mdl_cell 14 = .ok (.iand, 1) := by decide +kernel
theorem d_Mdl_cell_15 : decode b_Mdl_cell 15 = .ok (.iadd, 1) := by decide +kernel
theorem d_Mdl_cell_16 : decode b_Mdl_cell 16 = .ok (.ireturn, 1) := by decide +kernel
theorem d_Mdl_touch_0 : decode b_Mdl_touch 0 = .ok (.bipush 7, 2) := by decide +kernel
theorem d_Mdl_touch_2 : decode b_Mdl_touch 2 = .ok (.istore_n 2, 1) := by decide +kernel
theorem d_Mdl_touch_3 : decode b_Mdl_touch 3 = .ok (.iload_n 2, 1) := by decide +kernel
theorem d_Mdl_touch_4 : decode b_Mdl_touch 4 = .ok (.ifCond .le 23, 3) := by decide +kernel
theorem d_Mdl_touch_7 : decode b_Mdl_touch 7 = .ok (.aload_n 0, 1) := by decide +kernel
theorem d_Mdl_touch_8 : decode b_Mdl_touch 8 = .ok (.getfield 20, 3) := by decide +kernel
theorem d_Mdl_touch_11 : decode b_Mdl_touch 11 = .ok (.iload_n 2, 1) := by decide +kernel
theorem d_Mdl_touch_12 : decode b_Mdl_touch 12 = .ok (.aload_n 0, 1) := by decide +kernel
theorem d_Mdl_touch_13 : decode b_Mdl_touch 13 = .ok (.getfield 20, 3) := by decide +kernel
theorem d_Mdl_touch_16 : decode b_Mdl_touch 16 = .ok (.iload_n 2, 1) := by decide +kernel
theorem d_Mdl_touch_17 : decode b_Mdl_touch 17 = .ok (.iconst 1, 1) := by decide +kernel
theorem d_Mdl_touch_18 : decode b_Mdl_touch 18 = .ok (.isub, 1) := by decide +kernel
theorem d_Mdl_touch_19 : decode b_Mdl_touch 19 = .ok (.iaload, 1) := by decide +kernel
theorem d_Mdl_touch_20 : decode b_Mdl_touch 20 = .ok (.iastore, 1) := by decide +kernel
theorem d_Mdl_touch_21 : decode b_Mdl_touch 21 = .ok (.iinc 2 (-1), 3) := by decide +kernel
theorem d_Mdl_touch_24 : decode b_Mdl_touch 24 = .ok (.goto (-21), 3) := by decide +kernel
theorem d_Mdl_touch_27 : decode b_Mdl_touch 27 = .ok (.aload_n 0, 1) := by decide +kernel
theorem d_Mdl_touch_28 : decode b_Mdl_touch 28 = .ok (.getfield 20, 3) := by decide +kernel
theorem d_Mdl_touch_31 : decode b_Mdl_touch 31 = .ok (.iconst 0, 1) := by decide +kernel
theorem d_Mdl_touch_32 : decode b_Mdl_touch 32 = .ok (.iload_n 1, 1) := by decide +kernel
theorem d_Mdl_touch_33 : decode b_Mdl_touch 33 = .ok (.iastore, 1) := by decide +kernel
theorem d_Mdl_touch_34 : decode b_Mdl_touch 34 = .ok (.aload_n 0, 1) := by decide +kernel
theorem d_Mdl_touch_35 : decode b_Mdl_touch 35 = .ok (.dup, 1) := by decide +kernel
theorem d_Mdl_touch_36 : decode b_Mdl_touch 36 = .ok (.getfield 23, 3) := by decide +kernel
theorem d_Mdl_touch_39 : decode b_Mdl_touch 39 = .ok (.iconst 1, 1) := by decide +kernel
theorem d_Mdl_touch_40 : decode b_Mdl_touch 40 = .ok (.iadd, 1) := by decide +kernel
theorem d_Mdl_touch_41 : decode b_Mdl_touch 41 = .ok (.putfield 23, 3) := by decide +kernel
theorem d_Mdl_touch_44 : decode b_Mdl_touch 44 = .ok (.return_, 1) := by decide +kernel
theorem d_Mdl_read_0 : decode b_Mdl_read 0 = .ok (.aload_n 0, 1) := by decide +kernel
theorem d_Mdl_read_1 : decode b_Mdl_read 1 = .ok (.iload_n 1, 1) := by decide +kernel
theorem d_Mdl_read_2 : decode b_Mdl_read 2 = .ok (.invokestatic 26, 3) := by decide +kernel
theorem d_Mdl_read_5 : decode b_Mdl_read 5 = .ok (.invokevirtual 30, 3) := by decide +kernel
theorem d_Mdl_read_8 : decode b_Mdl_read 8 = .ok (.aload_n 0, 1) := by decide +kernel
theorem d_Mdl_read_9 : decode b_Mdl_read 9 = .ok (.getfield 7, 3) := by decide +kernel
theorem d_Mdl_read_12 : decode b_Mdl_read 12 = .ok (.iload_n 1, 1) := by decide +kernel
theorem d_Mdl_read_13 : decode b_Mdl_read 13 = .ok (.invokestatic 26, 3) := by decide +kernel
theorem d_Mdl_read_16 : decode b_Mdl_read 16 = .ok (.iaload, 1) := by decide +kernel
theorem d_Mdl_read_17 : decode b_Mdl_read 17 = .ok (.ireturn, 1) := by decide +kernel
theorem d_Mdl_write_0 : decode b_Mdl_write 0 = .ok (.aload_n 0, 1) := by decide +kernel
theorem d_Mdl_write_1 : decode b_Mdl_write 1 = .ok (.iload_n 1, 1) := by decide +kernel
theorem d_Mdl_write_2 : decode b_Mdl_write 2 = .ok (.invokestatic 26, 3) := by decide +kernel
theorem d_Mdl_write_5 : decode b_Mdl_write 5 = .ok (.sipush 1024, 3) := by decide +kernel
theorem d_Mdl_write_8 : decode b_Mdl_write 8 = .ok (.iadd, 1) := by decide +kernel
theorem d_Mdl_write_9 : decode b_Mdl_write 9 = .ok (.invokevirtual 30, 3) := by decide +kernel
theorem d_Mdl_write_12 : decode b_Mdl_write 12 = .ok (.aload_n 0, 1) := by decide +kernel
theorem d_Mdl_write_13 : decode b_Mdl_write 13 = .ok (.getfield 7, 3) := by decide +kernel
theorem d_Mdl_write_16 : decode b_Mdl_write 16 = .ok (.iload_n 1, 1) := by decide +kernel
theorem d_Mdl_write_17 : decode b_Mdl_write 17 = .ok (.invokestatic 26, 3) := by decide +kernel
theorem d_Mdl_write_20 : decode b_Mdl_write 20 = .ok (.iload_n 2, 1) := by decide +kernel
theorem d_Mdl_write_21 : decode b_Mdl_write 21 = .ok (.sipush 255, 3) := by decide +kernel
theorem d_Mdl_write_24 : decode b_Mdl_write 24 = .ok (.iand, 1) := by decide +kernel
theorem d_Mdl_write_25 : decode b_Mdl_write 25 = .ok (.iastore, 1) := by decide +kernel
theorem d_Mdl_write_26 : decode b_Mdl_write 26 = .ok (.return_, 1) := by decide +kernel
theorem d_Mdl_after_0 : decode b_Mdl_after 0 = .ok (.iload_n 2, 1) := by decide +kernel
theorem d_Mdl_after_1 : decode b_Mdl_after 1 = .ok (.ifCond .eq 17, 3) := by decide +kernel
theorem d_Mdl_after_4 : decode b_Mdl_after 4 = .ok (.iload_n 1, 1) := by decide +kernel
theorem d_Mdl_after_5 : decode b_Mdl_after 5 = .ok (.ldc 34, 2) := by decide +kernel
theorem d_Mdl_after_7 : decode b_Mdl_after 7 = .ok (.iand, 1) := by decide +kernel
theorem d_Mdl_after_8 : decode b_Mdl_after 8 = .ok (.iload_n 1, 1) := by decide +kernel
theorem d_Mdl_after_9 : decode b_Mdl_after 9 = .ok (.iconst 1, 1) := by decide +kernel
theorem d_Mdl_after_10 : decode b_Mdl_after 10 = .ok (.iadd, 1) := by decide +kernel
theorem d_Mdl_after_11 : decode b_Mdl_after 11 = .ok (.ldc 35, 2) := by decide +kernel
theorem d_Mdl_after_13 : decode b_Mdl_after 13 = .ok (.iand, 1) := by decide +kernel
theorem d_Mdl_after_14 : decode b_Mdl_after 14 = .ok (.ior, 1) := by decide +kernel
theorem d_Mdl_after_15 : decode b_Mdl_after 15 = .ok (.goto 9, 3) := by decide +kernel
theorem d_Mdl_after_18 : decode b_Mdl_after 18 = .ok (.iload_n 1, 1) := by decide +kernel
theorem d_Mdl_after_19 : decode b_Mdl_after 19 = .ok (.iconst 1, 1) := by decide +kernel
theorem d_Mdl_after_20 : decode b_Mdl_after 20 = .ok (.iadd, 1) := by decide +kernel
theorem d_Mdl_after_21 : decode b_Mdl_after 21 = .ok (.ldc 36, 2) := by decide +kernel
theorem d_Mdl_after_23 : decode b_Mdl_after 23 = .ok (.iand, 1) := by decide +kernel
theorem d_Mdl_after_24 : decode b_Mdl_after 24 = .ok (.ireturn, 1) := by decide +kernel
theorem d_Mdl_readWord_0 : decode b_Mdl_readWord 0 = .ok (.aload_n 0, 1) := by decide +kernel
theorem d_Mdl_readWord_1 : decode b_Mdl_readWord 1 = .ok (.iload_n 1, 1) := by decide +kernel
theorem d_Mdl_readWord_2 : decode b_Mdl_readWord 2 = .ok (.invokevirtual 37, 3) := by decide +kernel
theorem d_Mdl_readWord_5 : decode b_Mdl_readWord 5 = .ok (.istore_n 3, 1) := by decide +kernel
theorem d_Mdl_readWord_6 : decode b_Mdl_readWord 6 = .ok (.iload_n 3, 1) := by decide +kernel
theorem d_Mdl_readWord_7 : decode b_Mdl_readWord 7 = .ok (.aload_n 0, 1) := by decide +kernel
theorem d_Mdl_readWord_8 : decode b_Mdl_readWord 8 = .ok (.aload_n 0, 1) := by decide +kernel
theorem d_Mdl_readWord_9 : decode b_Mdl_readWord 9 = .ok (.iload_n 1, 1) := by decide +kernel
theorem d_Mdl_readWord_10 : decode b_Mdl_readWord 10 = .ok (.iload_n 2, 1) := by decide +kernel
theorem d_Mdl_readWord_11 : decode b_Mdl_readWord 11 = .ok (.invokevirtual 40, 3) := by decide +kernel
theorem d_Mdl_readWord_14 : decode b_Mdl_readWord 14 = .ok (.invokevirtual 37, 3) := by decide +kernel
theorem d_Mdl_readWord_17 : decode b_Mdl_readWord 17 = .ok (.bipush 8, 2) := by decide +kernel
theorem d_Mdl_readWord_19 : decode b_Mdl_readWord 19 = .ok (.ishl, 1) := by decide +kernel
theorem d_Mdl_readWord_20 : decode b_Mdl_readWord 20 = .ok (.ior, 1) := by decide +kernel
theorem d_Mdl_readWord_21 : decode b_Mdl_readWord 21 = .ok (.ireturn, 1) := by decide +kernel
theorem d_Mdl_push_0 : decode b_Mdl_push 0 = .ok (.aload_n 0, 1) := by decide +kernel
theorem d_Mdl_push_1 : decode b_Mdl_push 1 = .ok (.aload_n 0, 1) := by decide +kernel
theorem d_Mdl_push_2 : decode b_Mdl_push 2 = .ok (.getfield 13, 3) := by decide +kernel
theorem d_Mdl_push_5 : decode b_Mdl_push 5 = .ok (.iload_n 1, 1) := by decide +kernel
theorem d_Mdl_push_6 : decode b_Mdl_push 6 = .ok (.invokevirtual 44, 3) := by decide +kernel
theorem d_Mdl_push_9 : decode b_Mdl_push 9 = .ok (.aload_n 0, 1) := by decide +kernel
theorem d_Mdl_push_10 : decode b_Mdl_push 10 = .ok (.aload_n 0, 1) := by decide +kernel
theorem d_Mdl_push_11 : decode b_Mdl_push 11 = .ok (.getfield 13, 3) := by decide +kernel
theorem d_Mdl_push_14 : decode b_Mdl_push 14 = .ok (.iconst 1, 1) := by decide +kernel
theorem d_Mdl_push_15 : decode b_Mdl_push 15 = .ok (.isub, 1) := by decide +kernel
theorem d_Mdl_push_16 : decode b_Mdl_push 16 = .ok (.ldc 35, 2) := by decide +kernel
theorem d_Mdl_push_18 : decode b_Mdl_push 18 = .ok (.iand, 1) := by decide +kernel
theorem d_Mdl_push_19 : decode b_Mdl_push 19 = .ok (.putfield 13, 3) := by decide +kernel
theorem d_Mdl_push_22 : decode b_Mdl_push 22 = .ok (.return_, 1) := by decide +kernel
theorem d_Mdl_pushWord_0 : decode b_Mdl_pushWord 0 = .ok (.aload_n 0, 1) := by decide +kernel
theorem d_Mdl_pushWord_1 : decode b_Mdl_pushWord 1 = .ok (.iload_n 1, 1) := by decide +kernel
theorem d_Mdl_pushWord_2 : decode b_Mdl_pushWord 2 = .ok (.bipush 8, 2) := by decide +kernel
theorem d_Mdl_pushWord_4 : decode b_Mdl_pushWord 4 = .ok (.ishr, 1) := by decide +kernel
theorem d_Mdl_pushWord_5 : decode b_Mdl_pushWord 5 = .ok (.invokevirtual 48, 3) := by decide +kernel
theorem d_Mdl_pushWord_8 : decode b_Mdl_pushWord 8 = .ok (.aload_n 0, 1) := by decide +kernel
theorem d_Mdl_pushWord_9 : decode b_Mdl_pushWord 9 = .ok (.iload_n 1, 1) := by decide +kernel
theorem d_Mdl_pushWord_10 : decode b_Mdl_pushWord 10 = .ok (.invokevirtual 48, 3) := by decide +kernel
theorem d_Mdl_pushWord_13 : decode b_Mdl_pushWord 13 = .ok (.return_, 1) := by decide +kernel
theorem d_Mdl_pull_0 : decode b_Mdl_pull 0 = .ok (.aload_n 0, 1) := by decide +kernel
theorem d_Mdl_pull_1 : decode b_Mdl_pull 1 = .ok (.aload_n 0, 1) := by decide +kernel
theorem d_Mdl_pull_2 : decode b_Mdl_pull 2 = .ok (.getfield 13, 3) := by decide +kernel
theorem d_Mdl_pull_5 : decode b_Mdl_pull 5 = .ok (.iconst 1, 1) := by decide +kernel
theorem d_Mdl_pull_6 : decode b_Mdl_pull 6 = .ok (.iadd, 1) := by decide +kernel
theorem d_Mdl_pull_7 : decode b_Mdl_pull 7 = .ok (.ldc 35, 2) := by decide +kernel
theorem d_Mdl_pull_9 : decode b_Mdl_pull 9 = .ok (.iand, 1) := by decide +kernel
theorem d_Mdl_pull_10 : decode b_Mdl_pull 10 = .ok (.putfield 13, 3) := by decide +kernel
theorem d_Mdl_pull_13 : decode b_Mdl_pull 13 = .ok (.aload_n 0, 1) := by decide +kernel
theorem d_Mdl_pull_14 : decode b_Mdl_pull 14 = .ok (.aload_n 0, 1) := by decide +kernel
theorem d_Mdl_pull_15 : decode b_Mdl_pull 15 = .ok (.getfield 13, 3) := by decide +kernel
theorem d_Mdl_pull_18 : decode b_Mdl_pull 18 = .ok (.invokevirtual 37, 3) := by decide +kernel
theorem d_Mdl_pull_21 : decode b_Mdl_pull 21 = .ok (.ireturn, 1) := by decide +kernel
theorem d_Mdl_pullWord_0 : decode b_Mdl_pullWord 0 = .ok (.aload_n 0, 1) := by decide +kernel
theorem d_Mdl_pullWord_1 : decode b_Mdl_pullWord 1 = .ok (.invokevirtual 51, 3) := by decide +kernel
theorem d_Mdl_pullWord_4 : decode b_Mdl_pullWord 4 = .ok (.istore_n 1, 1) := by decide +kernel
theorem d_Mdl_pullWord_5 : decode b_Mdl_pullWord 5 = .ok (.iload_n 1, 1) := by decide +kernel
theorem d_Mdl_pullWord_6 : decode b_Mdl_pullWord 6 = .ok (.aload_n 0, 1) := by decide +kernel
theorem d_Mdl_pullWord_7 : decode b_Mdl_pullWord 7 = .ok (.invokevirtual 51, 3) := by decide +kernel
theorem d_Mdl_pullWord_10 : decode b_Mdl_pullWord 10 = .ok (.bipush 8, 2) := by decide +kernel
theorem d_Mdl_pullWord_12 : decode b_Mdl_pullWord 12 = .ok (.ishl, 1) := by decide +kernel
theorem d_Mdl_pullWord_13 : decode b_Mdl_pullWord 13 = .ok (.ior, 1) := by decide +kernel
theorem d_Mdl_pullWord_14 : decode b_Mdl_pullWord 14 = .ok (.ireturn, 1) := by decide +kernel
theorem d_Mdl_next_0 : decode b_Mdl_next 0 = .ok (.aload_n 0, 1) := by decide +kernel
theorem d_Mdl_next_1 : decode b_Mdl_next 1 = .ok (.getfield 7, 3) := by decide +kernel
theorem d_Mdl_next_4 : decode b_Mdl_next 4 = .ok (.aload_n 0, 1) := by decide +kernel
theorem d_Mdl_next_5 : decode b_Mdl_next 5 = .ok (.getfield 55, 3) := by decide +kernel
theorem d_Mdl_next_8 : decode b_Mdl_next 8 = .ok (.bipush 16, 2) := by decide +kernel
theorem d_Mdl_next_10 : decode b_Mdl_next 10 = .ok (.ishl, 1) := by decide +kernel
theorem d_Mdl_next_11 : decode b_Mdl_next 11 = .ok (.aload_n 0, 1) := by decide +kernel
theorem d_Mdl_next_12 : decode b_Mdl_next 12 = .ok (.getfield 58, 3) := by decide +kernel
theorem d_Mdl_next_15 : decode b_Mdl_next 15 = .ok (.ior, 1) := by decide +kernel
theorem d_Mdl_next_16 : decode b_Mdl_next 16 = .ok (.invokestatic 26, 3) := by decide +kernel
theorem d_Mdl_next_19 : decode b_Mdl_next 19 = .ok (.iaload, 1) := by decide +kernel
theorem d_Mdl_next_20 : decode b_Mdl_next 20 = .ok (.istore_n 1, 1) := by decide +kernel
theorem d_Mdl_next_21 : decode b_Mdl_next 21 = .ok (.aload_n 0, 1) := by decide +kernel
theorem d_Mdl_next_22 : decode b_Mdl_next 22 = .ok (.aload_n 0, 1) := by decide +kernel
theorem d_Mdl_next_23 : decode b_Mdl_next 23 = .ok (.getfield 58, 3) := by decide +kernel
theorem d_Mdl_next_26 : decode b_Mdl_next 26 = .ok (.iconst 1, 1) := by decide +kernel
theorem d_Mdl_next_27 : decode b_Mdl_next 27 = .ok (.iadd, 1) := by decide +kernel
theorem d_Mdl_next_28 : decode b_Mdl_next 28 = .ok (.ldc 35, 2) := by decide +kernel
theorem d_Mdl_next_30 : decode b_Mdl_next 30 = .ok (.iand, 1) := by decide +kernel
theorem d_Mdl_next_31 : decode b_Mdl_next 31 = .ok (.putfield 58, 3) := by decide +kernel
theorem d_Mdl_next_34 : decode b_Mdl_next 34 = .ok (.iload_n 1, 1) := by decide +kernel
theorem d_Mdl_next_35 : decode b_Mdl_next 35 = .ok (.ireturn, 1) := by decide +kernel
theorem d_Mdl_nextWord_0 : decode b_Mdl_nextWord 0 = .ok (.aload_n 0, 1) := by decide +kernel
theorem d_Mdl_nextWord_1 : decode b_Mdl_nextWord 1 = .ok (.invokevirtual 61, 3) := by decide +kernel
theorem d_Mdl_nextWord_4 : decode b_Mdl_nextWord 4 = .ok (.istore_n 1, 1) := by decide +kernel
theorem d_Mdl_nextWord_5 : decode b_Mdl_nextWord 5 = .ok (.iload_n 1, 1) := by decide +kernel
theorem d_Mdl_nextWord_6 : decode b_Mdl_nextWord 6 = .ok (.aload_n 0, 1) := by decide +kernel
theorem d_Mdl_nextWord_7 : decode b_Mdl_nextWord 7 = .ok (.invokevirtual 61, 3) := by decide +kernel
theorem d_Mdl_nextWord_10 : decode b_Mdl_nextWord 10 = .ok (.bipush 8, 2) := by decide +kernel
theorem d_Mdl_nextWord_12 : decode b_Mdl_nextWord 12 = .ok (.ishl, 1) := by decide +kernel
theorem d_Mdl_nextWord_13 : decode b_Mdl_nextWord 13 = .ok (.ior, 1) := by decide +kernel
theorem d_Mdl_nextWord_14 : decode b_Mdl_nextWord 14 = .ok (.ireturn, 1) := by decide +kernel
theorem d_Mdl_nextLong_0 : decode b_Mdl_nextLong 0 = .ok (.aload_n 0, 1) := by decide +kernel
theorem d_Mdl_nextLong_1 : decode b_Mdl_nextLong 1 = .ok (.invokevirtual 64, 3) := by decide +kernel
theorem d_Mdl_nextLong_4 : decode b_Mdl_nextLong 4 = .ok (.istore_n 1, 1) := by decide +kernel
theorem d_Mdl_nextLong_5 : decode b_Mdl_nextLong 5 = .ok (.iload_n 1, 1) := by decide +kernel
theorem d_Mdl_nextLong_6 : decode b_Mdl_nextLong 6 = .ok (.aload_n 0, 1) := by decide +kernel
theorem d_Mdl_nextLong_7 : decode b_Mdl_nextLong 7 = .ok (.invokevirtual 61, 3) := by decide +kernel
theorem d_Mdl_nextLong_10 : decode b_Mdl_nextLong 10 = .ok (.bipush 16, 2) := by decide +kernel
theorem d_Mdl_nextLong_12 : decode b_Mdl_nextLong 12 = .ok (.ishl, 1) := by decide +kernel
theorem d_Mdl_nextLong_13 : decode b_Mdl_nextLong 13 = .ok (.ior, 1) := by decide +kernel
theorem d_Mdl_nextLong_14 : decode b_Mdl_nextLong 14 = .ok (.ireturn, 1) := by decide +kernel
theorem d_Mdl_accumulator_0 : decode b_Mdl_accumulator 0 = .ok (.aload_n 0, 1) := by decide +kernel
theorem d_Mdl_accumulator_1 : decode b_Mdl_accumulator 1 = .ok (.bipush 32, 2) := by decide +kernel
theorem d_Mdl_accumulator_3 : decode b_Mdl_accumulator 3 = .ok (.invokevirtual 67, 3) := by decide +kernel
theorem d_Mdl_accumulator_6 : decode b_Mdl_accumulator 6 = .ok (.ifCond .eq 14, 3) := by decide +kernel
theorem d_Mdl_accumulator_9 : decode b_Mdl_accumulator 9 = .ok (.aload_n 0, 1) := by decide +kernel
theorem d_Mdl_accumulator_10 : decode b_Mdl_accumulator 10 = .ok (.getfield 71, 3) := by decide +kernel
theorem d_Mdl_accumulator_13 : decode b_Mdl_accumulator 13 = .ok (.sipush 255, 3) := by decide +kernel
theorem d_Mdl_accumulator_16 : decode b_Mdl_accumulator 16 = .ok (.iand, 1) := by decide +kernel
theorem d_Mdl_accumulator_17 : decode b_Mdl_accumulator 17 = .ok (.goto 7, 3) := by decide +kernel
theorem d_Mdl_accumulator_20 : decode b_Mdl_accumulator 20 = .ok (.aload_n 0, 1) := by decide +kernel
theorem d_Mdl_accumulator_21 : decode b_Mdl_accumulator 21 = .ok (.getfield 71, 3) := by decide +kernel
theorem d_Mdl_accumulator_24 : decode b_Mdl_accumulator 24 = .ok (.ireturn, 1) := by decide +kernel
theorem d_Mdl_setAccumulator_0 : decode b_Mdl_setAccumulator 0 = .ok (.aload_n 0, 1) := by decide +kernel
theorem d_Mdl_setAccumulator_1 : decode b_Mdl_setAccumulator 1 = .ok (.aload_n 0, 1) := by decide +kernel
theorem d_Mdl_setAccumulator_2 : decode b_Mdl_setAccumulator 2 = .ok (.bipush 32, 2) := by decide +kernel
theorem d_Mdl_setAccumulator_4 : decode b_Mdl_setAccumulator 4 = .ok (.invokevirtual 67, 3) := by decide +kernel
theorem d_Mdl_setAccumulator_7 : decode b_Mdl_setAccumulator 7 = .ok (.ifCond .eq 19, 3) := by decide +kernel
theorem d_Mdl_setAccumulator_10 : decode b_Mdl_setAccumulator 10 = .ok (.aload_n 0, 1) := by decide +kernel
theorem d_Mdl_setAccumulator_11 : decode b_Mdl_setAccumulator 11 = .ok (.getfield 71, 3) := by decide +kernel
theorem d_Mdl_setAccumulator_14 : decode b_Mdl_setAccumulator 14 = .ok (.ldc 74, 2) := by decide +kernel
theorem d_Mdl_setAccumulator_16 : decode b_Mdl_setAccumulator 16 = .ok (.iand, 1) := by decide +kernel
theorem d_Mdl_setAccumulator_17 : decode b_Mdl_setAccumulator 17 = .ok (.iload_n 1, 1) := by decide +kernel
theorem d_Mdl_setAccumulator_18 : decode b_Mdl_setAccumulator 18 = .ok (.sipush 255, 3) := by decide +kernel
theorem d_Mdl_setAccumulator_21 : decode b_Mdl_setAccumulator 21 = .ok (.iand, 1) := by decide +kernel
theorem d_Mdl_setAccumulator_22 : decode b_Mdl_setAccumulator 22 = .ok (.ior, 1) := by decide +kernel
theorem d_Mdl_setAccumulator_23 : decode b_Mdl_setAccumulator 23 = .ok (.goto 7, 3) := by decide +kernel
theorem d_Mdl_setAccumulator_26 : decode b_Mdl_setAccumulator 26 = .ok (.iload_n 1, 1) := by decide +kernel
theorem d_Mdl_setAccumulator_27 : decode b_Mdl_setAccumulator 27 = .ok (.ldc 35, 2) := by decide +kernel
theorem d_Mdl_setAccumulator_29 : decode b_Mdl_setAccumulator 29 = .ok (.iand, 1) := by decide +kernel
theorem d_Mdl_setAccumulator_30 : decode b_Mdl_setAccumulator 30 = .ok (.putfield 71, 3) := by decide +kernel
theorem d_Mdl_setAccumulator_33 : decode b_Mdl_setAccumulator 33 = .ok (.return_, 1) := by decide +kernel
theorem d_Mdl_cut_0 : decode b_Mdl_cut 0 = .ok (.iload_n 2, 1) := by decide +kernel
theorem d_Mdl_cut_1 : decode b_Mdl_cut 1 = .ok (.ifCond .eq 11, 3) := by decide +kernel
theorem d_Mdl_cut_4 : decode b_Mdl_cut 4 = .ok (.iload_n 1, 1) := by decide +kernel
theorem d_Mdl_cut_5 : decode b_Mdl_cut 5 = .ok (.sipush 255, 3) := by decide +kernel
theorem d_Mdl_cut_8 : decode b_Mdl_cut 8 = .ok (.iand, 1) := by decide +kernel
theorem d_Mdl_cut_9 : decode b_Mdl_cut 9 = .ok (.goto 7, 3) := by decide +kernel
theorem d_Mdl_cut_12 : decode b_Mdl_cut 12 = .ok (.iload_n 1, 1) := by decide +kernel
theorem d_Mdl_cut_13 : decode b_Mdl_cut 13 = .ok (.ldc 35, 2) := by decide +kernel
theorem d_Mdl_cut_15 : decode b_Mdl_cut 15 = .ok (.iand, 1) := by decide +kernel
theorem d_Mdl_cut_16 : decode b_Mdl_cut 16 = .ok (.ireturn, 1) := by decide +kernel
theorem d_Mdl_result_0 : decode b_Mdl_result 0 = .ok (.aload_n 0, 1) := by decide +kernel
theorem d_Mdl_result_1 : decode b_Mdl_result 1 = .ok (.iload_n 1, 1) := by decide +kernel
theorem d_Mdl_result_2 : decode b_Mdl_result 2 = .ok (.iload_n 2, 1) := by decide +kernel
theorem d_Mdl_result_3 : decode b_Mdl_result 3 = .ok (.invokevirtual 75, 3) := by decide +kernel
theorem d_Mdl_result_6 : decode b_Mdl_result 6 = .ok (.istore_n 3, 1) := by decide +kernel
theorem d_Mdl_result_7 : decode b_Mdl_result 7 = .ok (.aload_n 0, 1) := by decide +kernel
theorem d_Mdl_result_8 : decode b_Mdl_result 8 = .ok (.sipush 128, 3) := by decide +kernel
theorem d_Mdl_result_11 : decode b_Mdl_result 11 = .ok (.iload_n 3, 1) := by decide +kernel
theorem d_Mdl_result_12 : decode b_Mdl_result 12 = .ok (.iload_n 2, 1) := by decide +kernel
theorem d_Mdl_result_13 : decode b_Mdl_result 13 = .ok (.ifCond .eq 9, 3) := by decide +kernel
theorem d_Mdl_result_16 : decode b_Mdl_result 16 = .ok (.sipush 128, 3) := by decide +kernel
theorem d_Mdl_result_19 : decode b_Mdl_result 19 = .ok (.goto 5, 3) := by decide +kernel
theorem d_Mdl_result_22 : decode b_Mdl_result 22 = .ok (.ldc 78, 2) := by decide +kernel
theorem d_Mdl_result_24 : decode b_Mdl_result 24 = .ok (.iand, 1) := by decide +kernel
theorem d_Mdl_result_25 : decode b_Mdl_result 25 = .ok (.ifCond .eq 7, 3) := by decide +kernel
theorem d_Mdl_result_28 : decode b_Mdl_result 28 = .ok (.iconst 1, 1) := by decide +kernel
theorem d_Mdl_result_29 : decode b_Mdl_result 29 = .ok (.goto 4, 3) := by decide +kernel
theorem d_Mdl_result_32 : decode b_Mdl_result 32 = .ok (.iconst 0, 1) := by decide +kernel
theorem d_Mdl_result_33 : decode b_Mdl_result 33 = .ok (.invokevirtual 79, 3) := by decide +kernel
theorem d_Mdl_result_36 : decode b_Mdl_result 36 = .ok (.aload_n 0, 1) := by decide +kernel
theorem d_Mdl_result_37 : decode b_Mdl_result 37 = .ok (.iconst 2, 1) := by decide +kernel
theorem d_Mdl_result_38 : decode b_Mdl_result 38 = .ok (.iload_n 3, 1) := by decide +kernel
theorem d_Mdl_result_39 : decode b_Mdl_result 39 = .ok (.ifCond .ne 7, 3) := by decide +kernel
theorem d_Mdl_result_42 : decode b_Mdl_result 42 = .ok (.iconst 1, 1) := by decide +kernel
theorem d_Mdl_result_43 : decode b_Mdl_result 43 = .ok (.goto 4, 3) := by decide +kernel
theorem d_Mdl_result_46 : decode b_Mdl_result 46 = .ok (.iconst 0, 1) := by decide +kernel
theorem d_Mdl_result_47 : decode b_Mdl_result 47 = .ok (.invokevirtual 79, 3) := by decide +kernel
theorem d_Mdl_result_50 : decode b_Mdl_result 50 = .ok (.iload_n 3, 1) := by decide +kernel
theorem d_Mdl_result_51 : decode b_Mdl_result 51 = .ok (.ireturn, 1) := by decide +kernel
theorem d_Mdl_setFlags_0 : decode b_Mdl_setFlags 0 = .ok (.aload_n 0, 1) := by decide +kernel
theorem d_Mdl_setFlags_1 : decode b_Mdl_setFlags 1 = .ok (.iload_n 1, 1) := by decide +kernel
theorem d_Mdl_setFlags_2 : decode b_Mdl_setFlags 2 = .ok (.sipush 255, 3) := by decide +kernel
theorem d_Mdl_setFlags_5 : decode b_Mdl_setFlags 5 = .ok (.iand, 1) := by decide +kernel
theorem d_Mdl_setFlags_6 : decode b_Mdl_setFlags 6 = .ok (.putfield 17, 3) := by decide +kernel
theorem d_Mdl_setFlags_9 : decode b_Mdl_setFlags 9 = .ok (.aload_n 0, 1) := by decide +kernel
theorem d_Mdl_setFlags_10 : decode b_Mdl_setFlags 10 = .ok (.bipush 16, 2) := by decide +kernel
theorem d_Mdl_setFlags_12 : decode b_Mdl_setFlags 12 = .ok (.invokevirtual 67, 3) := by decide +kernel
theorem d_Mdl_setFlags_15 : decode b_Mdl_setFlags 15 = .ok (.ifCond .eq 27, 3) := by decide +kernel
theorem d_Mdl_setFlags_18 : decode b_Mdl_setFlags 18 = .ok (.aload_n 0, 1) := by decide +kernel
theorem d_Mdl_setFlags_19 : decode b_Mdl_setFlags 19 = .ok (.aload_n 0, 1) := by decide +kernel
theorem d_Mdl_setFlags_20 : decode b_Mdl_setFlags 20 = .ok (.getfield 83, 3) := by decide +kernel
theorem d_Mdl_setFlags_23 : decode b_Mdl_setFlags 23 = .ok (.sipush 255, 3) := by decide +kernel
theorem d_Mdl_setFlags_26 : decode b_Mdl_setFlags 26 = .ok (.iand, 1) := by decide +kernel
theorem d_Mdl_setFlags_27 : decode b_Mdl_setFlags 27 = .ok (.putfield 83, 3) := by decide +kernel
theorem d_Mdl_setFlags_30 : decode b_Mdl_setFlags 30 = .ok (.aload_n 0, 1) := by decide +kernel
theorem d_Mdl_setFlags_31 : decode b_Mdl_setFlags 31 = .ok (.aload_n 0, 1) := by decide +kernel
theorem d_Mdl_setFlags_32 : decode b_Mdl_setFlags 32 = .ok (.getfield 86, 3) := by decide +kernel
theorem d_Mdl_setFlags_35 : decode b_Mdl_setFlags 35 = .ok (.sipush 255, 3) := by decide +kernel
theorem d_Mdl_setFlags_38 : decode b_Mdl_setFlags 38 = .ok (.iand, 1) := by decide +kernel
theorem d_Mdl_setFlags_39 : decode b_Mdl_setFlags 39 = .ok (.putfield 86, 3) := by decide +kernel
theorem d_Mdl_setFlags_42 : decode b_Mdl_setFlags 42 = .ok (.return_, 1) := by decide +kernel
theorem d_Mdl_direct_0 : decode b_Mdl_direct 0 = .ok (.aload_n 0, 1) := by decide +kernel
theorem d_Mdl_direct_1 : decode b_Mdl_direct 1 = .ok (.aload_n 0, 1) := by decide +kernel
theorem d_Mdl_direct_2 : decode b_Mdl_direct 2 = .ok (.getfield 89, 3) := by decide +kernel
theorem d_Mdl_direct_5 : decode b_Mdl_direct 5 = .ok (.aload_n 0, 1) := by decide +kernel
theorem d_Mdl_direct_6 : decode b_Mdl_direct 6 = .ok (.invokevirtual 61, 3) := by decide +kernel
theorem d_Mdl_direct_9 : decode b_Mdl_direct 9 = .ok (.iadd, 1) := by decide +kernel
theorem d_Mdl_direct_10 : decode b_Mdl_direct 10 = .ok (.iload_n 1, 1) := by decide +kernel
theorem d_Mdl_direct_11 : decode b_Mdl_direct 11 = .ok (.iadd, 1) := by decide +kernel
theorem d_Mdl_direct_12 : decode b_Mdl_direct 12 = .ok (.ldc 35, 2) := by decide +kernel
theorem d_Mdl_direct_14 : decode b_Mdl_direct 14 = .ok (.iand, 1) := by decide +kernel
theorem d_Mdl_direct_15 : decode b_Mdl_direct 15 = .ok (.putfield 92, 3) := by decide +kernel
theorem d_Mdl_direct_18 : decode b_Mdl_direct 18 = .ok (.aload_n 0, 1) := by decide +kernel
theorem d_Mdl_direct_19 : decode b_Mdl_direct 19 = .ok (.iconst 1, 1) := by decide +kernel
theorem d_Mdl_direct_20 : decode b_Mdl_direct 20 = .ok (.putfield 95, 3) := by decide +kernel
theorem d_Mdl_direct_23 : decode b_Mdl_direct 23 = .ok (.return_, 1) := by decide +kernel
theorem d_Mdl_far_0 : decode b_Mdl_far 0 = .ok (.aload_n 0, 1) := by decide +kernel
theorem d_Mdl_far_1 : decode b_Mdl_far 1 = .ok (.iload_n 1, 1) := by decide +kernel
theorem d_Mdl_far_2 : decode b_Mdl_far 2 = .ok (.ldc 36, 2) := by decide +kernel
theorem d_Mdl_far_4 : decode b_Mdl_far 4 = .ok (.iand, 1) := by decide +kernel
theorem d_Mdl_far_5 : decode b_Mdl_far 5 = .ok (.putfield 92, 3) := by decide +kernel
theorem d_Mdl_far_8 : decode b_Mdl_far 8 = .ok (.aload_n 0, 1) := by decide +kernel
theorem d_Mdl_far_9 : decode b_Mdl_far 9 = .ok (.iconst 0, 1) := by decide +kernel
theorem d_Mdl_far_10 : decode b_Mdl_far 10 = .ok (.putfield 95, 3) := by decide +kernel
theorem d_Mdl_far_13 : decode b_Mdl_far 13 = .ok (.return_, 1) := by decide +kernel
theorem d_Mdl_find_0 : decode b_Mdl_find 0 = .ok (.iload_n 1, 1) := by decide +kernel
theorem d_Mdl_find_1 : decode b_Mdl_find 1 = .ok (.iconst 5, 1) := by decide +kernel
theorem d_Mdl_find_2 : decode b_Mdl_find 2 = .ok (.if_icmp .eq 9, 3) := by decide +kernel
theorem d_Mdl_find_5 : decode b_Mdl_find 5 = .ok (.iload_n 1, 1) := by decide +kernel
theorem d_Mdl_find_6 : decode b_Mdl_find 6 = .ok (.bipush 21, 2) := by decide +kernel
theorem d_Mdl_find_8 : decode b_Mdl_find 8 = .ok (.if_icmp .ne 24, 3) := by decide +kernel
theorem d_Mdl_find_11 : decode b_Mdl_find 11 = .ok (.aload_n 0, 1) := by decide +kernel
theorem d_Mdl_find_12 : decode b_Mdl_find 12 = .ok (.iload_n 1, 1) := by decide +kernel
theorem d_Mdl_find_13 : decode b_Mdl_find 13 = .ok (.bipush 21, 2) := by decide +kernel
theorem d_Mdl_find_15 : decode b_Mdl_find 15 = .ok (.if_icmp .ne 10, 3) := by decide +kernel
theorem d_Mdl_find_18 : decode b_Mdl_find 18 = .ok (.aload_n 0, 1) := by decide +kernel
theorem d_Mdl_find_19 : decode b_Mdl_find 19 = .ok (.getfield 83, 3) := by decide +kernel
theorem d_Mdl_find_22 : decode b_Mdl_find 22 = .ok (.goto 4, 3) := by decide +kernel
theorem d_Mdl_find_25 : decode b_Mdl_find 25 = .ok (.iconst 0, 1) := by decide +kernel
theorem d_Mdl_find_26 : decode b_Mdl_find 26 = .ok (.invokevirtual 99, 3) := by decide +kernel
theorem d_Mdl_find_29 : decode b_Mdl_find 29 = .ok (.goto 330, 3) := by decide +kernel
theorem d_Mdl_find_32 : decode b_Mdl_find 32 = .ok (.iload_n 1, 1) := by decide +kernel
theorem d_Mdl_find_33 : decode b_Mdl_find 33 = .ok (.iconst 3, 1) := by decide +kernel
theorem d_Mdl_find_34 : decode b_Mdl_find 34 = .ok (.if_icmp .ne 27, 3) := by decide +kernel
theorem d_Mdl_find_37 : decode b_Mdl_find 37 = .ok (.aload_n 0, 1) := by decide +kernel
theorem d_Mdl_find_38 : decode b_Mdl_find 38 = .ok (.aload_n 0, 1) := by decide +kernel
theorem d_Mdl_find_39 : decode b_Mdl_find 39 = .ok (.getfield 13, 3) := by decide +kernel
theorem d_Mdl_find_42 : decode b_Mdl_find 42 = .ok (.aload_n 0, 1) := by decide +kernel
theorem d_Mdl_find_43 : decode b_Mdl_find 43 = .ok (.invokevirtual 61, 3) := by decide +kernel
theorem d_Mdl_find_46 : decode b_Mdl_find 46 = .ok (.iadd, 1) := by decide +kernel
theorem d_Mdl_find_47 : decode b_Mdl_find 47 = .ok (.ldc 35, 2) := by decide +kernel
theorem d_Mdl_find_49 : decode b_Mdl_find 49 = .ok (.iand, 1) := by decide +kernel
theorem d_Mdl_find_50 : decode b_Mdl_find 50 = .ok (.putfield 92, 3) := by decide +kernel
theorem d_Mdl_find_53 : decode b_Mdl_find 53 = .ok (.aload_n 0, 1) := by decide +kernel
theorem d_Mdl_find_54 : decode b_Mdl_find 54 = .ok (.iconst 1, 1) := by decide +kernel
theorem d_Mdl_find_55 : decode b_Mdl_find 55 = .ok (.putfield 95, 3) := by decide +kernel
theorem d_Mdl_find_58 : decode b_Mdl_find 58 = .ok (.goto 301, 3) := by decide +kernel
theorem d_Mdl_find_61 : decode b_Mdl_find 61 = .ok (.iload_n 1, 1) := by decide +kernel
theorem d_Mdl_find_62 : decode b_Mdl_find 62 = .ok (.bipush 13, 2) := by decide +kernel
theorem d_Mdl_find_64 : decode b_Mdl_find 64 = .ok (.if_icmp .eq 15, 3) := by decide +kernel
theorem d_Mdl_find_67 : decode b_Mdl_find 67 = .ok (.iload_n 1, 1) := by decide +kernel
theorem d_Mdl_find_68 : decode b_Mdl_find 68 = .ok (.bipush 25, 2) := by decide +kernel
theorem d_Mdl_find_70 : decode b_Mdl_find 70 = .ok (.if_icmp .eq 9, 3) := by decide +kernel
theorem d_Mdl_find_73 : decode b_Mdl_find 73 = .ok (.iload_n 1, 1) := by decide +kernel
theorem d_Mdl_find_74 : decode b_Mdl_find 74 = .ok (.bipush 29, 2) := by decide +kernel
theorem d_Mdl_find_76 : decode b_Mdl_find 76 = .ok (.if_icmp .ne 50, 3) := by decide +kernel
theorem d_Mdl_find_79 : decode b_Mdl_find 79 = .ok (.aload_n 0, 1) := by decide +kernel
theorem d_Mdl_find_80 : decode b_Mdl_find 80 = .ok (.aload_n 0, 1) := by decide +kernel
theorem d_Mdl_find_81 : decode b_Mdl_find 81 = .ok (.getfield 102, 3) := by decide +kernel
theorem d_Mdl_find_84 : decode b_Mdl_find 84 = .ok (.bipush 16, 2) := by decide +kernel
theorem d_Mdl_find_86 : decode b_Mdl_find 86 = .ok (.ishl, 1) := by decide +kernel
theorem d_Mdl_find_87 : decode b_Mdl_find 87 = .ok (.aload_n 0, 1) := by decide +kernel
theorem d_Mdl_find_88 : decode b_Mdl_find 88 = .ok (.invokevirtual 64, 3) := by decide +kernel
theorem d_Mdl_find_91 : decode b_Mdl_find 91 = .ok (.iadd, 1) := by decide +kernel
theorem d_Mdl_find_92 : decode b_Mdl_find 92 = .ok (.iload_n 1, 1) := by decide +kernel
theorem d_Mdl_find_93 : decode b_Mdl_find 93 = .ok (.bipush 25, 2) := by decide +kernel
theorem d_Mdl_find_95 : decode b_Mdl_find 95 = .ok (.if_icmp .ne 10, 3) := by decide +kernel
theorem d_Mdl_find_98 : decode b_Mdl_find 98 = .ok (.aload_n 0, 1) := by decide +kernel
theorem d_Mdl_find_99 : decode b_Mdl_find 99 = .ok (.getfield 86, 3) := by decide +kernel
theorem d_Mdl_find_102 : decode b_Mdl_find 102 = .ok (.goto 17, 3) := by decide +kernel
theorem d_Mdl_find_105 : decode b_Mdl_find 105 = .ok (.iload_n 1, 1) := by decide +kernel
theorem d_Mdl_find_106 : decode b_Mdl_find 106 = .ok (.bipush 29, 2) := by decide +kernel
theorem d_Mdl_find_108 : decode b_Mdl_find 108 = .ok (.if_icmp .ne 10, 3) := by decide +kernel
theorem d_Mdl_find_111 : decode b_Mdl_find 111 = .ok (.aload_n 0, 1) := by decide +kernel
theorem d_Mdl_find_112 : decode b_Mdl_find 112 = .ok (.getfield 83, 3) := by decide +kernel
theorem d_Mdl_find_115 : decode b_Mdl_find 115 = .ok (.goto 4, 3) := by decide +kernel
theorem d_Mdl_find_118 : decode b_Mdl_find 118 = .ok (.iconst 0, 1) := by decide +kernel
theorem d_Mdl_find_119 : decode b_Mdl_find 119 = .ok (.iadd, 1) := by decide +kernel
theorem d_Mdl_find_120 : decode b_Mdl_find 120 = .ok (.invokevirtual 105, 3) := by decide +kernel
theorem d_Mdl_find_123 : decode b_Mdl_find 123 = .ok (.goto 236, 3) := by decide +kernel
theorem d_Mdl_find_126 : decode b_Mdl_find 126 = .ok (.iload_n 1, 1) := by decide +kernel
theorem d_Mdl_find_127 : decode b_Mdl_find 127 = .ok (.bipush 15, 2) := by decide +kernel
theorem d_Mdl_find_129 : decode b_Mdl_find 129 = .ok (.if_icmp .eq 9, 3) := by decide +kernel
theorem d_Mdl_find_132 : decode b_Mdl_find 132 = .ok (.iload_n 1, 1) := by decide +kernel
theorem d_Mdl_find_133 : decode b_Mdl_find 133 = .ok (.bipush 31, 2) := by decide +kernel
theorem d_Mdl_find_135 : decode b_Mdl_find 135 = .ok (.if_icmp .ne 29, 3) := by decide +kernel
theorem d_Mdl_find_138 : decode b_Mdl_find 138 = .ok (.aload_n 0, 1) := by decide +kernel
theorem d_Mdl_find_139 : decode b_Mdl_find 139 = .ok (.aload_n 0, 1) := by decide +kernel
theorem d_Mdl_find_140 : decode b_Mdl_find 140 = .ok (.invokevirtual 108, 3) := by decide +kernel
theorem d_Mdl_find_143 : decode b_Mdl_find 143 = .ok (.iload_n 1, 1) := by decide +kernel
theorem d_Mdl_find_144 : decode b_Mdl_find 144 = .ok (.bipush 31, 2) := by decide +kernel
theorem d_Mdl_find_146 : decode b_Mdl_find 146 = .ok (.if_icmp .ne 10, 3) := by decide +kernel
theorem d_Mdl_find_149 : decode b_Mdl_find 149 = .ok (.aload_n 0, 1) := by decide +kernel
theorem d_Mdl_find_150 : decode b_Mdl_find 150 = .ok (.getfield 83, 3) := by decide +kernel
theorem d_Mdl_find_153 : decode b_Mdl_find 153 = .ok (.goto 4, 3) := by decide +kernel
theorem d_Mdl_find_156 : decode b_Mdl_find 156 = .ok (.iconst 0, 1) := by decide +kernel
theorem d_Mdl_find_157 : decode b_Mdl_find 157 = .ok (.iadd, 1) := by decide +kernel
theorem d_Mdl_find_158 : decode b_Mdl_find 158 = .ok (.invokevirtual 105, 3) := by decide +kernel
theorem d_Mdl_find_161 : decode b_Mdl_find 161 = .ok (.goto 198, 3) := by decide +kernel
theorem d_Mdl_find_164 : decode b_Mdl_find 164 = .ok (.iload_n 1, 1) := by decide +kernel
theorem d_Mdl_find_165 : decode b_Mdl_find 165 = .ok (.iconst 1, 1) := by decide +kernel
theorem d_Mdl_find_166 : decode b_Mdl_find 166 = .ok (.if_icmp .eq 15, 3) := by decide +kernel
theorem d_Mdl_find_169 : decode b_Mdl_find 169 = .ok (.iload_n 1, 1) := by decide +kernel
theorem d_Mdl_find_170 : decode b_Mdl_find 170 = .ok (.bipush 17, 2) := by decide +kernel
theorem d_Mdl_find_172 : decode b_Mdl_find 172 = .ok (.if_icmp .eq 9, 3) := by decide +kernel
theorem d_Mdl_find_175 : decode b_Mdl_find 175 = .ok (.iload_n 1, 1) := by decide +kernel
theorem d_Mdl_find_176 : decode b_Mdl_find 176 = .ok (.bipush 18, 2) := by decide +kernel
theorem d_Mdl_find_178 : decode b_Mdl_find 178 = .ok (.if_icmp .ne 59, 3) := by decide +kernel
theorem d_Mdl_find_181 : decode b_Mdl_find 181 = .ok (.aload_n 0, 1) := by decide +kernel
theorem d_Mdl_find_182 : decode b_Mdl_find 182 = .ok (.iload_n 1, 1) := by decide +kernel
theorem d_Mdl_find_183 : decode b_Mdl_find 183 = .ok (.iconst 1, 1) := by decide +kernel
theorem d_Mdl_find_184 : decode b_Mdl_find 184 = .ok (.if_icmp .ne 10, 3) := by decide +kernel
theorem d_Mdl_find_187 : decode b_Mdl_find 187 = .ok (.aload_n 0, 1) := by decide +kernel
theorem d_Mdl_find_188 : decode b_Mdl_find 188 = .ok (.getfield 83, 3) := by decide +kernel
theorem d_Mdl_find_191 : decode b_Mdl_find 191 = .ok (.goto 4, 3) := by decide +kernel
theorem d_Mdl_find_194 : decode b_Mdl_find 194 = .ok (.iconst 0, 1) := by decide +kernel
theorem d_Mdl_find_195 : decode b_Mdl_find 195 = .ok (.invokevirtual 99, 3) := by decide +kernel
theorem d_Mdl_find_198 : decode b_Mdl_find 198 = .ok (.aload_n 0, 1) := by decide +kernel
theorem d_Mdl_find_199 : decode b_Mdl_find 199 = .ok (.aload_n 0, 1) := by decide +kernel
theorem d_Mdl_find_200 : decode b_Mdl_find 200 = .ok (.getfield 102, 3) := by decide +kernel
theorem d_Mdl_find_203 : decode b_Mdl_find 203 = .ok (.bipush 16, 2) := by decide +kernel
theorem d_Mdl_find_205 : decode b_Mdl_find 205 = .ok (.ishl, 1) := by decide +kernel
theorem d_Mdl_find_206 : decode b_Mdl_find 206 = .ok (.aload_n 0, 1) := by decide +kernel
theorem d_Mdl_find_207 : decode b_Mdl_find 207 = .ok (.aload_n 0, 1) := by decide +kernel
theorem d_Mdl_find_208 : decode b_Mdl_find 208 = .ok (.getfield 92, 3) := by decide +kernel
theorem d_Mdl_find_211 : decode b_Mdl_find 211 = .ok (.iconst 1, 1) := by decide +kernel
theorem d_Mdl_find_212 : decode b_Mdl_find 212 = .ok (.invokevirtual 111, 3) := by decide +kernel
theorem d_Mdl_find_215 : decode b_Mdl_find 215 = .ok (.iadd, 1) := by decide +kernel
theorem d_Mdl_find_216 : decode b_Mdl_find 216 = .ok (.iload_n 1, 1) := by decide +kernel
theorem d_Mdl_find_217 : decode b_Mdl_find 217 = .ok (.bipush 17, 2) := by decide +kernel
theorem d_Mdl_find_219 : decode b_Mdl_find 219 = .ok (.if_icmp .ne 10, 3) := by decide +kernel
theorem d_Mdl_find_222 : decode b_Mdl_find 222 = .ok (.aload_n 0, 1) := by decide +kernel
theorem d_Mdl_find_223 : decode b_Mdl_find 223 = .ok (.getfield 86, 3) := by decide +kernel
theorem d_Mdl_find_226 : decode b_Mdl_find 226 = .ok (.goto 4, 3) := by decide +kernel
theorem d_Mdl_find_229 : decode b_Mdl_find 229 = .ok (.iconst 0, 1) := by decide +kernel
theorem d_Mdl_find_230 : decode b_Mdl_find 230 = .ok (.iadd, 1) := by decide +kernel
theorem d_Mdl_find_231 : decode b_Mdl_find 231 = .ok (.invokevirtual 105, 3) := by decide +kernel
theorem d_Mdl_find_234 : decode b_Mdl_find 234 = .ok (.goto 125, 3) := by decide +kernel
theorem d_Mdl_find_237 : decode b_Mdl_find 237 = .ok (.iload_n 1, 1) := by decide +kernel
theorem d_Mdl_find_238 : decode b_Mdl_find 238 = .ok (.bipush 7, 2) := by decide +kernel
theorem d_Mdl_find_240 : decode b_Mdl_find 240 = .ok (.if_icmp .eq 9, 3) := by decide +kernel
theorem d_Mdl_find_243 : decode b_Mdl_find 243 = .ok (.iload_n 1, 1) := by decide +kernel
theorem d_Mdl_find_244 : decode b_Mdl_find 244 = .ok (.bipush 23, 2) := by decide +kernel
theorem d_Mdl_find_246 : decode b_Mdl_find 246 = .ok (.if_icmp .ne 60, 3) := by decide +kernel
theorem d_Mdl_find_249 : decode b_Mdl_find 249 = .ok (.aload_n 0, 1) := by decide +kernel
theorem d_Mdl_find_250 : decode b_Mdl_find 250 = .ok (.iconst 0, 1) := by decide +kernel
theorem d_Mdl_find_251 : decode b_Mdl_find 251 = .ok (.invokevirtual 99, 3) := by decide +kernel
theorem d_Mdl_find_254 : decode b_Mdl_find 254 = .ok (.aload_n 0, 1) := by decide +kernel
theorem d_Mdl_find_255 : decode b_Mdl_find 255 = .ok (.aload_n 0, 1) := by decide +kernel
theorem d_Mdl_find_256 : decode b_Mdl_find 256 = .ok (.getfield 92, 3) := by decide +kernel
theorem d_Mdl_find_259 : decode b_Mdl_find 259 = .ok (.iconst 1, 1) := by decide +kernel
theorem d_Mdl_find_260 : decode b_Mdl_find 260 = .ok (.invokevirtual 111, 3) := by decide +kernel
theorem d_Mdl_find_263 : decode b_Mdl_find 263 = .ok (.istore_n 2, 1) := by decide +kernel
theorem d_Mdl_find_264 : decode b_Mdl_find 264 = .ok (.aload_n 0, 1) := by decide +kernel
theorem d_Mdl_find_265 : decode b_Mdl_find 265 = .ok (.aload_n 0, 1) := by decide +kernel
theorem d_Mdl_find_266 : decode b_Mdl_find 266 = .ok (.getfield 92, 3) := by decide +kernel
theorem d_Mdl_find_269 : decode b_Mdl_find 269 = .ok (.iconst 2, 1) := by decide +kernel
theorem d_Mdl_find_270 : decode b_Mdl_find 270 = .ok (.iadd, 1) := by decide +kernel
theorem d_Mdl_find_271 : decode b_Mdl_find 271 = .ok (.ldc 35, 2) := by decide +kernel
theorem d_Mdl_find_273 : decode b_Mdl_find 273 = .ok (.iand, 1) := by decide +kernel
theorem d_Mdl_find_274 : decode b_Mdl_find 274 = .ok (.invokevirtual 37, 3) := by decide +kernel
theorem d_Mdl_find_277 : decode b_Mdl_find 277 = .ok (.istore_n 3, 1) := by decide +kernel
theorem d_Mdl_find_278 : decode b_Mdl_find 278 = .ok (.aload_n 0, 1) := by decide +kernel
theorem d_Mdl_find_279 : decode b_Mdl_find 279 = .ok (.iload_n 3, 1) := by decide +kernel
theorem d_Mdl_find_280 : decode b_Mdl_find 280 = .ok (.bipush 16, 2) := by decide +kernel
theorem d_Mdl_find_282 : decode b_Mdl_find 282 = .ok (.ishl, 1) := by decide +kernel
theorem d_Mdl_find_283 : decode b_Mdl_find 283 = .ok (.iload_n 2, 1) := by decide +kernel
theorem d_Mdl_find_284 : decode b_Mdl_find 284 = .ok (.iadd, 1) := by decide +kernel
theorem d_Mdl_find_285 : decode b_Mdl_find 285 = .ok (.iload_n 1, 1) := by decide +kernel
theorem d_Mdl_find_286 : decode b_Mdl_find 286 = .ok (.bipush 23, 2) := by decide +kernel
theorem d_Mdl_find_288 : decode b_Mdl_find 288 = .ok (.if_icmp .ne 10, 3) := by decide +kernel
theorem d_Mdl_find_291 : decode b_Mdl_find 291 = .ok (.aload_n 0, 1) := by decide +kernel
theorem d_Mdl_find_292 : decode b_Mdl_find 292 = .ok (.getfield 86, 3) := by decide +kernel
theorem d_Mdl_find_295 : decode b_Mdl_find 295 = .ok (.goto 4, 3) := by decide +kernel
theorem d_Mdl_find_298 : decode b_Mdl_find 298 = .ok (.iconst 0, 1) := by decide +kernel
theorem d_Mdl_find_299 : decode b_Mdl_find 299 = .ok (.iadd, 1) := by decide +kernel
theorem d_Mdl_find_300 : decode b_Mdl_find 300 = .ok (.invokevirtual 105, 3) := by decide +kernel
theorem d_Mdl_find_303 : decode b_Mdl_find 303 = .ok (.goto 56, 3) := by decide +kernel
theorem d_Mdl_find_306 : decode b_Mdl_find 306 = .ok (.iload_n 1, 1) := by decide +kernel
theorem d_Mdl_find_307 : decode b_Mdl_find 307 = .ok (.bipush 19, 2) := by decide +kernel
theorem d_Mdl_find_309 : decode b_Mdl_find 309 = .ok (.if_icmp .ne 48, 3) := by decide +kernel
theorem d_Mdl_find_312 : decode b_Mdl_find 312 = .ok (.aload_n 0, 1) := by decide +kernel
theorem d_Mdl_find_313 : decode b_Mdl_find 313 = .ok (.aload_n 0, 1) := by decide +kernel
theorem d_Mdl_find_314 : decode b_Mdl_find 314 = .ok (.getfield 13, 3) := by decide +kernel
theorem d_Mdl_find_317 : decode b_Mdl_find 317 = .ok (.aload_n 0, 1) := by decide +kernel
theorem d_Mdl_find_318 : decode b_Mdl_find 318 = .ok (.invokevirtual 61, 3) := by decide +kernel
theorem d_Mdl_find_321 : decode b_Mdl_find 321 = .ok (.iadd, 1) := by decide +kernel
theorem d_Mdl_find_322 : decode b_Mdl_find 322 = .ok (.ldc 35, 2) := by decide +kernel
theorem d_Mdl_find_324 : decode b_Mdl_find 324 = .ok (.iand, 1) := by decide +kernel
theorem d_Mdl_find_325 : decode b_Mdl_find 325 = .ok (.putfield 92, 3) := by decide +kernel
theorem d_Mdl_find_328 : decode b_Mdl_find 328 = .ok (.aload_n 0, 1) := by decide +kernel
theorem d_Mdl_find_329 : decode b_Mdl_find 329 = .ok (.aload_n 0, 1) := by decide +kernel
theorem d_Mdl_find_330 : decode b_Mdl_find 330 = .ok (.getfield 102, 3) := by decide +kernel
theorem d_Mdl_find_333 : decode b_Mdl_find 333 = .ok (.bipush 16, 2) := by decide +kernel
theorem d_Mdl_find_335 : decode b_Mdl_find 335 = .ok (.ishl, 1) := by decide +kernel
theorem d_Mdl_find_336 : decode b_Mdl_find 336 = .ok (.aload_n 0, 1) := by decide +kernel
theorem d_Mdl_find_337 : decode b_Mdl_find 337 = .ok (.aload_n 0, 1) := by decide +kernel
theorem d_Mdl_find_338 : decode b_Mdl_find 338 = .ok (.getfield 92, 3) := by decide +kernel
theorem d_Mdl_find_341 : decode b_Mdl_find 341 = .ok (.iconst 1, 1) := by decide +kernel
theorem d_Mdl_find_342 : decode b_Mdl_find 342 = .ok (.invokevirtual 111, 3) := by decide +kernel
theorem d_Mdl_find_345 : decode b_Mdl_find 345 = .ok (.iadd, 1) := by decide +kernel
theorem d_Mdl_find_346 : decode b_Mdl_find 346 = .ok (.aload_n 0, 1) := by decide +kernel
theorem d_Mdl_find_347 : decode b_Mdl_find 347 = .ok (.getfield 86, 3) := by decide +kernel
theorem d_Mdl_find_350 : decode b_Mdl_find 350 = .ok (.iadd, 1) := by decide +kernel
theorem d_Mdl_find_351 : decode b_Mdl_find 351 = .ok (.invokevirtual 105, 3) := by decide +kernel
theorem d_Mdl_find_354 : decode b_Mdl_find 354 = .ok (.goto 5, 3) := by decide +kernel
theorem d_Mdl_find_357 : decode b_Mdl_find 357 = .ok (.iconst 0, 1) := by decide +kernel
theorem d_Mdl_find_358 : decode b_Mdl_find 358 = .ok (.ireturn, 1) := by decide +kernel
theorem d_Mdl_find_359 : decode b_Mdl_find 359 = .ok (.iconst 1, 1) := by decide +kernel
theorem d_Mdl_find_360 : decode b_Mdl_find 360 = .ok (.ireturn, 1) := by decide +kernel
theorem d_Mdl_load_0 : decode b_Mdl_load 0 = .ok (.iload_n 1, 1) := by decide +kernel
theorem d_Mdl_load_1 : decode b_Mdl_load 1 = .ok (.ifCond .eq 14, 3) := by decide +kernel
theorem d_Mdl_load_4 : decode b_Mdl_load 4 = .ok (.aload_n 0, 1) := by decide +kernel
theorem d_Mdl_load_5 : decode b_Mdl_load 5 = .ok (.aload_n 0, 1) := by decide +kernel
theorem d_Mdl_load_6 : decode b_Mdl_load 6 = .ok (.getfield 92, 3) := by decide +kernel
theorem d_Mdl_load_9 : decode b_Mdl_load 9 = .ok (.invokevirtual 37, 3) := by decide +kernel
theorem d_Mdl_load_12 : decode b_Mdl_load 12 = .ok (.goto 15, 3) := by decide +kernel
theorem d_Mdl_load_15 : decode b_Mdl_load 15 = .ok (.aload_n 0, 1) := by decide +kernel
theorem d_Mdl_load_16 : decode b_Mdl_load 16 = .ok (.aload_n 0, 1) := by decide +kernel
theorem d_Mdl_load_17 : decode b_Mdl_load 17 = .ok (.getfield 92, 3) := by decide +kernel
theorem d_Mdl_load_20 : decode b_Mdl_load 20 = .ok (.aload_n 0, 1) := by decide +kernel
theorem d_Mdl_load_21 : decode b_Mdl_load 21 = .ok (.getfield 95, 3) := by decide +kernel
theorem d_Mdl_load_24 : decode b_Mdl_load 24 = .ok (.invokevirtual 111, 3) := by decide +kernel
theorem d_Mdl_load_27 : decode b_Mdl_load 27 = .ok (.ireturn, 1) := by decide +kernel
theorem d_Mdl_store_0 : decode b_Mdl_store 0 = .ok (.aload_n 0, 1) := by decide +kernel
theorem d_Mdl_store_1 : decode b_Mdl_store 1 = .ok (.aload_n 0, 1) := by decide +kernel
theorem d_Mdl_store_2 : decode b_Mdl_store 2 = .ok (.getfield 92, 3) := by decide +kernel
theorem d_Mdl_store_5 : decode b_Mdl_store 5 = .ok (.iload_n 1, 1) := by decide +kernel
theorem d_Mdl_store_6 : decode b_Mdl_store 6 = .ok (.invokevirtual 44, 3) := by decide +kernel
theorem d_Mdl_store_9 : decode b_Mdl_store 9 = .ok (.iload_n 2, 1) := by decide +kernel
theorem d_Mdl_store_10 : decode b_Mdl_store 10 = .ok (.ifCond .ne 23, 3) := by decide +kernel
theorem d_Mdl_store_13 : decode b_Mdl_store 13 = .ok (.aload_n 0, 1) := by decide +kernel
theorem d_Mdl_store_14 : decode b_Mdl_store 14 = .ok (.aload_n 0, 1) := by decide +kernel
theorem d_Mdl_store_15 : decode b_Mdl_store 15 = .ok (.aload_n 0, 1) := by decide +kernel
theorem d_Mdl_store_16 : decode b_Mdl_store 16 = .ok (.getfield 92, 3) := by decide +kernel
theorem d_Mdl_store_19 : decode b_Mdl_store 19 = .ok (.aload_n 0, 1) := by decide +kernel
theorem d_Mdl_store_20 : decode b_Mdl_store 20 = .ok (.getfield 95, 3) := by decide +kernel
theorem d_Mdl_store_23 : decode b_Mdl_store 23 = .ok (.invokevirtual 40, 3) := by decide +kernel
theorem d_Mdl_store_26 : decode b_Mdl_store 26 = .ok (.iload_n 1, 1) := by decide +kernel
theorem d_Mdl_store_27 : decode b_Mdl_store 27 = .ok (.bipush 8, 2) := by decide +kernel
theorem d_Mdl_store_29 : decode b_Mdl_store 29 = .ok (.ishr, 1) := by decide +kernel
theorem d_Mdl_store_30 : decode b_Mdl_store 30 = .ok (.invokevirtual 44, 3) := by decide +kernel
theorem d_Mdl_store_33 : decode b_Mdl_store 33 = .ok (.return_, 1) := by decide +kernel
theorem d_Mdl_immediate_0 : decode b_Mdl_immediate 0 = .ok (.iload_n 1, 1) := by decide +kernel
theorem d_Mdl_immediate_1 : decode b_Mdl_immediate 1 = .ok (.ifCond .eq 10, 3) := by decide +kernel
theorem d_Mdl_immediate_4 : decode b_Mdl_immediate 4 = .ok (.aload_n 0, 1) := by decide +kernel
theorem d_Mdl_immediate_5 : decode b_Mdl_immediate 5 = .ok (.invokevirtual 61, 3) := by decide +kernel
theorem d_Mdl_immediate_8 : decode b_Mdl_immediate 8 = .ok (.goto 7, 3) := by decide +kernel
theorem d_Mdl_immediate_11 : decode b_Mdl_immediate 11 = .ok (.aload_n 0, 1) := by decide +kernel
theorem d_Mdl_immediate_12 : decode b_Mdl_immediate 12 = .ok (.invokevirtual 64, 3) := by decide +kernel
theorem d_Mdl_immediate_15 : decode b_Mdl_immediate 15 = .ok (.ireturn, 1) := by decide +kernel
theorem d_Mdl_add_0 : decode b_Mdl_add 0 = .ok (.aload_n 0, 1) := by decide +kernel
theorem d_Mdl_add_1 : decode b_Mdl_add 1 = .ok (.bipush 32, 2) := by decide +kernel
theorem d_Mdl_add_3 : decode b_Mdl_add 3 = .ok (.invokevirtual 67, 3) := by decide +kernel
theorem d_Mdl_add_6 : decode b_Mdl_add 6 = .ok (.istore_n 2, 1) := by decide +kernel
theorem d_Mdl_add_7 : decode b_Mdl_add 7 = .ok (.aload_n 0, 1) := by decide +kernel
theorem d_Mdl_add_8 : decode b_Mdl_add 8 = .ok (.invokevirtual 114, 3) := by decide +kernel
theorem d_Mdl_add_11 : decode b_Mdl_add 11 = .ok (.istore_n 3, 1) := by decide +kernel
theorem d_Mdl_add_12 : decode b_Mdl_add 12 = .ok (.iload_n 3, 1) := by decide +kernel
theorem d_Mdl_add_13 : decode b_Mdl_add 13 = .ok (.iload_n 1, 1) := by decide +kernel
theorem d_Mdl_add_14 : decode b_Mdl_add 14 = .ok (.iadd, 1) := by decide +kernel
theorem d_Mdl_add_15 : decode b_Mdl_add 15 = .ok (.aload_n 0, 1) := by decide +kernel
theorem d_Mdl_add_16 : decode b_Mdl_add 16 = .ok (.iconst 1, 1) := by decide +kernel
theorem d_Mdl_add_17 : decode b_Mdl_add 17 = .ok (.invokevirtual 67, 3) := by decide +kernel
theorem d_Mdl_add_20 : decode b_Mdl_add 20 = .ok (.ifCond .eq 7, 3) := by decide +kernel
theorem d_Mdl_add_23 : decode b_Mdl_add 23 = .ok (.iconst 1, 1) := by decide +kernel
theorem d_Mdl_add_24 : decode b_Mdl_add 24 = .ok (.goto 4, 3) := by decide +kernel
theorem d_Mdl_add_27 : decode b_Mdl_add 27 = .ok (.iconst 0, 1) := by decide +kernel
theorem d_Mdl_add_28 : decode b_Mdl_add 28 = .ok (.iadd, 1) := by decide +kernel
theorem d_Mdl_add_29 : decode b_Mdl_add 29 = .ok (.istore 4, 2) := by decide +kernel
theorem d_Mdl_add_31 : decode b_Mdl_add 31 = .ok (.iload_n 2, 1) := by decide +kernel
theorem d_Mdl_add_32 : decode b_Mdl_add 32 = .ok (.ifCond .eq 9, 3) := by decide +kernel
theorem d_Mdl_add_35 : decode b_Mdl_add 35 = .ok (.sipush 128, 3) := by decide +kernel
theorem d_Mdl_add_38 : decode b_Mdl_add 38 = .ok (.goto 5, 3) := by decide +kernel
theorem d_Mdl_add_41 : decode b_Mdl_add 41 = .ok (.ldc 78, 2) := by decide +kernel
theorem d_Mdl_add_43 : decode b_Mdl_add 43 = .ok (.istore 5, 2) := by decide +kernel
theorem d_Mdl_add_45 : decode b_Mdl_add 45 = .ok (.aload_n 0, 1) := by decide +kernel
theorem d_Mdl_add_46 : decode b_Mdl_add 46 = .ok (.iconst 1, 1) := by decide +kernel
theorem d_Mdl_add_47 : decode b_Mdl_add 47 = .ok (.iload 4, 2) := by decide +kernel
theorem d_Mdl_add_49 : decode b_Mdl_add 49 = .ok (.iload_n 2, 1) := by decide +kernel
theorem d_Mdl_add_50 : decode b_Mdl_add 50 = .ok (.ifCond .eq 9, 3) := by decide +kernel
theorem d_Mdl_add_53 : decode b_Mdl_add 53 = .ok (.sipush 255, 3) := by decide +kernel
theorem d_Mdl_add_56 : decode b_Mdl_add 56 = .ok (.goto 5, 3) := by decide +kernel
theorem d_Mdl_add_59 : decode b_Mdl_add 59 = .ok (.ldc 35, 2) := by decide +kernel
theorem d_Mdl_add_61 : decode b_Mdl_add 61 = .ok (.if_icmp .le 7, 3) := by decide +kernel
theorem d_Mdl_add_64 : decode b_Mdl_add 64 = .ok (.iconst 1, 1) := by decide +kernel
theorem d_Mdl_add_65 : decode b_Mdl_add 65 = .ok (.goto 4, 3) := by decide +kernel
theorem d_Mdl_add_68 : decode b_Mdl_add 68 = .ok (.iconst 0, 1) := by decide +kernel
theorem d_Mdl_add_69 : decode b_Mdl_add 69 = .ok (.invokevirtual 79, 3) := by decide +kernel
theorem d_Mdl_add_72 : decode b_Mdl_add 72 = .ok (.aload_n 0, 1) := by decide +kernel
theorem d_Mdl_add_73 : decode b_Mdl_add 73 = .ok (.bipush 64, 2) := by decide +kernel
theorem d_Mdl_add_75 : decode b_Mdl_add 75 = .ok (.iload_n 3, 1) := by decide +kernel
theorem d_Mdl_add_76 : decode b_Mdl_add 76 = .ok (.iload 4, 2) := by decide +kernel
theorem d_Mdl_add_78 : decode b_Mdl_add 78 = .ok (.ixor, 1) := by decide +kernel
theorem d_Mdl_add_79 : decode b_Mdl_add 79 = .ok (.iload_n 1, 1) := by decide +kernel
theorem d_Mdl_add_80 : decode b_Mdl_add 80 = .ok (.iload 4, 2) := by decide +kernel
theorem d_Mdl_add_82 : decode b_Mdl_add 82 = .ok (.ixor, 1) := by decide +kernel
theorem d_Mdl_add_83 : decode b_Mdl_add 83 = .ok (.iand, 1) := by decide +kernel
theorem d_Mdl_add_84 : decode b_Mdl_add 84 = .ok (.iload 5, 2) := by decide +kernel
theorem d_Mdl_add_86 : decode b_Mdl_add 86 = .ok (.iand, 1) := by decide +kernel
theorem d_Mdl_add_87 : decode b_Mdl_add 87 = .ok (.ifCond .eq 7, 3) := by decide +kernel
theorem d_Mdl_add_90 : decode b_Mdl_add 90 = .ok (.iconst 1, 1) := by decide +kernel
theorem d_Mdl_add_91 : decode b_Mdl_add 91 = .ok (.goto 4, 3) := by decide +kernel
theorem d_Mdl_add_94 : decode b_Mdl_add 94 = .ok (.iconst 0, 1) := by decide +kernel
theorem d_Mdl_add_95 : decode b_Mdl_add 95 = .ok (.invokevirtual 79, 3) := by decide +kernel
theorem d_Mdl_add_98 : decode b_Mdl_add 98 = .ok (.aload_n 0, 1) := by decide +kernel
theorem d_Mdl_add_99 : decode b_Mdl_add 99 = .ok (.aload_n 0, 1) := by decide +kernel
theorem d_Mdl_add_100 : decode b_Mdl_add 100 = .ok (.iload 4, 2) := by decide +kernel
theorem d_Mdl_add_102 : decode b_Mdl_add 102 = .ok (.iload_n 2, 1) := by decide +kernel
theorem d_Mdl_add_103 : decode b_Mdl_add 103 = .ok (.invokevirtual 117, 3) := by decide +kernel
theorem d_Mdl_add_106 : decode b_Mdl_add 106 = .ok (.invokevirtual 120, 3) := by decide +kernel
theorem d_Mdl_add_109 : decode b_Mdl_add 109 = .ok (.return_, 1) := by decide +kernel
theorem d_Mdl_compare_0 : decode b_Mdl_compare 0 = .ok (.aload_n 0, 1) := by decide +kernel
theorem d_Mdl_compare_1 : decode b_Mdl_compare 1 = .ok (.iload_n 1, 1) := by decide +kernel
theorem d_Mdl_compare_2 : decode b_Mdl_compare 2 = .ok (.iload_n 2, 1) := by decide +kernel
theorem d_Mdl_compare_3 : decode b_Mdl_compare 3 = .ok (.isub, 1) := by decide +kernel
theorem d_Mdl_compare_4 : decode b_Mdl_compare 4 = .ok (.iload_n 3, 1) := by decide +kernel
theorem d_Mdl_compare_5 : decode b_Mdl_compare 5 = .ok (.invokevirtual 117, 3) := by decide +kernel
theorem d_Mdl_compare_8 : decode b_Mdl_compare 8 = .ok (.istore 4, 2) := by decide +kernel
theorem d_Mdl_compare_10 : decode b_Mdl_compare 10 = .ok (.aload_n 0, 1) := by decide +kernel
theorem d_Mdl_compare_11 : decode b_Mdl_compare 11 = .ok (.iconst 1, 1) := by decide +kernel
theorem d_Mdl_compare_12 : decode b_Mdl_compare 12 = .ok (.iload_n 1, 1) := by decide +kernel
theorem d_Mdl_compare_13 : decode b_Mdl_compare 13 = .ok (.iload_n 2, 1) := by decide +kernel
theorem d_Mdl_compare_14 : decode b_Mdl_compare 14 = .ok (.if_icmp .lt 7, 3) := by decide +kernel
theorem d_Mdl_compare_17 : decode b_Mdl_compare 17 = .ok (.iconst 1, 1) := by decide +kernel
theorem d_Mdl_compare_18 : decode b_Mdl_compare 18 = .ok (.goto 4, 3) := by decide +kernel
theorem d_Mdl_compare_21 : decode b_Mdl_compare 21 = .ok (.iconst 0, 1) := by decide +kernel
theorem d_Mdl_compare_22 : decode b_Mdl_compare 22 = .ok (.invokevirtual 79, 3) := by decide +kernel
theorem d_Mdl_compare_25 : decode b_Mdl_compare 25 = .ok (.return_, 1) := by decide +kernel
theorem d_Mdl_arithmetic_0 : decode b_Mdl_arithmetic 0 = .ok (.iload_n 1, 1) := by decide +kernel
theorem d_Mdl_arithmetic_1 : decode b_Mdl_arithmetic 1 = .ok (.iconst 5, 1) := by decide +kernel
theorem d_Mdl_arithmetic_2 : decode b_Mdl_arithmetic 2 = .ok (.ishr, 1) := by decide +kernel
theorem d_Mdl_arithmetic_3 : decode b_Mdl_arithmetic 3 = .ok (.istore_n 2, 1) := by decide +kernel
theorem d_Mdl_arithmetic_4 : decode b_Mdl_arithmetic 4 = .ok (.iload_n 1, 1) := by decide +kernel
theorem d_Mdl_arithmetic_5 : decode b_Mdl_arithmetic 5 = .ok (.bipush 31, 2) := by decide +kernel
theorem d_Mdl_arithmetic_7 : decode b_Mdl_arithmetic 7 = .ok (.iand, 1) := by decide +kernel
theorem d_Mdl_arithmetic_8 : decode b_Mdl_arithmetic 8 = .ok (.istore_n 3, 1) := by decide +kernel
theorem d_Mdl_arithmetic_9 : decode b_Mdl_arithmetic 9 = .ok (.aload_n 0, 1) := by decide +kernel
theorem d_Mdl_arithmetic_10 : decode b_Mdl_arithmetic 10 = .ok (.bipush 32, 2) := by decide +kernel
theorem d_Mdl_arithmetic_12 : decode b_Mdl_arithmetic 12 = .ok (.invokevirtual 67, 3) := by decide +kernel
theorem d_Mdl_arithmetic_15 : decode b_Mdl_arithmetic 15 = .ok (.istore 4, 2) := by decide +kernel
theorem d_Mdl_arithmetic_17 : decode b_Mdl_arithmetic 17 = .ok (.iload_n 3, 1) := by decide +kernel
theorem d_Mdl_arithmetic_18 : decode b_Mdl_arithmetic 18 = .ok (.bipush 9, 2) := by decide +kernel
theorem d_Mdl_arithmetic_20 : decode b_Mdl_arithmetic 20 = .ok (.if_icmp .ne 7, 3) := by decide +kernel
theorem d_Mdl_arithmetic_23 : decode b_Mdl_arithmetic 23 = .ok (.iconst 1, 1) := by decide +kernel
theorem d_Mdl_arithmetic_24 : decode b_Mdl_arithmetic 24 = .ok (.goto 4, 3) := by decide +kernel
theorem d_Mdl_arithmetic_27 : decode b_Mdl_arithmetic 27 = .ok (.iconst 0, 1) := by decide +kernel
theorem d_Mdl_arithmetic_28 : decode b_Mdl_arithmetic 28 = .ok (.istore 5, 2) := by decide +kernel
theorem d_Mdl_arithmetic_30 : decode b_Mdl_arithmetic 30 = .ok (.iload 5, 2) := by decide +kernel
theorem d_Mdl_arithmetic_32 : decode b_Mdl_arithmetic 32 = .ok (.ifCond .eq 8, 3) := by decide +kernel
theorem d_Mdl_arithmetic_35 : decode b_Mdl_arithmetic 35 = .ok (.iload_n 2, 1) := by decide +kernel
theorem d_Mdl_arithmetic_36 : decode b_Mdl_arithmetic 36 = .ok (.iconst 4, 1) := by decide +kernel
theorem d_Mdl_arithmetic_37 : decode b_Mdl_arithmetic 37 = .ok (.if_icmp .eq 16, 3) := by decide +kernel
theorem d_Mdl_arithmetic_40 : decode b_Mdl_arithmetic 40 = .ok (.iload 5, 2) := by decide +kernel
theorem d_Mdl_arithmetic_42 : decode b_Mdl_arithmetic 42 = .ok (.ifCond .ne 13, 3) := by decide +kernel
theorem d_Mdl_arithmetic_45 : decode b_Mdl_arithmetic 45 = .ok (.aload_n 0, 1) := by decide +kernel
theorem d_Mdl_arithmetic_46 : decode b_Mdl_arithmetic 46 = .ok (.iload_n 3, 1) := by decide +kernel
theorem d_Mdl_arithmetic_47 : decode b_Mdl_arithmetic 47 = .ok (.invokevirtual 123, 3) := by decide +kernel
theorem d_Mdl_arithmetic_50 : decode b_Mdl_arithmetic 50 = .ok (.ifCond .ne 5, 3) := by decide +kernel
theorem d_Mdl_arithmetic_53 : decode b_Mdl_arithmetic 53 = .ok (.iconst 0, 1) := by decide +kernel
theorem d_Mdl_arithmetic_54 : decode b_Mdl_arithmetic 54 = .ok (.ireturn, 1) := by decide +kernel
theorem d_Mdl_arithmetic_55 : decode b_Mdl_arithmetic 55 = .ok (.iload_n 2, 1) := by decide +kernel
theorem d_Mdl_arithmetic_56 : decode b_Mdl_arithmetic 56 = .ok (.iconst 4, 1) := by decide +kernel
theorem d_Mdl_arithmetic_57 : decode b_Mdl_arithmetic 57 = .ok (.if_icmp .ne 15, 3) := by decide +kernel
theorem d_Mdl_arithmetic_60 : decode b_Mdl_arithmetic 60 = .ok (.aload_n 0, 1) := by decide +kernel
theorem d_Mdl_arithmetic_61 : decode b_Mdl_arithmetic 61 = .ok (.aload_n 0, 1) := by decide +kernel
theorem d_Mdl_arithmetic_62 : decode b_Mdl_arithmetic 62 = .ok (.invokevirtual 114, 3) := by decide +kernel
theorem d_Mdl_arithmetic_65 : decode b_Mdl_arithmetic 65 = .ok (.iload 4, 2) := by decide +kernel
theorem d_Mdl_arithmetic_67 : decode b_Mdl_arithmetic 67 = .ok (.invokevirtual 126, 3) := by decide +kernel
theorem d_Mdl_arithmetic_70 : decode b_Mdl_arithmetic 70 = .ok (.iconst 1, 1) := by decide +kernel
theorem d_Mdl_arithmetic_71 : decode b_Mdl_arithmetic 71 = .ok (.ireturn, 1) := by decide +kernel
end
section
theorem d_Mdl_arithmetic_72 : decode b_Mdl_arithmetic 72 = .ok (.iload 5, 2) := by decide +kernel
theorem d_Mdl_arithmetic_74 : decode b_Mdl_arithmetic 74 = .ok (.ifCond .eq 12, 3) := by decide +kernel
theorem d_Mdl_arithmetic_77 : decode b_Mdl_arithmetic 77 = .ok (.aload_n 0, 1) := by decide +kernel
theorem d_Mdl_arithmetic_78 : decode b_Mdl_arithmetic 78 = .ok (.iload 4, 2) := by decide +kernel
theorem d_Mdl_arithmetic_80 : decode b_Mdl_arithmetic 80 = .ok (.invokevirtual 129, 3) := by decide +kernel
theorem d_Mdl_arithmetic_83 : decode b_Mdl_arithmetic 83 = .ok (.goto 9, 3) := by decide +kernel
theorem d_Mdl_arithmetic_86 : decode b_Mdl_arithmetic 86 = .ok (.aload_n 0, 1) := by decide +kernel
theorem d_Mdl_arithmetic_87 : decode b_Mdl_arithmetic 87 = .ok (.iload 4, 2) := by decide +kernel
theorem d_Mdl_arithmetic_89 : decode b_Mdl_arithmetic 89 = .ok (.invokevirtual 133, 3) := by decide +kernel
theorem d_Mdl_arithmetic_92 : decode b_Mdl_arithmetic 92 = .ok (.istore 6, 2) := by decide +kernel
theorem d_Mdl_arithmetic_94 : decode b_Mdl_arithmetic 94 = .ok (.iload_n 2, 1) := by decide +kernel
theorem d_Mdl_arithmetic_95 : decode b_Mdl_arithmetic 95 = .ok (.iconst 3, 1) := by decide +kernel
theorem d_Mdl_arithmetic_96 : decode b_Mdl_arithmetic 96 = .ok (.if_icmp .ne 12, 3) := by decide +kernel
theorem d_Mdl_arithmetic_99 : decode b_Mdl_arithmetic 99 = .ok (.aload_n 0, 1) := by decide +kernel
theorem d_Mdl_arithmetic_100 : decode b_Mdl_arithmetic 100 = .ok (.iload 6, 2) := by decide +kernel
theorem d_Mdl_arithmetic_102 : decode b_Mdl_arithmetic 102 = .ok (.invokevirtual 136, 3) := by decide +kernel
theorem d_Mdl_arithmetic_105 : decode b_Mdl_arithmetic 105 = .ok (.goto 103, 3) := by decide +kernel
theorem d_Mdl_arithmetic_108 : decode b_Mdl_arithmetic 108 = .ok (.iload_n 2, 1) := by decide +kernel
theorem d_Mdl_arithmetic_109 : decode b_Mdl_arithmetic 109 = .ok (.bipush 7, 2) := by decide +kernel
theorem d_Mdl_arithmetic_111 : decode b_Mdl_arithmetic 111 = .ok (.if_icmp .ne 20, 3) := by decide +kernel
theorem d_Mdl_arithmetic_114 : decode b_Mdl_arithmetic 114 = .ok (.aload_n 0, 1) := by decide +kernel
theorem d_Mdl_arithmetic_115 : decode b_Mdl_arithmetic 115 = .ok (.aload_n 0, 1) := by decide +kernel
theorem d_Mdl_arithmetic_116 : decode b_Mdl_arithmetic 116 = .ok (.iload 6, 2) := by decide +kernel
theorem d_Mdl_arithmetic_118 : decode b_Mdl_arithmetic 118 = .ok (.iconst (-1), 1) := by decide +kernel
theorem d_Mdl_arithmetic_119 : decode b_Mdl_arithmetic 119 = .ok (.ixor, 1) := by decide +kernel
theorem d_Mdl_arithmetic_120 : decode b_Mdl_arithmetic 120 = .ok (.iload 4, 2) := by decide +kernel
theorem d_Mdl_arithmetic_122 : decode b_Mdl_arithmetic 122 = .ok (.invokevirtual 75, 3) := by decide +kernel
theorem d_Mdl_arithmetic_125 : decode b_Mdl_arithmetic 125 = .ok (.invokevirtual 136, 3) := by decide +kernel
theorem d_Mdl_arithmetic_128 : decode b_Mdl_arithmetic 128 = .ok (.goto 80, 3) := by decide +kernel
theorem d_Mdl_arithmetic_131 : decode b_Mdl_arithmetic 131 = .ok (.iload_n 2, 1) := by decide +kernel
theorem d_Mdl_arithmetic_132 : decode b_Mdl_arithmetic 132 = .ok (.bipush 6, 2) := by decide +kernel
theorem d_Mdl_arithmetic_134 : decode b_Mdl_arithmetic 134 = .ok (.if_icmp .ne 18, 3) := by decide +kernel
theorem d_Mdl_arithmetic_137 : decode b_Mdl_arithmetic 137 = .ok (.aload_n 0, 1) := by decide +kernel
theorem d_Mdl_arithmetic_138 : decode b_Mdl_arithmetic 138 = .ok (.aload_n 0, 1) := by decide +kernel
theorem d_Mdl_arithmetic_139 : decode b_Mdl_arithmetic 139 = .ok (.invokevirtual 114, 3) := by decide +kernel
theorem d_Mdl_arithmetic_142 : decode b_Mdl_arithmetic 142 = .ok (.iload 6, 2) := by decide +kernel
theorem d_Mdl_arithmetic_144 : decode b_Mdl_arithmetic 144 = .ok (.iload 4, 2) := by decide +kernel
theorem d_Mdl_arithmetic_146 : decode b_Mdl_arithmetic 146 = .ok (.invokevirtual 139, 3) := by decide +kernel
theorem d_Mdl_arithmetic_149 : decode b_Mdl_arithmetic 149 = .ok (.goto 59, 3) := by decide +kernel
theorem d_Mdl_arithmetic_152 : decode b_Mdl_arithmetic 152 = .ok (.aload_n 0, 1) := by decide +kernel
theorem d_Mdl_arithmetic_153 : decode b_Mdl_arithmetic 153 = .ok (.invokevirtual 114, 3) := by decide +kernel
theorem d_Mdl_arithmetic_156 : decode b_Mdl_arithmetic 156 = .ok (.istore 7, 2) := by decide +kernel
theorem d_Mdl_arithmetic_158 : decode b_Mdl_arithmetic 158 = .ok (.aload_n 0, 1) := by decide +kernel
theorem d_Mdl_arithmetic_159 : decode b_Mdl_arithmetic 159 = .ok (.aload_n 0, 1) := by decide +kernel
theorem d_Mdl_arithmetic_160 : decode b_Mdl_arithmetic 160 = .ok (.iload_n 2, 1) := by decide +kernel
theorem d_Mdl_arithmetic_161 : decode b_Mdl_arithmetic 161 = .ok (.ifCond .ne 11, 3) := by decide +kernel
theorem d_Mdl_arithmetic_164 : decode b_Mdl_arithmetic 164 = .ok (.iload 7, 2) := by decide +kernel
theorem d_Mdl_arithmetic_166 : decode b_Mdl_arithmetic 166 = .ok (.iload 6, 2) := by decide +kernel
theorem d_Mdl_arithmetic_168 : decode b_Mdl_arithmetic 168 = .ok (.ior, 1) := by decide +kernel
theorem d_Mdl_arithmetic_169 : decode b_Mdl_arithmetic 169 = .ok (.goto 31, 3) := by decide +kernel
theorem d_Mdl_arithmetic_172 : decode b_Mdl_arithmetic 172 = .ok (.iload_n 2, 1) := by decide +kernel
theorem d_Mdl_arithmetic_173 : decode b_Mdl_arithmetic 173 = .ok (.iconst 1, 1) := by decide +kernel
theorem d_Mdl_arithmetic_174 : decode b_Mdl_arithmetic 174 = .ok (.if_icmp .ne 11, 3) := by decide +kernel
theorem d_Mdl_arithmetic_177 : decode b_Mdl_arithmetic 177 = .ok (.iload 7, 2) := by decide +kernel
theorem d_Mdl_arithmetic_179 : decode b_Mdl_arithmetic 179 = .ok (.iload 6, 2) := by decide +kernel
theorem d_Mdl_arithmetic_181 : decode b_Mdl_arithmetic 181 = .ok (.iand, 1) := by decide +kernel
theorem d_Mdl_arithmetic_182 : decode b_Mdl_arithmetic 182 = .ok (.goto 18, 3) := by decide +kernel
theorem d_Mdl_arithmetic_185 : decode b_Mdl_arithmetic 185 = .ok (.iload_n 2, 1) := by decide +kernel
theorem d_Mdl_arithmetic_186 : decode b_Mdl_arithmetic 186 = .ok (.iconst 2, 1) := by decide +kernel
theorem d_Mdl_arithmetic_187 : decode b_Mdl_arithmetic 187 = .ok (.if_icmp .ne 11, 3) := by decide +kernel
theorem d_Mdl_arithmetic_190 : decode b_Mdl_arithmetic 190 = .ok (.iload 7, 2) := by decide +kernel
theorem d_Mdl_arithmetic_192 : decode b_Mdl_arithmetic 192 = .ok (.iload 6, 2) := by decide +kernel
theorem d_Mdl_arithmetic_194 : decode b_Mdl_arithmetic 194 = .ok (.ixor, 1) := by decide +kernel
theorem d_Mdl_arithmetic_195 : decode b_Mdl_arithmetic 195 = .ok (.goto 5, 3) := by decide +kernel
theorem d_Mdl_arithmetic_198 : decode b_Mdl_arithmetic 198 = .ok (.iload 6, 2) := by decide +kernel
theorem d_Mdl_arithmetic_200 : decode b_Mdl_arithmetic 200 = .ok (.iload 4, 2) := by decide +kernel
theorem d_Mdl_arithmetic_202 : decode b_Mdl_arithmetic 202 = .ok (.invokevirtual 117, 3) := by decide +kernel
theorem d_Mdl_arithmetic_205 : decode b_Mdl_arithmetic 205 = .ok (.invokevirtual 120, 3) := by decide +kernel
theorem d_Mdl_arithmetic_208 : decode b_Mdl_arithmetic 208 = .ok (.iconst 1, 1) := by decide +kernel
theorem d_Mdl_arithmetic_209 : decode b_Mdl_arithmetic 209 = .ok (.ireturn, 1) := by decide +kernel
theorem d_Mdl_changed_0 : decode b_Mdl_changed 0 = .ok (.iload_n 3, 1) := by decide +kernel
theorem d_Mdl_changed_1 : decode b_Mdl_changed 1 = .ok (.ifCond .eq 9, 3) := by decide +kernel
theorem d_Mdl_changed_4 : decode b_Mdl_changed 4 = .ok (.sipush 128, 3) := by decide +kernel
theorem d_Mdl_changed_7 : decode b_Mdl_changed 7 = .ok (.goto 5, 3) := by decide +kernel
theorem d_Mdl_changed_10 : decode b_Mdl_changed 10 = .ok (.ldc 78, 2) := by decide +kernel
theorem d_Mdl_changed_12 : decode b_Mdl_changed 12 = .ok (.istore 4, 2) := by decide +kernel
theorem d_Mdl_changed_14 : decode b_Mdl_changed 14 = .ok (.aload_n 0, 1) := by decide +kernel
theorem d_Mdl_changed_15 : decode b_Mdl_changed 15 = .ok (.iconst 1, 1) := by decide +kernel
theorem d_Mdl_changed_16 : decode b_Mdl_changed 16 = .ok (.invokevirtual 67, 3) := by decide +kernel
theorem d_Mdl_changed_19 : decode b_Mdl_changed 19 = .ok (.ifCond .eq 7, 3) := by decide +kernel
theorem d_Mdl_changed_22 : decode b_Mdl_changed 22 = .ok (.iconst 1, 1) := by decide +kernel
theorem d_Mdl_changed_23 : decode b_Mdl_changed 23 = .ok (.goto 4, 3) := by decide +kernel
theorem d_Mdl_changed_26 : decode b_Mdl_changed 26 = .ok (.iconst 0, 1) := by decide +kernel
theorem d_Mdl_changed_27 : decode b_Mdl_changed 27 = .ok (.istore 5, 2) := by decide +kernel
theorem d_Mdl_changed_29 : decode b_Mdl_changed 29 = .ok (.iload_n 1, 1) := by decide +kernel
theorem d_Mdl_changed_30 : decode b_Mdl_changed 30 = .ok (.iconst 2, 1) := by decide +kernel
theorem d_Mdl_changed_31 : decode b_Mdl_changed 31 = .ok (.if_icmp .ge 22, 3) := by decide +kernel
theorem d_Mdl_changed_34 : decode b_Mdl_changed 34 = .ok (.aload_n 0, 1) := by decide +kernel
theorem d_Mdl_changed_35 : decode b_Mdl_changed 35 = .ok (.iload_n 1, 1) := by decide +kernel
theorem d_Mdl_changed_36 : decode b_Mdl_changed 36 = .ok (.ifCond .ne 9, 3) := by decide +kernel
theorem d_Mdl_changed_39 : decode b_Mdl_changed 39 = .ok (.iload_n 2, 1) := by decide +kernel
theorem d_Mdl_changed_40 : decode b_Mdl_changed 40 = .ok (.iconst 1, 1) := by decide +kernel
theorem d_Mdl_changed_41 : decode b_Mdl_changed 41 = .ok (.iadd, 1) := by decide +kernel
theorem d_Mdl_changed_42 : decode b_Mdl_changed 42 = .ok (.goto 6, 3) := by decide +kernel
theorem d_Mdl_changed_45 : decode b_Mdl_changed 45 = .ok (.iload_n 2, 1) := by decide +kernel
theorem d_Mdl_changed_46 : decode b_Mdl_changed 46 = .ok (.iconst 1, 1) := by decide +kernel
theorem d_Mdl_changed_47 : decode b_Mdl_changed 47 = .ok (.isub, 1) := by decide +kernel
theorem d_Mdl_changed_48 : decode b_Mdl_changed 48 = .ok (.iload_n 3, 1) := by decide +kernel
theorem d_Mdl_changed_49 : decode b_Mdl_changed 49 = .ok (.invokevirtual 117, 3) := by decide +kernel
theorem d_Mdl_changed_52 : decode b_Mdl_changed 52 = .ok (.ireturn, 1) := by decide +kernel
theorem d_Mdl_changed_53 : decode b_Mdl_changed 53 = .ok (.iload_n 1, 1) := by decide +kernel
theorem d_Mdl_changed_54 : decode b_Mdl_changed 54 = .ok (.iconst 4, 1) := by decide +kernel
theorem d_Mdl_changed_55 : decode b_Mdl_changed 55 = .ok (.if_icmp .ge 41, 3) := by decide +kernel
theorem d_Mdl_changed_58 : decode b_Mdl_changed 58 = .ok (.aload_n 0, 1) := by decide +kernel
theorem d_Mdl_changed_59 : decode b_Mdl_changed 59 = .ok (.iconst 1, 1) := by decide +kernel
theorem d_Mdl_changed_60 : decode b_Mdl_changed 60 = .ok (.iload_n 2, 1) := by decide +kernel
theorem d_Mdl_changed_61 : decode b_Mdl_changed 61 = .ok (.iload 4, 2) := by decide +kernel
theorem d_Mdl_changed_63 : decode b_Mdl_changed 63 = .ok (.iand, 1) := by decide +kernel
theorem d_Mdl_changed_64 : decode b_Mdl_changed 64 = .ok (.ifCond .eq 7, 3) := by decide +kernel
theorem d_Mdl_changed_67 : decode b_Mdl_changed 67 = .ok (.iconst 1, 1) := by decide +kernel
theorem d_Mdl_changed_68 : decode b_Mdl_changed 68 = .ok (.goto 4, 3) := by decide +kernel
theorem d_Mdl_changed_71 : decode b_Mdl_changed 71 = .ok (.iconst 0, 1) := by decide +kernel
theorem d_Mdl_changed_72 : decode b_Mdl_changed 72 = .ok (.invokevirtual 79, 3) := by decide +kernel
theorem d_Mdl_changed_75 : decode b_Mdl_changed 75 = .ok (.aload_n 0, 1) := by decide +kernel
theorem d_Mdl_changed_76 : decode b_Mdl_changed 76 = .ok (.iconst 2, 1) := by decide +kernel
theorem d_Mdl_changed_77 : decode b_Mdl_changed 77 = .ok (.iload_n 2, 1) := by decide +kernel
theorem d_Mdl_changed_78 : decode b_Mdl_changed 78 = .ok (.imul, 1) := by decide +kernel
theorem d_Mdl_changed_79 : decode b_Mdl_changed 79 = .ok (.iload_n 1, 1) := by decide +kernel
theorem d_Mdl_changed_80 : decode b_Mdl_changed 80 = .ok (.iconst 3, 1) := by decide +kernel
theorem d_Mdl_changed_81 : decode b_Mdl_changed 81 = .ok (.if_icmp .ne 8, 3) := by decide +kernel
theorem d_Mdl_changed_84 : decode b_Mdl_changed 84 = .ok (.iload 5, 2) := by decide +kernel
theorem d_Mdl_changed_86 : decode b_Mdl_changed 86 = .ok (.goto 4, 3) := by decide +kernel
theorem d_Mdl_changed_89 : decode b_Mdl_changed 89 = .ok (.iconst 0, 1) := by decide +kernel
theorem d_Mdl_changed_90 : decode b_Mdl_changed 90 = .ok (.iadd, 1) := by decide +kernel
theorem d_Mdl_changed_91 : decode b_Mdl_changed 91 = .ok (.iload_n 3, 1) := by decide +kernel
theorem d_Mdl_changed_92 : decode b_Mdl_changed 92 = .ok (.invokevirtual 117, 3) := by decide +kernel
theorem d_Mdl_changed_95 : decode b_Mdl_changed 95 = .ok (.ireturn, 1) := by decide +kernel
theorem d_Mdl_changed_96 : decode b_Mdl_changed 96 = .ok (.aload_n 0, 1) := by decide +kernel
theorem d_Mdl_changed_97 : decode b_Mdl_changed 97 = .ok (.iconst 1, 1) := by decide +kernel
theorem d_Mdl_changed_98 : decode b_Mdl_changed 98 = .ok (.iload_n 2, 1) := by decide +kernel
theorem d_Mdl_changed_99 : decode b_Mdl_changed 99 = .ok (.iconst 1, 1) := by decide +kernel
theorem d_Mdl_changed_100 : decode b_Mdl_changed 100 = .ok (.iand, 1) := by decide +kernel
theorem d_Mdl_changed_101 : decode b_Mdl_changed 101 = .ok (.ifCond .eq 7, 3) := by decide +kernel
theorem d_Mdl_changed_104 : decode b_Mdl_changed 104 = .ok (.iconst 1, 1) := by decide +kernel
theorem d_Mdl_changed_105 : decode b_Mdl_changed 105 = .ok (.goto 4, 3) := by decide +kernel
theorem d_Mdl_changed_108 : decode b_Mdl_changed 108 = .ok (.iconst 0, 1) := by decide +kernel
theorem d_Mdl_changed_109 : decode b_Mdl_changed 109 = .ok (.invokevirtual 79, 3) := by decide +kernel
theorem d_Mdl_changed_112 : decode b_Mdl_changed 112 = .ok (.aload_n 0, 1) := by decide +kernel
theorem d_Mdl_changed_113 : decode b_Mdl_changed 113 = .ok (.iload_n 2, 1) := by decide +kernel
theorem d_Mdl_changed_114 : decode b_Mdl_changed 114 = .ok (.iconst 2, 1) := by decide +kernel
theorem d_Mdl_changed_115 : decode b_Mdl_changed 115 = .ok (.idiv, 1) := by decide +kernel
theorem d_Mdl_changed_116 : decode b_Mdl_changed 116 = .ok (.iload_n 1, 1) := by decide +kernel
theorem d_Mdl_changed_117 : decode b_Mdl_changed 117 = .ok (.iconst 5, 1) := by decide +kernel
theorem d_Mdl_changed_118 : decode b_Mdl_changed 118 = .ok (.if_icmp .ne 11, 3) := by decide +kernel
theorem d_Mdl_changed_121 : decode b_Mdl_changed 121 = .ok (.iload 5, 2) := by decide +kernel
theorem d_Mdl_changed_123 : decode b_Mdl_changed 123 = .ok (.iload 4, 2) := by decide +kernel
theorem d_Mdl_changed_125 : decode b_Mdl_changed 125 = .ok (.imul, 1) := by decide +kernel
theorem d_Mdl_changed_126 : decode b_Mdl_changed 126 = .ok (.goto 4, 3) := by decide +kernel
theorem d_Mdl_changed_129 : decode b_Mdl_changed 129 = .ok (.iconst 0, 1) := by decide +kernel
theorem d_Mdl_changed_130 : decode b_Mdl_changed 130 = .ok (.iadd, 1) := by decide +kernel
theorem d_Mdl_changed_131 : decode b_Mdl_changed 131 = .ok (.iload_n 3, 1) := by decide +kernel
theorem d_Mdl_changed_132 : decode b_Mdl_changed 132 = .ok (.invokevirtual 117, 3) := by decide +kernel
theorem d_Mdl_changed_135 : decode b_Mdl_changed 135 = .ok (.ireturn, 1) := by decide +kernel
theorem d_Mdl_changeMemory_0 : decode b_Mdl_changeMemory 0 = .ok (.aload_n 0, 1) := by decide +kernel
theorem d_Mdl_changeMemory_1 : decode b_Mdl_changeMemory 1 = .ok (.bipush 32, 2) := by decide +kernel
theorem d_Mdl_changeMemory_3 : decode b_Mdl_changeMemory 3 = .ok (.invokevirtual 67, 3) := by decide +kernel
theorem d_Mdl_changeMemory_6 : decode b_Mdl_changeMemory 6 = .ok (.istore_n 3, 1) := by decide +kernel
theorem d_Mdl_changeMemory_7 : decode b_Mdl_changeMemory 7 = .ok (.iload_n 2, 1) := by decide +kernel
theorem d_Mdl_changeMemory_8 : decode b_Mdl_changeMemory 8 = .ok (.ifCond .eq 22, 3) := by decide +kernel
theorem d_Mdl_changeMemory_11 : decode b_Mdl_changeMemory 11 = .ok (.aload_n 0, 1) := by decide +kernel
theorem d_Mdl_changeMemory_12 : decode b_Mdl_changeMemory 12 = .ok (.aload_n 0, 1) := by decide +kernel
theorem d_Mdl_changeMemory_13 : decode b_Mdl_changeMemory 13 = .ok (.getfield 102, 3) := by decide +kernel
theorem d_Mdl_changeMemory_16 : decode b_Mdl_changeMemory 16 = .ok (.bipush 16, 2) := by decide +kernel
theorem d_Mdl_changeMemory_18 : decode b_Mdl_changeMemory 18 = .ok (.ishl, 1) := by decide +kernel
theorem d_Mdl_changeMemory_19 : decode b_Mdl_changeMemory 19 = .ok (.aload_n 0, 1) := by decide +kernel
theorem d_Mdl_changeMemory_20 : decode b_Mdl_changeMemory 20 = .ok (.invokevirtual 64, 3) := by decide +kernel
theorem d_Mdl_changeMemory_23 : decode b_Mdl_changeMemory 23 = .ok (.iadd, 1) := by decide +kernel
theorem d_Mdl_changeMemory_24 : decode b_Mdl_changeMemory 24 = .ok (.invokevirtual 105, 3) := by decide +kernel
theorem d_Mdl_changeMemory_27 : decode b_Mdl_changeMemory 27 = .ok (.goto 8, 3) := by decide +kernel
theorem d_Mdl_changeMemory_30 : decode b_Mdl_changeMemory 30 = .ok (.aload_n 0, 1) := by decide +kernel
theorem d_Mdl_changeMemory_31 : decode b_Mdl_changeMemory 31 = .ok (.iconst 0, 1) := by decide +kernel
theorem d_Mdl_changeMemory_32 : decode b_Mdl_changeMemory 32 = .ok (.invokevirtual 99, 3) := by decide +kernel
theorem d_Mdl_changeMemory_35 : decode b_Mdl_changeMemory 35 = .ok (.aload_n 0, 1) := by decide +kernel
theorem d_Mdl_changeMemory_36 : decode b_Mdl_changeMemory 36 = .ok (.aload_n 0, 1) := by decide +kernel
theorem d_Mdl_changeMemory_37 : decode b_Mdl_changeMemory 37 = .ok (.iload_n 1, 1) := by decide +kernel
theorem d_Mdl_changeMemory_38 : decode b_Mdl_changeMemory 38 = .ok (.aload_n 0, 1) := by decide +kernel
theorem d_Mdl_changeMemory_39 : decode b_Mdl_changeMemory 39 = .ok (.iload_n 3, 1) := by decide +kernel
theorem d_Mdl_changeMemory_40 : decode b_Mdl_changeMemory 40 = .ok (.invokevirtual 133, 3) := by decide +kernel
theorem d_Mdl_changeMemory_43 : decode b_Mdl_changeMemory 43 = .ok (.iload_n 3, 1) := by decide +kernel
theorem d_Mdl_changeMemory_44 : decode b_Mdl_changeMemory 44 = .ok (.invokevirtual 143, 3) := by decide +kernel
theorem d_Mdl_changeMemory_47 : decode b_Mdl_changeMemory 47 = .ok (.iload_n 3, 1) := by decide +kernel
theorem d_Mdl_changeMemory_48 : decode b_Mdl_changeMemory 48 = .ok (.invokevirtual 126, 3) := by decide +kernel
theorem d_Mdl_changeMemory_51 : decode b_Mdl_changeMemory 51 = .ok (.return_, 1) := by decide +kernel
theorem d_Mdl_change_0 : decode b_Mdl_change 0 = .ok (.iload_n 1, 1) := by decide +kernel
theorem d_Mdl_change_1 : decode b_Mdl_change 1 = .ok (.lookupswitch 327 #[(6, 159), (10, 239), (26, 195), (38, 168), (42, 261), (58, 217), (70, 177), (74, 283), (102, 186), (106, 305), (198, 141), (206, 150), (230, 123), (238, 132)], 123) := by decide +kernel
theorem d_Mdl_change_124 : decode b_Mdl_change 124 = .ok (.aload_n 0, 1) := by decide +kernel
theorem d_Mdl_change_125 : decode b_Mdl_change 125 = .ok (.iconst 0, 1) := by decide +kernel
theorem d_Mdl_change_126 : decode b_Mdl_change 126 = .ok (.iconst 0, 1) := by decide +kernel
theorem d_Mdl_change_127 : decode b_Mdl_change 127 = .ok (.invokevirtual 147, 3) := by decide +kernel
theorem d_Mdl_change_130 : decode b_Mdl_change 130 = .ok (.goto 200, 3) := by decide +kernel
theorem d_Mdl_change_133 : decode b_Mdl_change 133 = .ok (.aload_n 0, 1) := by decide +kernel
theorem d_Mdl_change_134 : decode b_Mdl_change 134 = .ok (.iconst 0, 1) := by decide +kernel
theorem d_Mdl_change_135 : decode b_Mdl_change 135 = .ok (.iconst 1, 1) := by decide +kernel
theorem d_Mdl_change_136 : decode b_Mdl_change 136 = .ok (.invokevirtual 147, 3) := by decide +kernel
theorem d_Mdl_change_139 : decode b_Mdl_change 139 = .ok (.goto 191, 3) := by decide +kernel
theorem d_Mdl_change_142 : decode b_Mdl_change 142 = .ok (.aload_n 0, 1) := by decide +kernel
theorem d_Mdl_change_143 : decode b_Mdl_change 143 = .ok (.iconst 1, 1) := by decide +kernel
theorem d_Mdl_change_144 : decode b_Mdl_change 144 = .ok (.iconst 0, 1) := by decide +kernel
theorem d_Mdl_change_145 : decode b_Mdl_change 145 = .ok (.invokevirtual 147, 3) := by decide +kernel
theorem d_Mdl_change_148 : decode b_Mdl_change 148 = .ok (.goto 182, 3) := by decide +kernel
theorem d_Mdl_change_151 : decode b_Mdl_change 151 = .ok (.aload_n 0, 1) := by decide +kernel
theorem d_Mdl_change_152 : decode b_Mdl_change 152 = .ok (.iconst 1, 1) := by decide +kernel
theorem d_Mdl_change_153 : decode b_Mdl_change 153 = .ok (.iconst 1, 1) := by decide +kernel
theorem d_Mdl_change_154 : decode b_Mdl_change 154 = .ok (.invokevirtual 147, 3) := by decide +kernel
theorem d_Mdl_change_157 : decode b_Mdl_change 157 = .ok (.goto 173, 3) := by decide +kernel
theorem d_Mdl_change_160 : decode b_Mdl_change 160 = .ok (.aload_n 0, 1) := by decide +kernel
theorem d_Mdl_change_161 : decode b_Mdl_change 161 = .ok (.iconst 2, 1) := by decide +kernel
theorem d_Mdl_change_162 : decode b_Mdl_change 162 = .ok (.iconst 0, 1) := by decide +kernel
theorem d_Mdl_change_163 : decode b_Mdl_change 163 = .ok (.invokevirtual 147, 3) := by decide +kernel
theorem d_Mdl_change_166 : decode b_Mdl_change 166 = .ok (.goto 164, 3) := by decide +kernel
theorem d_Mdl_change_169 : decode b_Mdl_change 169 = .ok (.aload_n 0, 1) := by decide +kernel
theorem d_Mdl_change_170 : decode b_Mdl_change 170 = .ok (.iconst 3, 1) := by decide +kernel
theorem d_Mdl_change_171 : decode b_Mdl_change 171 = .ok (.iconst 0, 1) := by decide +kernel
theorem d_Mdl_change_172 : decode b_Mdl_change 172 = .ok (.invokevirtual 147, 3) := by decide +kernel
theorem d_Mdl_change_175 : decode b_Mdl_change 175 = .ok (.goto 155, 3) := by decide +kernel
theorem d_Mdl_change_178 : decode b_Mdl_change 178 = .ok (.aload_n 0, 1) := by decide +kernel
theorem d_Mdl_change_179 : decode b_Mdl_change 179 = .ok (.iconst 4, 1) := by decide +kernel
theorem d_Mdl_change_180 : decode b_Mdl_change 180 = .ok (.iconst 0, 1) := by decide +kernel
theorem d_Mdl_change_181 : decode b_Mdl_change 181 = .ok (.invokevirtual 147, 3) := by decide +kernel
theorem d_Mdl_change_184 : decode b_Mdl_change 184 = .ok (.goto 146, 3) := by decide +kernel
theorem d_Mdl_change_187 : decode b_Mdl_change 187 = .ok (.aload_n 0, 1) := by decide +kernel
theorem d_Mdl_change_188 : decode b_Mdl_change 188 = .ok (.iconst 5, 1) := by decide +kernel
theorem d_Mdl_change_189 : decode b_Mdl_change 189 = .ok (.iconst 0, 1) := by decide +kernel
theorem d_Mdl_change_190 : decode b_Mdl_change 190 = .ok (.invokevirtual 147, 3) := by decide +kernel
theorem d_Mdl_change_193 : decode b_Mdl_change 193 = .ok (.goto 137, 3) := by decide +kernel
theorem d_Mdl_change_196 : decode b_Mdl_change 196 = .ok (.aload_n 0, 1) := by decide +kernel
theorem d_Mdl_change_197 : decode b_Mdl_change 197 = .ok (.aload_n 0, 1) := by decide +kernel
theorem d_Mdl_change_198 : decode b_Mdl_change 198 = .ok (.iconst 0, 1) := by decide +kernel
theorem d_Mdl_change_199 : decode b_Mdl_change 199 = .ok (.aload_n 0, 1) := by decide +kernel
theorem d_Mdl_change_200 : decode b_Mdl_change 200 = .ok (.invokevirtual 114, 3) := by decide +kernel
theorem d_Mdl_change_203 : decode b_Mdl_change 203 = .ok (.aload_n 0, 1) := by decide +kernel
theorem d_Mdl_change_204 : decode b_Mdl_change 204 = .ok (.bipush 32, 2) := by decide +kernel
theorem d_Mdl_change_206 : decode b_Mdl_change 206 = .ok (.invokevirtual 67, 3) := by decide +kernel
theorem d_Mdl_change_209 : decode b_Mdl_change 209 = .ok (.invokevirtual 143, 3) := by decide +kernel
theorem d_Mdl_change_212 : decode b_Mdl_change 212 = .ok (.invokevirtual 120, 3) := by decide +kernel
theorem d_Mdl_change_215 : decode b_Mdl_change 215 = .ok (.goto 115, 3) := by decide +kernel
theorem d_Mdl_change_218 : decode b_Mdl_change 218 = .ok (.aload_n 0, 1) := by decide +kernel
theorem d_Mdl_change_219 : decode b_Mdl_change 219 = .ok (.aload_n 0, 1) := by decide +kernel
theorem d_Mdl_change_220 : decode b_Mdl_change 220 = .ok (.iconst 1, 1) := by decide +kernel
theorem d_Mdl_change_221 : decode b_Mdl_change 221 = .ok (.aload_n 0, 1) := by decide +kernel
theorem d_Mdl_change_222 : decode b_Mdl_change 222 = .ok (.invokevirtual 114, 3) := by decide +kernel
theorem d_Mdl_change_225 : decode b_Mdl_change 225 = .ok (.aload_n 0, 1) := by decide +kernel
theorem d_Mdl_change_226 : decode b_Mdl_change 226 = .ok (.bipush 32, 2) := by decide +kernel
theorem d_Mdl_change_228 : decode b_Mdl_change 228 = .ok (.invokevirtual 67, 3) := by decide +kernel
theorem d_Mdl_change_231 : decode b_Mdl_change 231 = .ok (.invokevirtual 143, 3) := by decide +kernel
theorem d_Mdl_change_234 : decode b_Mdl_change 234 = .ok (.invokevirtual 120, 3) := by decide +kernel
theorem d_Mdl_change_237 : decode b_Mdl_change 237 = .ok (.goto 93, 3) := by decide +kernel
theorem d_Mdl_change_240 : decode b_Mdl_change 240 = .ok (.aload_n 0, 1) := by decide +kernel
theorem d_Mdl_change_241 : decode b_Mdl_change 241 = .ok (.aload_n 0, 1) := by decide +kernel
theorem d_Mdl_change_242 : decode b_Mdl_change 242 = .ok (.iconst 2, 1) := by decide +kernel
theorem d_Mdl_change_243 : decode b_Mdl_change 243 = .ok (.aload_n 0, 1) := by decide +kernel
theorem d_Mdl_change_244 : decode b_Mdl_change 244 = .ok (.invokevirtual 114, 3) := by decide +kernel
theorem d_Mdl_change_247 : decode b_Mdl_change 247 = .ok (.aload_n 0, 1) := by decide +kernel
theorem d_Mdl_change_248 : decode b_Mdl_change 248 = .ok (.bipush 32, 2) := by decide +kernel
theorem d_Mdl_change_250 : decode b_Mdl_change 250 = .ok (.invokevirtual 67, 3) := by decide +kernel
theorem d_Mdl_change_253 : decode b_Mdl_change 253 = .ok (.invokevirtual 143, 3) := by decide +kernel
theorem d_Mdl_change_256 : decode b_Mdl_change 256 = .ok (.invokevirtual 120, 3) := by decide +kernel
theorem d_Mdl_change_259 : decode b_Mdl_change 259 = .ok (.goto 71, 3) := by decide +kernel
theorem d_Mdl_change_262 : decode b_Mdl_change 262 = .ok (.aload_n 0, 1) := by decide +kernel
theorem d_Mdl_change_263 : decode b_Mdl_change 263 = .ok (.aload_n 0, 1) := by decide +kernel
theorem d_Mdl_change_264 : decode b_Mdl_change 264 = .ok (.iconst 3, 1) := by decide +kernel
theorem d_Mdl_change_265 : decode b_Mdl_change 265 = .ok (.aload_n 0, 1) := by decide +kernel
theorem d_Mdl_change_266 : decode b_Mdl_change 266 = .ok (.invokevirtual 114, 3) := by decide +kernel
theorem d_Mdl_change_269 : decode b_Mdl_change 269 = .ok (.aload_n 0, 1) := by decide +kernel
theorem d_Mdl_change_270 : decode b_Mdl_change 270 = .ok (.bipush 32, 2) := by decide +kernel
theorem d_Mdl_change_272 : decode b_Mdl_change 272 = .ok (.invokevirtual 67, 3) := by decide +kernel
theorem d_Mdl_change_275 : decode b_Mdl_change 275 = .ok (.invokevirtual 143, 3) := by decide +kernel
theorem d_Mdl_change_278 : decode b_Mdl_change 278 = .ok (.invokevirtual 120, 3) := by decide +kernel
theorem d_Mdl_change_281 : decode b_Mdl_change 281 = .ok (.goto 49, 3) := by decide +kernel
theorem d_Mdl_change_284 : decode b_Mdl_change 284 = .ok (.aload_n 0, 1) := by decide +kernel
theorem d_Mdl_change_285 : decode b_Mdl_change 285 = .ok (.aload_n 0, 1) := by decide +kernel
theorem d_Mdl_change_286 : decode b_Mdl_change 286 = .ok (.iconst 4, 1) := by decide +kernel
theorem d_Mdl_change_287 : decode b_Mdl_change 287 = .ok (.aload_n 0, 1) := by decide +kernel
theorem d_Mdl_change_288 : decode b_Mdl_change 288 = .ok (.invokevirtual 114, 3) := by decide +kernel
theorem d_Mdl_change_291 : decode b_Mdl_change 291 = .ok (.aload_n 0, 1) := by decide +kernel
theorem d_Mdl_change_292 : decode b_Mdl_change 292 = .ok (.bipush 32, 2) := by decide +kernel
theorem d_Mdl_change_294 : decode b_Mdl_change 294 = .ok (.invokevirtual 67, 3) := by decide +kernel
theorem d_Mdl_change_297 : decode b_Mdl_change 297 = .ok (.invokevirtual 143, 3) := by decide +kernel
theorem d_Mdl_change_300 : decode b_Mdl_change 300 = .ok (.invokevirtual 120, 3) := by decide +kernel
theorem d_Mdl_change_303 : decode b_Mdl_change 303 = .ok (.goto 27, 3) := by decide +kernel
theorem d_Mdl_change_306 : decode b_Mdl_change 306 = .ok (.aload_n 0, 1) := by decide +kernel
theorem d_Mdl_change_307 : decode b_Mdl_change 307 = .ok (.aload_n 0, 1) := by decide +kernel
theorem d_Mdl_change_308 : decode b_Mdl_change 308 = .ok (.iconst 5, 1) := by decide +kernel
theorem d_Mdl_change_309 : decode b_Mdl_change 309 = .ok (.aload_n 0, 1) := by decide +kernel
theorem d_Mdl_change_310 : decode b_Mdl_change 310 = .ok (.invokevirtual 114, 3) := by decide +kernel
theorem d_Mdl_change_313 : decode b_Mdl_change 313 = .ok (.aload_n 0, 1) := by decide +kernel
theorem d_Mdl_change_314 : decode b_Mdl_change 314 = .ok (.bipush 32, 2) := by decide +kernel
theorem d_Mdl_change_316 : decode b_Mdl_change 316 = .ok (.invokevirtual 67, 3) := by decide +kernel
theorem d_Mdl_change_319 : decode b_Mdl_change 319 = .ok (.invokevirtual 143, 3) := by decide +kernel
theorem d_Mdl_change_322 : decode b_Mdl_change 322 = .ok (.invokevirtual 120, 3) := by decide +kernel
theorem d_Mdl_change_325 : decode b_Mdl_change 325 = .ok (.goto 5, 3) := by decide +kernel
theorem d_Mdl_change_328 : decode b_Mdl_change 328 = .ok (.iconst 0, 1) := by decide +kernel
theorem d_Mdl_change_329 : decode b_Mdl_change 329 = .ok (.ireturn, 1) := by decide +kernel
theorem d_Mdl_change_330 : decode b_Mdl_change 330 = .ok (.iconst 1, 1) := by decide +kernel
theorem d_Mdl_change_331 : decode b_Mdl_change 331 = .ok (.ireturn, 1) := by decide +kernel
theorem d_Mdl_findIndex_0 : decode b_Mdl_findIndex 0 = .ok (.iload_n 1, 1) := by decide +kernel
theorem d_Mdl_findIndex_1 : decode b_Mdl_findIndex 1 = .ok (.ifCond .eq 22, 3) := by decide +kernel
theorem d_Mdl_findIndex_4 : decode b_Mdl_findIndex 4 = .ok (.aload_n 0, 1) := by decide +kernel
theorem d_Mdl_findIndex_5 : decode b_Mdl_findIndex 5 = .ok (.aload_n 0, 1) := by decide +kernel
theorem d_Mdl_findIndex_6 : decode b_Mdl_findIndex 6 = .ok (.getfield 102, 3) := by decide +kernel
theorem d_Mdl_findIndex_9 : decode b_Mdl_findIndex 9 = .ok (.bipush 16, 2) := by decide +kernel
theorem d_Mdl_findIndex_11 : decode b_Mdl_findIndex 11 = .ok (.ishl, 1) := by decide +kernel
theorem d_Mdl_findIndex_12 : decode b_Mdl_findIndex 12 = .ok (.aload_n 0, 1) := by decide +kernel
theorem d_Mdl_findIndex_13 : decode b_Mdl_findIndex 13 = .ok (.invokevirtual 64, 3) := by decide +kernel
theorem d_Mdl_findIndex_16 : decode b_Mdl_findIndex 16 = .ok (.iadd, 1) := by decide +kernel
theorem d_Mdl_findIndex_17 : decode b_Mdl_findIndex 17 = .ok (.invokevirtual 105, 3) := by decide +kernel
theorem d_Mdl_findIndex_20 : decode b_Mdl_findIndex 20 = .ok (.goto 8, 3) := by decide +kernel
theorem d_Mdl_findIndex_23 : decode b_Mdl_findIndex 23 = .ok (.aload_n 0, 1) := by decide +kernel
theorem d_Mdl_findIndex_24 : decode b_Mdl_findIndex 24 = .ok (.iconst 0, 1) := by decide +kernel
theorem d_Mdl_findIndex_25 : decode b_Mdl_findIndex 25 = .ok (.invokevirtual 99, 3) := by decide +kernel
theorem d_Mdl_findIndex_28 : decode b_Mdl_findIndex 28 = .ok (.return_, 1) := by decide +kernel
theorem d_Mdl_indexOperand_0 : decode b_Mdl_indexOperand 0 = .ok (.iload_n 1, 1) := by decide +kernel
theorem d_Mdl_indexOperand_1 : decode b_Mdl_indexOperand 1 = .ok (.bipush 15, 2) := by decide +kernel
theorem d_Mdl_indexOperand_3 : decode b_Mdl_indexOperand 3 = .ok (.iand, 1) := by decide +kernel
theorem d_Mdl_indexOperand_4 : decode b_Mdl_indexOperand 4 = .ok (.ifCond .eq 11, 3) := by decide +kernel
theorem d_Mdl_indexOperand_7 : decode b_Mdl_indexOperand 7 = .ok (.iload_n 1, 1) := by decide +kernel
theorem d_Mdl_indexOperand_8 : decode b_Mdl_indexOperand 8 = .ok (.bipush 15, 2) := by decide +kernel
theorem d_Mdl_indexOperand_10 : decode b_Mdl_indexOperand 10 = .ok (.iand, 1) := by decide +kernel
theorem d_Mdl_indexOperand_11 : decode b_Mdl_indexOperand 11 = .ok (.iconst 2, 1) := by decide +kernel
theorem d_Mdl_indexOperand_12 : decode b_Mdl_indexOperand 12 = .ok (.if_icmp .ne 14, 3) := by decide +kernel
theorem d_Mdl_indexOperand_15 : decode b_Mdl_indexOperand 15 = .ok (.aload_n 0, 1) := by decide +kernel
theorem d_Mdl_indexOperand_16 : decode b_Mdl_indexOperand 16 = .ok (.aload_n 0, 1) := by decide +kernel
theorem d_Mdl_indexOperand_17 : decode b_Mdl_indexOperand 17 = .ok (.bipush 16, 2) := by decide +kernel
theorem d_Mdl_indexOperand_19 : decode b_Mdl_indexOperand 19 = .ok (.invokevirtual 67, 3) := by decide +kernel
theorem d_Mdl_indexOperand_22 : decode b_Mdl_indexOperand 22 = .ok (.invokevirtual 129, 3) := by decide +kernel
theorem d_Mdl_indexOperand_25 : decode b_Mdl_indexOperand 25 = .ok (.ireturn, 1) := by decide +kernel
theorem d_Mdl_indexOperand_26 : decode b_Mdl_indexOperand 26 = .ok (.aload_n 0, 1) := by decide +kernel
theorem d_Mdl_indexOperand_27 : decode b_Mdl_indexOperand 27 = .ok (.iload_n 1, 1) := by decide +kernel
theorem d_Mdl_indexOperand_28 : decode b_Mdl_indexOperand 28 = .ok (.bipush 8, 2) := by decide +kernel
theorem d_Mdl_indexOperand_30 : decode b_Mdl_indexOperand 30 = .ok (.iand, 1) := by decide +kernel
theorem d_Mdl_indexOperand_31 : decode b_Mdl_indexOperand 31 = .ok (.ifCond .eq 7, 3) := by decide +kernel
theorem d_Mdl_indexOperand_34 : decode b_Mdl_indexOperand 34 = .ok (.iconst 1, 1) := by decide +kernel
theorem d_Mdl_indexOperand_35 : decode b_Mdl_indexOperand 35 = .ok (.goto 4, 3) := by decide +kernel
theorem d_Mdl_indexOperand_38 : decode b_Mdl_indexOperand 38 = .ok (.iconst 0, 1) := by decide +kernel
theorem d_Mdl_indexOperand_39 : decode b_Mdl_indexOperand 39 = .ok (.invokevirtual 150, 3) := by decide +kernel
theorem d_Mdl_indexOperand_42 : decode b_Mdl_indexOperand 42 = .ok (.aload_n 0, 1) := by decide +kernel
theorem d_Mdl_indexOperand_43 : decode b_Mdl_indexOperand 43 = .ok (.aload_n 0, 1) := by decide +kernel
theorem d_Mdl_indexOperand_44 : decode b_Mdl_indexOperand 44 = .ok (.bipush 16, 2) := by decide +kernel
theorem d_Mdl_indexOperand_46 : decode b_Mdl_indexOperand 46 = .ok (.invokevirtual 67, 3) := by decide +kernel
theorem d_Mdl_indexOperand_49 : decode b_Mdl_indexOperand 49 = .ok (.invokevirtual 133, 3) := by decide +kernel
theorem d_Mdl_indexOperand_52 : decode b_Mdl_indexOperand 52 = .ok (.ireturn, 1) := by decide +kernel
theorem d_Mdl_storeAt_0 : decode b_Mdl_storeAt 0 = .ok (.aload_n 0, 1) := by decide +kernel
theorem d_Mdl_storeAt_1 : decode b_Mdl_storeAt 1 = .ok (.iload_n 1, 1) := by decide +kernel
theorem d_Mdl_storeAt_2 : decode b_Mdl_storeAt 2 = .ok (.invokevirtual 150, 3) := by decide +kernel
theorem d_Mdl_storeAt_5 : decode b_Mdl_storeAt 5 = .ok (.aload_n 0, 1) := by decide +kernel
theorem d_Mdl_storeAt_6 : decode b_Mdl_storeAt 6 = .ok (.iload_n 2, 1) := by decide +kernel
theorem d_Mdl_storeAt_7 : decode b_Mdl_storeAt 7 = .ok (.iload_n 3, 1) := by decide +kernel
theorem d_Mdl_storeAt_8 : decode b_Mdl_storeAt 8 = .ok (.invokevirtual 126, 3) := by decide +kernel
theorem d_Mdl_storeAt_11 : decode b_Mdl_storeAt 11 = .ok (.return_, 1) := by decide +kernel
theorem d_Mdl_index_0 : decode b_Mdl_index 0 = .ok (.aload_n 0, 1) := by decide +kernel
theorem d_Mdl_index_1 : decode b_Mdl_index 1 = .ok (.bipush 16, 2) := by decide +kernel
theorem d_Mdl_index_3 : decode b_Mdl_index 3 = .ok (.invokevirtual 67, 3) := by decide +kernel
theorem d_Mdl_index_6 : decode b_Mdl_index 6 = .ok (.istore_n 2, 1) := by decide +kernel
theorem d_Mdl_index_7 : decode b_Mdl_index 7 = .ok (.iload_n 1, 1) := by decide +kernel
theorem d_Mdl_index_8 : decode b_Mdl_index 8 = .ok (.lookupswitch 378 #[(100, 276), (132, 250), (134, 224), (136, 360), (140, 263), (142, 237), (156, 291), (160, 173), (162, 156), (164, 173), (166, 156), (172, 173), (174, 156), (192, 207), (200, 324), (202, 342), (224, 190), (232, 306)], 156) := by decide +kernel
theorem d_Mdl_index_164 : decode b_Mdl_index 164 = .ok (.aload_n 0, 1) := by decide +kernel
theorem d_Mdl_index_165 : decode b_Mdl_index 165 = .ok (.aload_n 0, 1) := by decide +kernel
theorem d_Mdl_index_166 : decode b_Mdl_index 166 = .ok (.aload_n 0, 1) := by decide +kernel
theorem d_Mdl_index_167 : decode b_Mdl_index 167 = .ok (.iload_n 1, 1) := by decide +kernel
theorem d_Mdl_index_168 : decode b_Mdl_index 168 = .ok (.invokevirtual 154, 3) := by decide +kernel
theorem d_Mdl_index_171 : decode b_Mdl_index 171 = .ok (.iload_n 2, 1) := by decide +kernel
theorem d_Mdl_index_172 : decode b_Mdl_index 172 = .ok (.invokevirtual 117, 3) := by decide +kernel
theorem d_Mdl_index_175 : decode b_Mdl_index 175 = .ok (.putfield 83, 3) := by decide +kernel
theorem d_Mdl_index_178 : decode b_Mdl_index 178 = .ok (.goto 210, 3) := by decide +kernel
theorem d_Mdl_index_181 : decode b_Mdl_index 181 = .ok (.aload_n 0, 1) := by decide +kernel
theorem d_Mdl_index_182 : decode b_Mdl_index 182 = .ok (.aload_n 0, 1) := by decide +kernel
theorem d_Mdl_index_183 : decode b_Mdl_index 183 = .ok (.aload_n 0, 1) := by decide +kernel
theorem d_Mdl_index_184 : decode b_Mdl_index 184 = .ok (.iload_n 1, 1) := by decide +kernel
theorem d_Mdl_index_185 : decode b_Mdl_index 185 = .ok (.invokevirtual 154, 3) := by decide +kernel
theorem d_Mdl_index_188 : decode b_Mdl_index 188 = .ok (.iload_n 2, 1) := by decide +kernel
theorem d_Mdl_index_189 : decode b_Mdl_index 189 = .ok (.invokevirtual 117, 3) := by decide +kernel
theorem d_Mdl_index_192 : decode b_Mdl_index 192 = .ok (.putfield 86, 3) := by decide +kernel
theorem d_Mdl_index_195 : decode b_Mdl_index 195 = .ok (.goto 193, 3) := by decide +kernel
theorem d_Mdl_index_198 : decode b_Mdl_index 198 = .ok (.aload_n 0, 1) := by decide +kernel
theorem d_Mdl_index_199 : decode b_Mdl_index 199 = .ok (.aload_n 0, 1) := by decide +kernel
theorem d_Mdl_index_200 : decode b_Mdl_index 200 = .ok (.getfield 83, 3) := by decide +kernel
theorem d_Mdl_index_203 : decode b_Mdl_index 203 = .ok (.aload_n 0, 1) := by decide +kernel
theorem d_Mdl_index_204 : decode b_Mdl_index 204 = .ok (.iload_n 2, 1) := by decide +kernel
theorem d_Mdl_index_205 : decode b_Mdl_index 205 = .ok (.invokevirtual 129, 3) := by decide +kernel
theorem d_Mdl_index_208 : decode b_Mdl_index 208 = .ok (.iload_n 2, 1) := by decide +kernel
theorem d_Mdl_index_209 : decode b_Mdl_index 209 = .ok (.invokevirtual 139, 3) := by decide +kernel
theorem d_Mdl_index_212 : decode b_Mdl_index 212 = .ok (.goto 176, 3) := by decide +kernel
theorem d_Mdl_index_215 : decode b_Mdl_index 215 = .ok (.aload_n 0, 1) := by decide +kernel
theorem d_Mdl_index_216 : decode b_Mdl_index 216 = .ok (.aload_n 0, 1) := by decide +kernel
theorem d_Mdl_index_217 : decode b_Mdl_index 217 = .ok (.getfield 86, 3) := by decide +kernel
theorem d_Mdl_index_220 : decode b_Mdl_index 220 = .ok (.aload_n 0, 1) := by decide +kernel
theorem d_Mdl_index_221 : decode b_Mdl_index 221 = .ok (.iload_n 2, 1) := by decide +kernel
theorem d_Mdl_index_222 : decode b_Mdl_index 222 = .ok (.invokevirtual 129, 3) := by decide +kernel
theorem d_Mdl_index_225 : decode b_Mdl_index 225 = .ok (.iload_n 2, 1) := by decide +kernel
theorem d_Mdl_index_226 : decode b_Mdl_index 226 = .ok (.invokevirtual 139, 3) := by decide +kernel
theorem d_Mdl_index_229 : decode b_Mdl_index 229 = .ok (.goto 159, 3) := by decide +kernel
theorem d_Mdl_index_232 : decode b_Mdl_index 232 = .ok (.aload_n 0, 1) := by decide +kernel
theorem d_Mdl_index_233 : decode b_Mdl_index 233 = .ok (.iconst 0, 1) := by decide +kernel
theorem d_Mdl_index_234 : decode b_Mdl_index 234 = .ok (.aload_n 0, 1) := by decide +kernel
theorem d_Mdl_index_235 : decode b_Mdl_index 235 = .ok (.getfield 83, 3) := by decide +kernel
theorem d_Mdl_index_238 : decode b_Mdl_index 238 = .ok (.iload_n 2, 1) := by decide +kernel
theorem d_Mdl_index_239 : decode b_Mdl_index 239 = .ok (.invokevirtual 157, 3) := by decide +kernel
theorem d_Mdl_index_242 : decode b_Mdl_index 242 = .ok (.goto 146, 3) := by decide +kernel
theorem d_Mdl_index_245 : decode b_Mdl_index 245 = .ok (.aload_n 0, 1) := by decide +kernel
theorem d_Mdl_index_246 : decode b_Mdl_index 246 = .ok (.iconst 1, 1) := by decide +kernel
theorem d_Mdl_index_247 : decode b_Mdl_index 247 = .ok (.aload_n 0, 1) := by decide +kernel
theorem d_Mdl_index_248 : decode b_Mdl_index 248 = .ok (.getfield 83, 3) := by decide +kernel
theorem d_Mdl_index_251 : decode b_Mdl_index 251 = .ok (.iload_n 2, 1) := by decide +kernel
theorem d_Mdl_index_252 : decode b_Mdl_index 252 = .ok (.invokevirtual 157, 3) := by decide +kernel
theorem d_Mdl_index_255 : decode b_Mdl_index 255 = .ok (.goto 133, 3) := by decide +kernel
theorem d_Mdl_index_258 : decode b_Mdl_index 258 = .ok (.aload_n 0, 1) := by decide +kernel
theorem d_Mdl_index_259 : decode b_Mdl_index 259 = .ok (.iconst 0, 1) := by decide +kernel
theorem d_Mdl_index_260 : decode b_Mdl_index 260 = .ok (.aload_n 0, 1) := by decide +kernel
theorem d_Mdl_index_261 : decode b_Mdl_index 261 = .ok (.getfield 86, 3) := by decide +kernel
theorem d_Mdl_index_264 : decode b_Mdl_index 264 = .ok (.iload_n 2, 1) := by decide +kernel
theorem d_Mdl_index_265 : decode b_Mdl_index 265 = .ok (.invokevirtual 157, 3) := by decide +kernel
theorem d_Mdl_index_268 : decode b_Mdl_index 268 = .ok (.goto 120, 3) := by decide +kernel
theorem d_Mdl_index_271 : decode b_Mdl_index 271 = .ok (.aload_n 0, 1) := by decide +kernel
theorem d_Mdl_index_272 : decode b_Mdl_index 272 = .ok (.iconst 1, 1) := by decide +kernel
theorem d_Mdl_index_273 : decode b_Mdl_index 273 = .ok (.aload_n 0, 1) := by decide +kernel
theorem d_Mdl_index_274 : decode b_Mdl_index 274 = .ok (.getfield 86, 3) := by decide +kernel
theorem d_Mdl_index_277 : decode b_Mdl_index 277 = .ok (.iload_n 2, 1) := by decide +kernel
theorem d_Mdl_index_278 : decode b_Mdl_index 278 = .ok (.invokevirtual 157, 3) := by decide +kernel
theorem d_Mdl_index_281 : decode b_Mdl_index 281 = .ok (.goto 107, 3) := by decide +kernel
theorem d_Mdl_index_284 : decode b_Mdl_index 284 = .ok (.aload_n 0, 1) := by decide +kernel
theorem d_Mdl_index_285 : decode b_Mdl_index 285 = .ok (.iconst 0, 1) := by decide +kernel
theorem d_Mdl_index_286 : decode b_Mdl_index 286 = .ok (.iconst 0, 1) := by decide +kernel
theorem d_Mdl_index_287 : decode b_Mdl_index 287 = .ok (.aload_n 0, 1) := by decide +kernel
theorem d_Mdl_index_288 : decode b_Mdl_index 288 = .ok (.bipush 32, 2) := by decide +kernel
theorem d_Mdl_index_290 : decode b_Mdl_index 290 = .ok (.invokevirtual 67, 3) := by decide +kernel
theorem d_Mdl_index_293 : decode b_Mdl_index 293 = .ok (.invokevirtual 157, 3) := by decide +kernel
theorem d_Mdl_index_296 : decode b_Mdl_index 296 = .ok (.goto 92, 3) := by decide +kernel
theorem d_Mdl_index_299 : decode b_Mdl_index 299 = .ok (.aload_n 0, 1) := by decide +kernel
theorem d_Mdl_index_300 : decode b_Mdl_index 300 = .ok (.iconst 1, 1) := by decide +kernel
theorem d_Mdl_index_301 : decode b_Mdl_index 301 = .ok (.iconst 0, 1) := by decide +kernel
theorem d_Mdl_index_302 : decode b_Mdl_index 302 = .ok (.aload_n 0, 1) := by decide +kernel
theorem d_Mdl_index_303 : decode b_Mdl_index 303 = .ok (.bipush 32, 2) := by decide +kernel
theorem d_Mdl_index_305 : decode b_Mdl_index 305 = .ok (.invokevirtual 67, 3) := by decide +kernel
theorem d_Mdl_index_308 : decode b_Mdl_index 308 = .ok (.invokevirtual 157, 3) := by decide +kernel
theorem d_Mdl_index_311 : decode b_Mdl_index 311 = .ok (.goto 77, 3) := by decide +kernel
theorem d_Mdl_index_314 : decode b_Mdl_index 314 = .ok (.aload_n 0, 1) := by decide +kernel
theorem d_Mdl_index_315 : decode b_Mdl_index 315 = .ok (.aload_n 0, 1) := by decide +kernel
theorem d_Mdl_index_316 : decode b_Mdl_index 316 = .ok (.aload_n 0, 1) := by decide +kernel
theorem d_Mdl_index_317 : decode b_Mdl_index 317 = .ok (.getfield 83, 3) := by decide +kernel
theorem d_Mdl_index_320 : decode b_Mdl_index 320 = .ok (.iconst 1, 1) := by decide +kernel
theorem d_Mdl_index_321 : decode b_Mdl_index 321 = .ok (.iadd, 1) := by decide +kernel
theorem d_Mdl_index_322 : decode b_Mdl_index 322 = .ok (.iload_n 2, 1) := by decide +kernel
theorem d_Mdl_index_323 : decode b_Mdl_index 323 = .ok (.invokevirtual 117, 3) := by decide +kernel
theorem d_Mdl_index_326 : decode b_Mdl_index 326 = .ok (.putfield 83, 3) := by decide +kernel
theorem d_Mdl_index_329 : decode b_Mdl_index 329 = .ok (.goto 59, 3) := by decide +kernel
theorem d_Mdl_index_332 : decode b_Mdl_index 332 = .ok (.aload_n 0, 1) := by decide +kernel
theorem d_Mdl_index_333 : decode b_Mdl_index 333 = .ok (.aload_n 0, 1) := by decide +kernel
theorem d_Mdl_index_334 : decode b_Mdl_index 334 = .ok (.aload_n 0, 1) := by decide +kernel
theorem d_Mdl_index_335 : decode b_Mdl_index 335 = .ok (.getfield 86, 3) := by decide +kernel
theorem d_Mdl_index_338 : decode b_Mdl_index 338 = .ok (.iconst 1, 1) := by decide +kernel
theorem d_Mdl_index_339 : decode b_Mdl_index 339 = .ok (.iadd, 1) := by decide +kernel
theorem d_Mdl_index_340 : decode b_Mdl_index 340 = .ok (.iload_n 2, 1) := by decide +kernel
theorem d_Mdl_index_341 : decode b_Mdl_index 341 = .ok (.invokevirtual 117, 3) := by decide +kernel
theorem d_Mdl_index_344 : decode b_Mdl_index 344 = .ok (.putfield 86, 3) := by decide +kernel
theorem d_Mdl_index_347 : decode b_Mdl_index 347 = .ok (.goto 41, 3) := by decide +kernel
theorem d_Mdl_index_350 : decode b_Mdl_index 350 = .ok (.aload_n 0, 1) := by decide +kernel
theorem d_Mdl_index_351 : decode b_Mdl_index 351 = .ok (.aload_n 0, 1) := by decide +kernel
theorem d_Mdl_index_352 : decode b_Mdl_index 352 = .ok (.aload_n 0, 1) := by decide +kernel
theorem d_Mdl_index_353 : decode b_Mdl_index 353 = .ok (.getfield 83, 3) := by decide +kernel
theorem d_Mdl_index_356 : decode b_Mdl_index 356 = .ok (.iconst 1, 1) := by decide +kernel
theorem d_Mdl_index_357 : decode b_Mdl_index 357 = .ok (.isub, 1) := by decide +kernel
theorem d_Mdl_index_358 : decode b_Mdl_index 358 = .ok (.iload_n 2, 1) := by decide +kernel
theorem d_Mdl_index_359 : decode b_Mdl_index 359 = .ok (.invokevirtual 117, 3) := by decide +kernel
theorem d_Mdl_index_362 : decode b_Mdl_index 362 = .ok (.putfield 83, 3) := by decide +kernel
theorem d_Mdl_index_365 : decode b_Mdl_index 365 = .ok (.goto 23, 3) := by decide +kernel
theorem d_Mdl_index_368 : decode b_Mdl_index 368 = .ok (.aload_n 0, 1) := by decide +kernel
theorem d_Mdl_index_369 : decode b_Mdl_index 369 = .ok (.aload_n 0, 1) := by decide +kernel
theorem d_Mdl_index_370 : decode b_Mdl_index 370 = .ok (.aload_n 0, 1) := by decide +kernel
theorem d_Mdl_index_371 : decode b_Mdl_index 371 = .ok (.getfield 86, 3) := by decide +kernel
theorem d_Mdl_index_374 : decode b_Mdl_index 374 = .ok (.iconst 1, 1) := by decide +kernel
theorem d_Mdl_index_375 : decode b_Mdl_index 375 = .ok (.isub, 1) := by decide +kernel
theorem d_Mdl_index_376 : decode b_Mdl_index 376 = .ok (.iload_n 2, 1) := by decide +kernel
theorem d_Mdl_index_377 : decode b_Mdl_index 377 = .ok (.invokevirtual 117, 3) := by decide +kernel
theorem d_Mdl_index_380 : decode b_Mdl_index 380 = .ok (.putfield 86, 3) := by decide +kernel
theorem d_Mdl_index_383 : decode b_Mdl_index 383 = .ok (.goto 5, 3) := by decide +kernel
theorem d_Mdl_index_386 : decode b_Mdl_index 386 = .ok (.iconst 0, 1) := by decide +kernel
theorem d_Mdl_index_387 : decode b_Mdl_index 387 = .ok (.ireturn, 1) := by decide +kernel
theorem d_Mdl_index_388 : decode b_Mdl_index 388 = .ok (.iconst 1, 1) := by decide +kernel
theorem d_Mdl_index_389 : decode b_Mdl_index 389 = .ok (.ireturn, 1) := by decide +kernel
theorem d_Mdl_transfer_0 : decode b_Mdl_transfer 0 = .ok (.aload_n 0, 1) := by decide +kernel
theorem d_Mdl_transfer_1 : decode b_Mdl_transfer 1 = .ok (.bipush 16, 2) := by decide +kernel
theorem d_Mdl_transfer_3 : decode b_Mdl_transfer 3 = .ok (.invokevirtual 67, 3) := by decide +kernel
theorem d_Mdl_transfer_6 : decode b_Mdl_transfer 6 = .ok (.istore_n 2, 1) := by decide +kernel
theorem d_Mdl_transfer_7 : decode b_Mdl_transfer 7 = .ok (.iload_n 1, 1) := by decide +kernel
theorem d_Mdl_transfer_8 : decode b_Mdl_transfer 8 = .ok (.lookupswitch 344 #[(27, 297), (59, 270), (91, 238), (123, 254), (138, 196), (152, 217), (154, 286), (155, 164), (168, 132), (170, 116), (186, 148), (187, 180), (235, 308)], 116) := by decide +kernel
theorem d_Mdl_transfer_124 : decode b_Mdl_transfer 124 = .ok (.aload_n 0, 1) := by decide +kernel
theorem d_Mdl_transfer_125 : decode b_Mdl_transfer 125 = .ok (.aload_n 0, 1) := by decide +kernel
theorem d_Mdl_transfer_126 : decode b_Mdl_transfer 126 = .ok (.aload_n 0, 1) := by decide +kernel
theorem d_Mdl_transfer_127 : decode b_Mdl_transfer 127 = .ok (.getfield 71, 3) := by decide +kernel
theorem d_Mdl_transfer_130 : decode b_Mdl_transfer 130 = .ok (.iload_n 2, 1) := by decide +kernel
theorem d_Mdl_transfer_131 : decode b_Mdl_transfer 131 = .ok (.invokevirtual 117, 3) := by decide +kernel
theorem d_Mdl_transfer_134 : decode b_Mdl_transfer 134 = .ok (.putfield 83, 3) := by decide +kernel
theorem d_Mdl_transfer_137 : decode b_Mdl_transfer 137 = .ok (.goto 217, 3) := by decide +kernel
theorem d_Mdl_transfer_140 : decode b_Mdl_transfer 140 = .ok (.aload_n 0, 1) := by decide +kernel
theorem d_Mdl_transfer_141 : decode b_Mdl_transfer 141 = .ok (.aload_n 0, 1) := by decide +kernel
theorem d_Mdl_transfer_142 : decode b_Mdl_transfer 142 = .ok (.aload_n 0, 1) := by decide +kernel
theorem d_Mdl_transfer_143 : decode b_Mdl_transfer 143 = .ok (.getfield 71, 3) := by decide +kernel
theorem d_Mdl_transfer_146 : decode b_Mdl_transfer 146 = .ok (.iload_n 2, 1) := by decide +kernel
theorem d_Mdl_transfer_147 : decode b_Mdl_transfer 147 = .ok (.invokevirtual 117, 3) := by decide +kernel
theorem d_Mdl_transfer_150 : decode b_Mdl_transfer 150 = .ok (.putfield 86, 3) := by decide +kernel
theorem d_Mdl_transfer_153 : decode b_Mdl_transfer 153 = .ok (.goto 201, 3) := by decide +kernel
theorem d_Mdl_transfer_156 : decode b_Mdl_transfer 156 = .ok (.aload_n 0, 1) := by decide +kernel
theorem d_Mdl_transfer_157 : decode b_Mdl_transfer 157 = .ok (.aload_n 0, 1) := by decide +kernel
theorem d_Mdl_transfer_158 : decode b_Mdl_transfer 158 = .ok (.aload_n 0, 1) := by decide +kernel
theorem d_Mdl_transfer_159 : decode b_Mdl_transfer 159 = .ok (.getfield 13, 3) := by decide +kernel
theorem d_Mdl_transfer_162 : decode b_Mdl_transfer 162 = .ok (.iload_n 2, 1) := by decide +kernel
theorem d_Mdl_transfer_163 : decode b_Mdl_transfer 163 = .ok (.invokevirtual 117, 3) := by decide +kernel
theorem d_Mdl_transfer_166 : decode b_Mdl_transfer 166 = .ok (.putfield 83, 3) := by decide +kernel
theorem d_Mdl_transfer_169 : decode b_Mdl_transfer 169 = .ok (.goto 185, 3) := by decide +kernel
theorem d_Mdl_transfer_172 : decode b_Mdl_transfer 172 = .ok (.aload_n 0, 1) := by decide +kernel
theorem d_Mdl_transfer_173 : decode b_Mdl_transfer 173 = .ok (.aload_n 0, 1) := by decide +kernel
theorem d_Mdl_transfer_174 : decode b_Mdl_transfer 174 = .ok (.aload_n 0, 1) := by decide +kernel
theorem d_Mdl_transfer_175 : decode b_Mdl_transfer 175 = .ok (.getfield 83, 3) := by decide +kernel
theorem d_Mdl_transfer_178 : decode b_Mdl_transfer 178 = .ok (.iload_n 2, 1) := by decide +kernel
theorem d_Mdl_transfer_179 : decode b_Mdl_transfer 179 = .ok (.invokevirtual 117, 3) := by decide +kernel
theorem d_Mdl_transfer_182 : decode b_Mdl_transfer 182 = .ok (.putfield 86, 3) := by decide +kernel
theorem d_Mdl_transfer_185 : decode b_Mdl_transfer 185 = .ok (.goto 169, 3) := by decide +kernel
theorem d_Mdl_transfer_188 : decode b_Mdl_transfer 188 = .ok (.aload_n 0, 1) := by decide +kernel
theorem d_Mdl_transfer_189 : decode b_Mdl_transfer 189 = .ok (.aload_n 0, 1) := by decide +kernel
theorem d_Mdl_transfer_190 : decode b_Mdl_transfer 190 = .ok (.aload_n 0, 1) := by decide +kernel
theorem d_Mdl_transfer_191 : decode b_Mdl_transfer 191 = .ok (.getfield 86, 3) := by decide +kernel
theorem d_Mdl_transfer_194 : decode b_Mdl_transfer 194 = .ok (.iload_n 2, 1) := by decide +kernel
theorem d_Mdl_transfer_195 : decode b_Mdl_transfer 195 = .ok (.invokevirtual 117, 3) := by decide +kernel
theorem d_Mdl_transfer_198 : decode b_Mdl_transfer 198 = .ok (.putfield 83, 3) := by decide +kernel
theorem d_Mdl_transfer_201 : decode b_Mdl_transfer 201 = .ok (.goto 153, 3) := by decide +kernel
theorem d_Mdl_transfer_204 : decode b_Mdl_transfer 204 = .ok (.aload_n 0, 1) := by decide +kernel
theorem d_Mdl_transfer_205 : decode b_Mdl_transfer 205 = .ok (.aload_n 0, 1) := by decide +kernel
theorem d_Mdl_transfer_206 : decode b_Mdl_transfer 206 = .ok (.aload_n 0, 1) := by decide +kernel
theorem d_Mdl_transfer_207 : decode b_Mdl_transfer 207 = .ok (.getfield 83, 3) := by decide +kernel
theorem d_Mdl_transfer_210 : decode b_Mdl_transfer 210 = .ok (.aload_n 0, 1) := by decide +kernel
theorem d_Mdl_transfer_211 : decode b_Mdl_transfer 211 = .ok (.bipush 32, 2) := by decide +kernel
theorem d_Mdl_transfer_213 : decode b_Mdl_transfer 213 = .ok (.invokevirtual 67, 3) := by decide +kernel
theorem d_Mdl_transfer_216 : decode b_Mdl_transfer 216 = .ok (.invokevirtual 117, 3) := by decide +kernel
theorem d_Mdl_transfer_219 : decode b_Mdl_transfer 219 = .ok (.invokevirtual 120, 3) := by decide +kernel
theorem d_Mdl_transfer_222 : decode b_Mdl_transfer 222 = .ok (.goto 132, 3) := by decide +kernel
theorem d_Mdl_transfer_225 : decode b_Mdl_transfer 225 = .ok (.aload_n 0, 1) := by decide +kernel
theorem d_Mdl_transfer_226 : decode b_Mdl_transfer 226 = .ok (.aload_n 0, 1) := by decide +kernel
theorem d_Mdl_transfer_227 : decode b_Mdl_transfer 227 = .ok (.aload_n 0, 1) := by decide +kernel
theorem d_Mdl_transfer_228 : decode b_Mdl_transfer 228 = .ok (.getfield 86, 3) := by decide +kernel
theorem d_Mdl_transfer_231 : decode b_Mdl_transfer 231 = .ok (.aload_n 0, 1) := by decide +kernel
theorem d_Mdl_transfer_232 : decode b_Mdl_transfer 232 = .ok (.bipush 32, 2) := by decide +kernel
theorem d_Mdl_transfer_234 : decode b_Mdl_transfer 234 = .ok (.invokevirtual 67, 3) := by decide +kernel
theorem d_Mdl_transfer_237 : decode b_Mdl_transfer 237 = .ok (.invokevirtual 117, 3) := by decide +kernel
theorem d_Mdl_transfer_240 : decode b_Mdl_transfer 240 = .ok (.invokevirtual 120, 3) := by decide +kernel
theorem d_Mdl_transfer_243 : decode b_Mdl_transfer 243 = .ok (.goto 111, 3) := by decide +kernel
theorem d_Mdl_transfer_246 : decode b_Mdl_transfer 246 = .ok (.aload_n 0, 1) := by decide +kernel
theorem d_Mdl_transfer_247 : decode b_Mdl_transfer 247 = .ok (.aload_n 0, 1) := by decide +kernel
theorem d_Mdl_transfer_248 : decode b_Mdl_transfer 248 = .ok (.aload_n 0, 1) := by decide +kernel
theorem d_Mdl_transfer_249 : decode b_Mdl_transfer 249 = .ok (.getfield 71, 3) := by decide +kernel
theorem d_Mdl_transfer_252 : decode b_Mdl_transfer 252 = .ok (.iconst 0, 1) := by decide +kernel
theorem d_Mdl_transfer_253 : decode b_Mdl_transfer 253 = .ok (.invokevirtual 117, 3) := by decide +kernel
theorem d_Mdl_transfer_256 : decode b_Mdl_transfer 256 = .ok (.putfield 89, 3) := by decide +kernel
theorem d_Mdl_transfer_259 : decode b_Mdl_transfer 259 = .ok (.goto 95, 3) := by decide +kernel
theorem d_Mdl_transfer_262 : decode b_Mdl_transfer 262 = .ok (.aload_n 0, 1) := by decide +kernel
theorem d_Mdl_transfer_263 : decode b_Mdl_transfer 263 = .ok (.aload_n 0, 1) := by decide +kernel
theorem d_Mdl_transfer_264 : decode b_Mdl_transfer 264 = .ok (.aload_n 0, 1) := by decide +kernel
theorem d_Mdl_transfer_265 : decode b_Mdl_transfer 265 = .ok (.getfield 89, 3) := by decide +kernel
theorem d_Mdl_transfer_268 : decode b_Mdl_transfer 268 = .ok (.iconst 0, 1) := by decide +kernel
theorem d_Mdl_transfer_269 : decode b_Mdl_transfer 269 = .ok (.invokevirtual 117, 3) := by decide +kernel
theorem d_Mdl_transfer_272 : decode b_Mdl_transfer 272 = .ok (.putfield 71, 3) := by decide +kernel
theorem d_Mdl_transfer_275 : decode b_Mdl_transfer 275 = .ok (.goto 79, 3) := by decide +kernel
theorem d_Mdl_transfer_278 : decode b_Mdl_transfer 278 = .ok (.aload_n 0, 1) := by decide +kernel
theorem d_Mdl_transfer_279 : decode b_Mdl_transfer 279 = .ok (.aload_n 0, 1) := by decide +kernel
theorem d_Mdl_transfer_280 : decode b_Mdl_transfer 280 = .ok (.aload_n 0, 1) := by decide +kernel
theorem d_Mdl_transfer_281 : decode b_Mdl_transfer 281 = .ok (.getfield 13, 3) := by decide +kernel
theorem d_Mdl_transfer_284 : decode b_Mdl_transfer 284 = .ok (.iconst 0, 1) := by decide +kernel
theorem d_Mdl_transfer_285 : decode b_Mdl_transfer 285 = .ok (.invokevirtual 117, 3) := by decide +kernel
theorem d_Mdl_transfer_288 : decode b_Mdl_transfer 288 = .ok (.putfield 71, 3) := by decide +kernel
theorem d_Mdl_transfer_291 : decode b_Mdl_transfer 291 = .ok (.goto 63, 3) := by decide +kernel
theorem d_Mdl_transfer_294 : decode b_Mdl_transfer 294 = .ok (.aload_n 0, 1) := by decide +kernel
theorem d_Mdl_transfer_295 : decode b_Mdl_transfer 295 = .ok (.aload_n 0, 1) := by decide +kernel
theorem d_Mdl_transfer_296 : decode b_Mdl_transfer 296 = .ok (.getfield 83, 3) := by decide +kernel
theorem d_Mdl_transfer_299 : decode b_Mdl_transfer 299 = .ok (.putfield 13, 3) := by decide +kernel
theorem d_Mdl_transfer_302 : decode b_Mdl_transfer 302 = .ok (.goto 52, 3) := by decide +kernel
theorem d_Mdl_transfer_305 : decode b_Mdl_transfer 305 = .ok (.aload_n 0, 1) := by decide +kernel
theorem d_Mdl_transfer_306 : decode b_Mdl_transfer 306 = .ok (.aload_n 0, 1) := by decide +kernel
theorem d_Mdl_transfer_307 : decode b_Mdl_transfer 307 = .ok (.getfield 71, 3) := by decide +kernel
theorem d_Mdl_transfer_310 : decode b_Mdl_transfer 310 = .ok (.putfield 13, 3) := by decide +kernel
theorem d_Mdl_transfer_313 : decode b_Mdl_transfer 313 = .ok (.goto 41, 3) := by decide +kernel
theorem d_Mdl_transfer_316 : decode b_Mdl_transfer 316 = .ok (.aload_n 0, 1) := by decide +kernel
theorem d_Mdl_transfer_317 : decode b_Mdl_transfer 317 = .ok (.aload_n 0, 1) := by decide +kernel
theorem d_Mdl_transfer_318 : decode b_Mdl_transfer 318 = .ok (.getfield 71, 3) := by decide +kernel
theorem d_Mdl_transfer_321 : decode b_Mdl_transfer 321 = .ok (.bipush 8, 2) := by decide +kernel
theorem d_Mdl_transfer_323 : decode b_Mdl_transfer 323 = .ok (.ishr, 1) := by decide +kernel
theorem d_Mdl_transfer_324 : decode b_Mdl_transfer 324 = .ok (.aload_n 0, 1) := by decide +kernel
theorem d_Mdl_transfer_325 : decode b_Mdl_transfer 325 = .ok (.getfield 71, 3) := by decide +kernel
theorem d_Mdl_transfer_328 : decode b_Mdl_transfer 328 = .ok (.sipush 255, 3) := by decide +kernel
theorem d_Mdl_transfer_331 : decode b_Mdl_transfer 331 = .ok (.iand, 1) := by decide +kernel
theorem d_Mdl_transfer_332 : decode b_Mdl_transfer 332 = .ok (.bipush 8, 2) := by decide +kernel
theorem d_Mdl_transfer_334 : decode b_Mdl_transfer 334 = .ok (.ishl, 1) := by decide +kernel
theorem d_Mdl_transfer_335 : decode b_Mdl_transfer 335 = .ok (.ior, 1) := by decide +kernel
theorem d_Mdl_transfer_336 : decode b_Mdl_transfer 336 = .ok (.putfield 71, 3) := by decide +kernel
theorem d_Mdl_transfer_339 : decode b_Mdl_transfer 339 = .ok (.aload_n 0, 1) := by decide +kernel
theorem d_Mdl_transfer_340 : decode b_Mdl_transfer 340 = .ok (.aload_n 0, 1) := by decide +kernel
theorem d_Mdl_transfer_341 : decode b_Mdl_transfer 341 = .ok (.getfield 71, 3) := by decide +kernel
theorem d_Mdl_transfer_344 : decode b_Mdl_transfer 344 = .ok (.iconst 1, 1) := by decide +kernel
theorem d_Mdl_transfer_345 : decode b_Mdl_transfer 345 = .ok (.invokevirtual 117, 3) := by decide +kernel
theorem d_Mdl_transfer_348 : decode b_Mdl_transfer 348 = .ok (.istore_n 3, 1) := by decide +kernel
theorem d_Mdl_transfer_349 : decode b_Mdl_transfer 349 = .ok (.goto 5, 3) := by decide +kernel
theorem d_Mdl_transfer_352 : decode b_Mdl_transfer 352 = .ok (.iconst 0, 1) := by decide +kernel
theorem d_Mdl_transfer_353 : decode b_Mdl_transfer 353 = .ok (.ireturn, 1) := by decide +kernel
theorem d_Mdl_transfer_354 : decode b_Mdl_transfer 354 = .ok (.iconst 1, 1) := by decide +kernel
theorem d_Mdl_transfer_355 : decode b_Mdl_transfer 355 = .ok (.ireturn, 1) := by decide +kernel
theorem d_Mdl_pushOf_0 : decode b_Mdl_pushOf 0 = .ok (.iload_n 2, 1) := by decide +kernel
theorem d_Mdl_pushOf_1 : decode b_Mdl_pushOf 1 = .ok (.ifCond .eq 11, 3) := by decide +kernel
theorem d_Mdl_pushOf_4 : decode b_Mdl_pushOf 4 = .ok (.aload_n 0, 1) := by decide +kernel
theorem d_Mdl_pushOf_5 : decode b_Mdl_pushOf 5 = .ok (.iload_n 1, 1) := by decide +kernel
theorem d_Mdl_pushOf_6 : decode b_Mdl_pushOf 6 = .ok (.invokevirtual 48, 3) := by decide +kernel
theorem d_Mdl_pushOf_9 : decode b_Mdl_pushOf 9 = .ok (.goto 8, 3) := by decide +kernel
theorem d_Mdl_pushOf_12 : decode b_Mdl_pushOf 12 = .ok (.aload_n 0, 1) := by decide +kernel
theorem d_Mdl_pushOf_13 : decode b_Mdl_pushOf 13 = .ok (.iload_n 1, 1) := by decide +kernel
theorem d_Mdl_pushOf_14 : decode b_Mdl_pushOf 14 = .ok (.invokevirtual 161, 3) := by decide +kernel
theorem d_Mdl_pushOf_17 : decode b_Mdl_pushOf 17 = .ok (.return_, 1) := by decide +kernel
theorem d_Mdl_pullOf_0 : decode b_Mdl_pullOf 0 = .ok (.aload_n 0, 1) := by decide +kernel
theorem d_Mdl_pullOf_1 : decode b_Mdl_pullOf 1 = .ok (.iload_n 1, 1) := by decide +kernel
theorem d_Mdl_pullOf_2 : decode b_Mdl_pullOf 2 = .ok (.ifCond .eq 10, 3) := by decide +kernel
theorem d_Mdl_pullOf_5 : decode b_Mdl_pullOf 5 = .ok (.aload_n 0, 1) := by decide +kernel
theorem d_Mdl_pullOf_6 : decode b_Mdl_pullOf 6 = .ok (.invokevirtual 51, 3) := by decide +kernel
theorem d_Mdl_pullOf_9 : decode b_Mdl_pullOf 9 = .ok (.goto 7, 3) := by decide +kernel
theorem d_Mdl_pullOf_12 : decode b_Mdl_pullOf 12 = .ok (.aload_n 0, 1) := by decide +kernel
theorem d_Mdl_pullOf_13 : decode b_Mdl_pullOf 13 = .ok (.invokevirtual 164, 3) := by decide +kernel
theorem d_Mdl_pullOf_16 : decode b_Mdl_pullOf 16 = .ok (.iload_n 1, 1) := by decide +kernel
theorem d_Mdl_pullOf_17 : decode b_Mdl_pullOf 17 = .ok (.invokevirtual 117, 3) := by decide +kernel
theorem d_Mdl_pullOf_20 : decode b_Mdl_pullOf 20 = .ok (.ireturn, 1) := by decide +kernel
theorem d_Mdl_stack_0 : decode b_Mdl_stack 0 = .ok (.iload_n 1, 1) := by decide +kernel
theorem d_Mdl_stack_1 : decode b_Mdl_stack 1 = .ok (.lookupswitch 315 #[(8, 174), (11, 207), (40, 304), (43, 280), (72, 123), (75, 196), (90, 157), (104, 229), (122, 263), (139, 185), (171, 292), (218, 140), (244, 218), (250, 246)], 123) := by decide +kernel
theorem d_Mdl_stack_124 : decode b_Mdl_stack 124 = .ok (.aload_n 0, 1) := by decide +kernel
theorem d_Mdl_stack_125 : decode b_Mdl_stack 125 = .ok (.aload_n 0, 1) := by decide +kernel
theorem d_Mdl_stack_126 : decode b_Mdl_stack 126 = .ok (.invokevirtual 114, 3) := by decide +kernel
theorem d_Mdl_stack_129 : decode b_Mdl_stack 129 = .ok (.aload_n 0, 1) := by decide +kernel
theorem d_Mdl_stack_130 : decode b_Mdl_stack 130 = .ok (.bipush 32, 2) := by decide +kernel
theorem d_Mdl_stack_132 : decode b_Mdl_stack 132 = .ok (.invokevirtual 67, 3) := by decide +kernel
theorem d_Mdl_stack_135 : decode b_Mdl_stack 135 = .ok (.invokevirtual 167, 3) := by decide +kernel
theorem d_Mdl_stack_138 : decode b_Mdl_stack 138 = .ok (.goto 180, 3) := by decide +kernel
theorem d_Mdl_stack_141 : decode b_Mdl_stack 141 = .ok (.aload_n 0, 1) := by decide +kernel
theorem d_Mdl_stack_142 : decode b_Mdl_stack 142 = .ok (.aload_n 0, 1) := by decide +kernel
theorem d_Mdl_stack_143 : decode b_Mdl_stack 143 = .ok (.getfield 83, 3) := by decide +kernel
theorem d_Mdl_stack_146 : decode b_Mdl_stack 146 = .ok (.aload_n 0, 1) := by decide +kernel
theorem d_Mdl_stack_147 : decode b_Mdl_stack 147 = .ok (.bipush 16, 2) := by decide +kernel
theorem d_Mdl_stack_149 : decode b_Mdl_stack 149 = .ok (.invokevirtual 67, 3) := by decide +kernel
theorem d_Mdl_stack_152 : decode b_Mdl_stack 152 = .ok (.invokevirtual 167, 3) := by decide +kernel
theorem d_Mdl_stack_155 : decode b_Mdl_stack 155 = .ok (.goto 163, 3) := by decide +kernel
theorem d_Mdl_stack_158 : decode b_Mdl_stack 158 = .ok (.aload_n 0, 1) := by decide +kernel
theorem d_Mdl_stack_159 : decode b_Mdl_stack 159 = .ok (.aload_n 0, 1) := by decide +kernel
theorem d_Mdl_stack_160 : decode b_Mdl_stack 160 = .ok (.getfield 86, 3) := by decide +kernel
theorem d_Mdl_stack_163 : decode b_Mdl_stack 163 = .ok (.aload_n 0, 1) := by decide +kernel
theorem d_Mdl_stack_164 : decode b_Mdl_stack 164 = .ok (.bipush 16, 2) := by decide +kernel
theorem d_Mdl_stack_166 : decode b_Mdl_stack 166 = .ok (.invokevirtual 67, 3) := by decide +kernel
theorem d_Mdl_stack_169 : decode b_Mdl_stack 169 = .ok (.invokevirtual 167, 3) := by decide +kernel
theorem d_Mdl_stack_172 : decode b_Mdl_stack 172 = .ok (.goto 146, 3) := by decide +kernel
theorem d_Mdl_stack_175 : decode b_Mdl_stack 175 = .ok (.aload_n 0, 1) := by decide +kernel
theorem d_Mdl_stack_176 : decode b_Mdl_stack 176 = .ok (.aload_n 0, 1) := by decide +kernel
theorem d_Mdl_stack_177 : decode b_Mdl_stack 177 = .ok (.getfield 17, 3) := by decide +kernel
theorem d_Mdl_stack_180 : decode b_Mdl_stack 180 = .ok (.invokevirtual 48, 3) := by decide +kernel
theorem d_Mdl_stack_183 : decode b_Mdl_stack 183 = .ok (.goto 135, 3) := by decide +kernel
theorem d_Mdl_stack_186 : decode b_Mdl_stack 186 = .ok (.aload_n 0, 1) := by decide +kernel
theorem d_Mdl_stack_187 : decode b_Mdl_stack 187 = .ok (.aload_n 0, 1) := by decide +kernel
theorem d_Mdl_stack_188 : decode b_Mdl_stack 188 = .ok (.getfield 102, 3) := by decide +kernel
theorem d_Mdl_stack_191 : decode b_Mdl_stack 191 = .ok (.invokevirtual 48, 3) := by decide +kernel
theorem d_Mdl_stack_194 : decode b_Mdl_stack 194 = .ok (.goto 124, 3) := by decide +kernel
theorem d_Mdl_stack_197 : decode b_Mdl_stack 197 = .ok (.aload_n 0, 1) := by decide +kernel
theorem d_Mdl_stack_198 : decode b_Mdl_stack 198 = .ok (.aload_n 0, 1) := by decide +kernel
theorem d_Mdl_stack_199 : decode b_Mdl_stack 199 = .ok (.getfield 55, 3) := by decide +kernel
theorem d_Mdl_stack_202 : decode b_Mdl_stack 202 = .ok (.invokevirtual 48, 3) := by decide +kernel
theorem d_Mdl_stack_205 : decode b_Mdl_stack 205 = .ok (.goto 113, 3) := by decide +kernel
theorem d_Mdl_stack_208 : decode b_Mdl_stack 208 = .ok (.aload_n 0, 1) := by decide +kernel
theorem d_Mdl_stack_209 : decode b_Mdl_stack 209 = .ok (.aload_n 0, 1) := by decide +kernel
theorem d_Mdl_stack_210 : decode b_Mdl_stack 210 = .ok (.getfield 89, 3) := by decide +kernel
theorem d_Mdl_stack_213 : decode b_Mdl_stack 213 = .ok (.invokevirtual 161, 3) := by decide +kernel
theorem d_Mdl_stack_216 : decode b_Mdl_stack 216 = .ok (.goto 102, 3) := by decide +kernel
theorem d_Mdl_stack_219 : decode b_Mdl_stack 219 = .ok (.aload_n 0, 1) := by decide +kernel
theorem d_Mdl_stack_220 : decode b_Mdl_stack 220 = .ok (.aload_n 0, 1) := by decide +kernel
theorem d_Mdl_stack_221 : decode b_Mdl_stack 221 = .ok (.invokevirtual 64, 3) := by decide +kernel
theorem d_Mdl_stack_224 : decode b_Mdl_stack 224 = .ok (.invokevirtual 161, 3) := by decide +kernel
theorem d_Mdl_stack_227 : decode b_Mdl_stack 227 = .ok (.goto 91, 3) := by decide +kernel
theorem d_Mdl_stack_230 : decode b_Mdl_stack 230 = .ok (.aload_n 0, 1) := by decide +kernel
theorem d_Mdl_stack_231 : decode b_Mdl_stack 231 = .ok (.aload_n 0, 1) := by decide +kernel
theorem d_Mdl_stack_232 : decode b_Mdl_stack 232 = .ok (.aload_n 0, 1) := by decide +kernel
theorem d_Mdl_stack_233 : decode b_Mdl_stack 233 = .ok (.bipush 32, 2) := by decide +kernel
theorem d_Mdl_stack_235 : decode b_Mdl_stack 235 = .ok (.invokevirtual 67, 3) := by decide +kernel
theorem d_Mdl_stack_238 : decode b_Mdl_stack 238 = .ok (.invokevirtual 170, 3) := by decide +kernel
theorem d_Mdl_stack_241 : decode b_Mdl_stack 241 = .ok (.invokevirtual 120, 3) := by decide +kernel
theorem d_Mdl_stack_244 : decode b_Mdl_stack 244 = .ok (.goto 74, 3) := by decide +kernel
theorem d_Mdl_stack_247 : decode b_Mdl_stack 247 = .ok (.aload_n 0, 1) := by decide +kernel
theorem d_Mdl_stack_248 : decode b_Mdl_stack 248 = .ok (.aload_n 0, 1) := by decide +kernel
theorem d_Mdl_stack_249 : decode b_Mdl_stack 249 = .ok (.aload_n 0, 1) := by decide +kernel
theorem d_Mdl_stack_250 : decode b_Mdl_stack 250 = .ok (.bipush 16, 2) := by decide +kernel
theorem d_Mdl_stack_252 : decode b_Mdl_stack 252 = .ok (.invokevirtual 67, 3) := by decide +kernel
theorem d_Mdl_stack_255 : decode b_Mdl_stack 255 = .ok (.invokevirtual 170, 3) := by decide +kernel
theorem d_Mdl_stack_258 : decode b_Mdl_stack 258 = .ok (.putfield 83, 3) := by decide +kernel
theorem d_Mdl_stack_261 : decode b_Mdl_stack 261 = .ok (.goto 57, 3) := by decide +kernel
theorem d_Mdl_stack_264 : decode b_Mdl_stack 264 = .ok (.aload_n 0, 1) := by decide +kernel
theorem d_Mdl_stack_265 : decode b_Mdl_stack 265 = .ok (.aload_n 0, 1) := by decide +kernel
theorem d_Mdl_stack_266 : decode b_Mdl_stack 266 = .ok (.aload_n 0, 1) := by decide +kernel
theorem d_Mdl_stack_267 : decode b_Mdl_stack 267 = .ok (.bipush 16, 2) := by decide +kernel
theorem d_Mdl_stack_269 : decode b_Mdl_stack 269 = .ok (.invokevirtual 67, 3) := by decide +kernel
theorem d_Mdl_stack_272 : decode b_Mdl_stack 272 = .ok (.invokevirtual 170, 3) := by decide +kernel
theorem d_Mdl_stack_275 : decode b_Mdl_stack 275 = .ok (.putfield 86, 3) := by decide +kernel
theorem d_Mdl_stack_278 : decode b_Mdl_stack 278 = .ok (.goto 40, 3) := by decide +kernel
theorem d_Mdl_stack_281 : decode b_Mdl_stack 281 = .ok (.aload_n 0, 1) := by decide +kernel
end
section
theorem d_Mdl_stack_282 : decode b_Mdl_stack 282 = .ok (.aload_n 0, 1) := by decide +kernel
theorem d_Mdl_stack_283 : decode b_Mdl_stack 283 = .ok (.iconst 0, 1) := by decide +kernel
theorem d_Mdl_stack_284 : decode b_Mdl_stack 284 = .ok (.invokevirtual 170, 3) := by decide +kernel
theorem d_Mdl_stack_287 : decode b_Mdl_stack 287 = .ok (.putfield 89, 3) := by decide +kernel
theorem d_Mdl_stack_290 : decode b_Mdl_stack 290 = .ok (.goto 28, 3) := by decide +kernel
theorem d_Mdl_stack_293 : decode b_Mdl_stack 293 = .ok (.aload_n 0, 1) := by decide +kernel
theorem d_Mdl_stack_294 : decode b_Mdl_stack 294 = .ok (.aload_n 0, 1) := by decide +kernel
theorem d_Mdl_stack_295 : decode b_Mdl_stack 295 = .ok (.iconst 1, 1) := by decide +kernel
theorem d_Mdl_stack_296 : decode b_Mdl_stack 296 = .ok (.invokevirtual 170, 3) := by decide +kernel
theorem d_Mdl_stack_299 : decode b_Mdl_stack 299 = .ok (.putfield 102, 3) := by decide +kernel
theorem d_Mdl_stack_302 : decode b_Mdl_stack 302 = .ok (.goto 16, 3) := by decide +kernel
theorem d_Mdl_stack_305 : decode b_Mdl_stack 305 = .ok (.aload_n 0, 1) := by decide +kernel
theorem d_Mdl_stack_306 : decode b_Mdl_stack 306 = .ok (.aload_n 0, 1) := by decide +kernel
theorem d_Mdl_stack_307 : decode b_Mdl_stack 307 = .ok (.invokevirtual 51, 3) := by decide +kernel
theorem d_Mdl_stack_310 : decode b_Mdl_stack 310 = .ok (.invokevirtual 173, 3) := by decide +kernel
theorem d_Mdl_stack_313 : decode b_Mdl_stack 313 = .ok (.goto 5, 3) := by decide +kernel
theorem d_Mdl_stack_316 : decode b_Mdl_stack 316 = .ok (.iconst 0, 1) := by decide +kernel
theorem d_Mdl_stack_317 : decode b_Mdl_stack 317 = .ok (.ireturn, 1) := by decide +kernel
theorem d_Mdl_stack_318 : decode b_Mdl_stack 318 = .ok (.iconst 1, 1) := by decide +kernel
theorem d_Mdl_stack_319 : decode b_Mdl_stack 319 = .ok (.ireturn, 1) := by decide +kernel
theorem d_Mdl_branch_0 : decode b_Mdl_branch 0 = .ok (.aload_n 0, 1) := by decide +kernel
theorem d_Mdl_branch_1 : decode b_Mdl_branch 1 = .ok (.invokevirtual 61, 3) := by decide +kernel
theorem d_Mdl_branch_4 : decode b_Mdl_branch 4 = .ok (.istore_n 2, 1) := by decide +kernel
theorem d_Mdl_branch_5 : decode b_Mdl_branch 5 = .ok (.iload_n 2, 1) := by decide +kernel
theorem d_Mdl_branch_6 : decode b_Mdl_branch 6 = .ok (.bipush 127, 2) := by decide +kernel
theorem d_Mdl_branch_8 : decode b_Mdl_branch 8 = .ok (.if_icmp .le 11, 3) := by decide +kernel
theorem d_Mdl_branch_11 : decode b_Mdl_branch 11 = .ok (.iload_n 2, 1) := by decide +kernel
theorem d_Mdl_branch_12 : decode b_Mdl_branch 12 = .ok (.sipush 256, 3) := by decide +kernel
theorem d_Mdl_branch_15 : decode b_Mdl_branch 15 = .ok (.isub, 1) := by decide +kernel
theorem d_Mdl_branch_16 : decode b_Mdl_branch 16 = .ok (.goto 4, 3) := by decide +kernel
theorem d_Mdl_branch_19 : decode b_Mdl_branch 19 = .ok (.iload_n 2, 1) := by decide +kernel
theorem d_Mdl_branch_20 : decode b_Mdl_branch 20 = .ok (.istore_n 2, 1) := by decide +kernel
theorem d_Mdl_branch_21 : decode b_Mdl_branch 21 = .ok (.aload_n 0, 1) := by decide +kernel
theorem d_Mdl_branch_22 : decode b_Mdl_branch 22 = .ok (.iload_n 1, 1) := by decide +kernel
theorem d_Mdl_branch_23 : decode b_Mdl_branch 23 = .ok (.ifCond .eq 15, 3) := by decide +kernel
theorem d_Mdl_branch_26 : decode b_Mdl_branch 26 = .ok (.aload_n 0, 1) := by decide +kernel
theorem d_Mdl_branch_27 : decode b_Mdl_branch 27 = .ok (.getfield 58, 3) := by decide +kernel
theorem d_Mdl_branch_30 : decode b_Mdl_branch 30 = .ok (.iload_n 2, 1) := by decide +kernel
theorem d_Mdl_branch_31 : decode b_Mdl_branch 31 = .ok (.iadd, 1) := by decide +kernel
theorem d_Mdl_branch_32 : decode b_Mdl_branch 32 = .ok (.ldc 35, 2) := by decide +kernel
theorem d_Mdl_branch_34 : decode b_Mdl_branch 34 = .ok (.iand, 1) := by decide +kernel
theorem d_Mdl_branch_35 : decode b_Mdl_branch 35 = .ok (.goto 7, 3) := by decide +kernel
theorem d_Mdl_branch_38 : decode b_Mdl_branch 38 = .ok (.aload_n 0, 1) := by decide +kernel
theorem d_Mdl_branch_39 : decode b_Mdl_branch 39 = .ok (.getfield 58, 3) := by decide +kernel
theorem d_Mdl_branch_42 : decode b_Mdl_branch 42 = .ok (.putfield 58, 3) := by decide +kernel
theorem d_Mdl_branch_45 : decode b_Mdl_branch 45 = .ok (.return_, 1) := by decide +kernel
theorem d_Mdl_call_0 : decode b_Mdl_call 0 = .ok (.aload_n 0, 1) := by decide +kernel
theorem d_Mdl_call_1 : decode b_Mdl_call 1 = .ok (.aload_n 0, 1) := by decide +kernel
theorem d_Mdl_call_2 : decode b_Mdl_call 2 = .ok (.getfield 58, 3) := by decide +kernel
theorem d_Mdl_call_5 : decode b_Mdl_call 5 = .ok (.iconst 1, 1) := by decide +kernel
theorem d_Mdl_call_6 : decode b_Mdl_call 6 = .ok (.isub, 1) := by decide +kernel
theorem d_Mdl_call_7 : decode b_Mdl_call 7 = .ok (.ldc 35, 2) := by decide +kernel
theorem d_Mdl_call_9 : decode b_Mdl_call 9 = .ok (.iand, 1) := by decide +kernel
theorem d_Mdl_call_10 : decode b_Mdl_call 10 = .ok (.invokevirtual 161, 3) := by decide +kernel
theorem d_Mdl_call_13 : decode b_Mdl_call 13 = .ok (.aload_n 0, 1) := by decide +kernel
theorem d_Mdl_call_14 : decode b_Mdl_call 14 = .ok (.iload_n 1, 1) := by decide +kernel
theorem d_Mdl_call_15 : decode b_Mdl_call 15 = .ok (.ldc 35, 2) := by decide +kernel
theorem d_Mdl_call_17 : decode b_Mdl_call 17 = .ok (.iand, 1) := by decide +kernel
theorem d_Mdl_call_18 : decode b_Mdl_call 18 = .ok (.putfield 58, 3) := by decide +kernel
theorem d_Mdl_call_21 : decode b_Mdl_call 21 = .ok (.return_, 1) := by decide +kernel
theorem d_Mdl_jump_0 : decode b_Mdl_jump 0 = .ok (.iload_n 1, 1) := by decide +kernel
theorem d_Mdl_jump_1 : decode b_Mdl_jump 1 = .ok (.lookupswitch 316 #[(16, 115), (32, 289), (48, 137), (76, 278), (80, 151), (96, 300), (112, 172), (128, 249), (130, 257), (144, 185), (176, 205), (208, 217), (240, 237)], 115) := by decide +kernel
theorem d_Mdl_jump_116 : decode b_Mdl_jump 116 = .ok (.aload_n 0, 1) := by decide +kernel
theorem d_Mdl_jump_117 : decode b_Mdl_jump 117 = .ok (.aload_n 0, 1) := by decide +kernel
theorem d_Mdl_jump_118 : decode b_Mdl_jump 118 = .ok (.sipush 128, 3) := by decide +kernel
theorem d_Mdl_jump_121 : decode b_Mdl_jump 121 = .ok (.invokevirtual 67, 3) := by decide +kernel
theorem d_Mdl_jump_124 : decode b_Mdl_jump 124 = .ok (.ifCond .ne 7, 3) := by decide +kernel
theorem d_Mdl_jump_127 : decode b_Mdl_jump 127 = .ok (.iconst 1, 1) := by decide +kernel
theorem d_Mdl_jump_128 : decode b_Mdl_jump 128 = .ok (.goto 4, 3) := by decide +kernel
theorem d_Mdl_jump_131 : decode b_Mdl_jump 131 = .ok (.iconst 0, 1) := by decide +kernel
theorem d_Mdl_jump_132 : decode b_Mdl_jump 132 = .ok (.invokevirtual 176, 3) := by decide +kernel
theorem d_Mdl_jump_135 : decode b_Mdl_jump 135 = .ok (.goto 188, 3) := by decide +kernel
theorem d_Mdl_jump_138 : decode b_Mdl_jump 138 = .ok (.aload_n 0, 1) := by decide +kernel
theorem d_Mdl_jump_139 : decode b_Mdl_jump 139 = .ok (.aload_n 0, 1) := by decide +kernel
theorem d_Mdl_jump_140 : decode b_Mdl_jump 140 = .ok (.sipush 128, 3) := by decide +kernel
theorem d_Mdl_jump_143 : decode b_Mdl_jump 143 = .ok (.invokevirtual 67, 3) := by decide +kernel
theorem d_Mdl_jump_146 : decode b_Mdl_jump 146 = .ok (.invokevirtual 176, 3) := by decide +kernel
theorem d_Mdl_jump_149 : decode b_Mdl_jump 149 = .ok (.goto 174, 3) := by decide +kernel
theorem d_Mdl_jump_152 : decode b_Mdl_jump 152 = .ok (.aload_n 0, 1) := by decide +kernel
theorem d_Mdl_jump_153 : decode b_Mdl_jump 153 = .ok (.aload_n 0, 1) := by decide +kernel
theorem d_Mdl_jump_154 : decode b_Mdl_jump 154 = .ok (.bipush 64, 2) := by decide +kernel
theorem d_Mdl_jump_156 : decode b_Mdl_jump 156 = .ok (.invokevirtual 67, 3) := by decide +kernel
theorem d_Mdl_jump_159 : decode b_Mdl_jump 159 = .ok (.ifCond .ne 7, 3) := by decide +kernel
theorem d_Mdl_jump_162 : decode b_Mdl_jump 162 = .ok (.iconst 1, 1) := by decide +kernel
theorem d_Mdl_jump_163 : decode b_Mdl_jump 163 = .ok (.goto 4, 3) := by decide +kernel
theorem d_Mdl_jump_166 : decode b_Mdl_jump 166 = .ok (.iconst 0, 1) := by decide +kernel
theorem d_Mdl_jump_167 : decode b_Mdl_jump 167 = .ok (.invokevirtual 176, 3) := by decide +kernel
theorem d_Mdl_jump_170 : decode b_Mdl_jump 170 = .ok (.goto 153, 3) := by decide +kernel
theorem d_Mdl_jump_173 : decode b_Mdl_jump 173 = .ok (.aload_n 0, 1) := by decide +kernel
theorem d_Mdl_jump_174 : decode b_Mdl_jump 174 = .ok (.aload_n 0, 1) := by decide +kernel
theorem d_Mdl_jump_175 : decode b_Mdl_jump 175 = .ok (.bipush 64, 2) := by decide +kernel
theorem d_Mdl_jump_177 : decode b_Mdl_jump 177 = .ok (.invokevirtual 67, 3) := by decide +kernel
theorem d_Mdl_jump_180 : decode b_Mdl_jump 180 = .ok (.invokevirtual 176, 3) := by decide +kernel
theorem d_Mdl_jump_183 : decode b_Mdl_jump 183 = .ok (.goto 140, 3) := by decide +kernel
theorem d_Mdl_jump_186 : decode b_Mdl_jump 186 = .ok (.aload_n 0, 1) := by decide +kernel
theorem d_Mdl_jump_187 : decode b_Mdl_jump 187 = .ok (.aload_n 0, 1) := by decide +kernel
theorem d_Mdl_jump_188 : decode b_Mdl_jump 188 = .ok (.iconst 1, 1) := by decide +kernel
theorem d_Mdl_jump_189 : decode b_Mdl_jump 189 = .ok (.invokevirtual 67, 3) := by decide +kernel
theorem d_Mdl_jump_192 : decode b_Mdl_jump 192 = .ok (.ifCond .ne 7, 3) := by decide +kernel
theorem d_Mdl_jump_195 : decode b_Mdl_jump 195 = .ok (.iconst 1, 1) := by decide +kernel
theorem d_Mdl_jump_196 : decode b_Mdl_jump 196 = .ok (.goto 4, 3) := by decide +kernel
theorem d_Mdl_jump_199 : decode b_Mdl_jump 199 = .ok (.iconst 0, 1) := by decide +kernel
theorem d_Mdl_jump_200 : decode b_Mdl_jump 200 = .ok (.invokevirtual 176, 3) := by decide +kernel
theorem d_Mdl_jump_203 : decode b_Mdl_jump 203 = .ok (.goto 120, 3) := by decide +kernel
theorem d_Mdl_jump_206 : decode b_Mdl_jump 206 = .ok (.aload_n 0, 1) := by decide +kernel
theorem d_Mdl_jump_207 : decode b_Mdl_jump 207 = .ok (.aload_n 0, 1) := by decide +kernel
theorem d_Mdl_jump_208 : decode b_Mdl_jump 208 = .ok (.iconst 1, 1) := by decide +kernel
theorem d_Mdl_jump_209 : decode b_Mdl_jump 209 = .ok (.invokevirtual 67, 3) := by decide +kernel
theorem d_Mdl_jump_212 : decode b_Mdl_jump 212 = .ok (.invokevirtual 176, 3) := by decide +kernel
theorem d_Mdl_jump_215 : decode b_Mdl_jump 215 = .ok (.goto 108, 3) := by decide +kernel
theorem d_Mdl_jump_218 : decode b_Mdl_jump 218 = .ok (.aload_n 0, 1) := by decide +kernel
theorem d_Mdl_jump_219 : decode b_Mdl_jump 219 = .ok (.aload_n 0, 1) := by decide +kernel
theorem d_Mdl_jump_220 : decode b_Mdl_jump 220 = .ok (.iconst 2, 1) := by decide +kernel
theorem d_Mdl_jump_221 : decode b_Mdl_jump 221 = .ok (.invokevirtual 67, 3) := by decide +kernel
theorem d_Mdl_jump_224 : decode b_Mdl_jump 224 = .ok (.ifCond .ne 7, 3) := by decide +kernel
theorem d_Mdl_jump_227 : decode b_Mdl_jump 227 = .ok (.iconst 1, 1) := by decide +kernel
theorem d_Mdl_jump_228 : decode b_Mdl_jump 228 = .ok (.goto 4, 3) := by decide +kernel
theorem d_Mdl_jump_231 : decode b_Mdl_jump 231 = .ok (.iconst 0, 1) := by decide +kernel
theorem d_Mdl_jump_232 : decode b_Mdl_jump 232 = .ok (.invokevirtual 176, 3) := by decide +kernel
theorem d_Mdl_jump_235 : decode b_Mdl_jump 235 = .ok (.goto 88, 3) := by decide +kernel
theorem d_Mdl_jump_238 : decode b_Mdl_jump 238 = .ok (.aload_n 0, 1) := by decide +kernel
theorem d_Mdl_jump_239 : decode b_Mdl_jump 239 = .ok (.aload_n 0, 1) := by decide +kernel
theorem d_Mdl_jump_240 : decode b_Mdl_jump 240 = .ok (.iconst 2, 1) := by decide +kernel
theorem d_Mdl_jump_241 : decode b_Mdl_jump 241 = .ok (.invokevirtual 67, 3) := by decide +kernel
theorem d_Mdl_jump_244 : decode b_Mdl_jump 244 = .ok (.invokevirtual 176, 3) := by decide +kernel
theorem d_Mdl_jump_247 : decode b_Mdl_jump 247 = .ok (.goto 76, 3) := by decide +kernel
theorem d_Mdl_jump_250 : decode b_Mdl_jump 250 = .ok (.aload_n 0, 1) := by decide +kernel
theorem d_Mdl_jump_251 : decode b_Mdl_jump 251 = .ok (.iconst 1, 1) := by decide +kernel
theorem d_Mdl_jump_252 : decode b_Mdl_jump 252 = .ok (.invokevirtual 176, 3) := by decide +kernel
theorem d_Mdl_jump_255 : decode b_Mdl_jump 255 = .ok (.goto 68, 3) := by decide +kernel
theorem d_Mdl_jump_258 : decode b_Mdl_jump 258 = .ok (.aload_n 0, 1) := by decide +kernel
theorem d_Mdl_jump_259 : decode b_Mdl_jump 259 = .ok (.invokevirtual 64, 3) := by decide +kernel
theorem d_Mdl_jump_262 : decode b_Mdl_jump 262 = .ok (.istore_n 2, 1) := by decide +kernel
theorem d_Mdl_jump_263 : decode b_Mdl_jump 263 = .ok (.aload_n 0, 1) := by decide +kernel
theorem d_Mdl_jump_264 : decode b_Mdl_jump 264 = .ok (.aload_n 0, 1) := by decide +kernel
theorem d_Mdl_jump_265 : decode b_Mdl_jump 265 = .ok (.getfield 58, 3) := by decide +kernel
theorem d_Mdl_jump_268 : decode b_Mdl_jump 268 = .ok (.iload_n 2, 1) := by decide +kernel
theorem d_Mdl_jump_269 : decode b_Mdl_jump 269 = .ok (.iadd, 1) := by decide +kernel
theorem d_Mdl_jump_270 : decode b_Mdl_jump 270 = .ok (.ldc 35, 2) := by decide +kernel
theorem d_Mdl_jump_272 : decode b_Mdl_jump 272 = .ok (.iand, 1) := by decide +kernel
theorem d_Mdl_jump_273 : decode b_Mdl_jump 273 = .ok (.putfield 58, 3) := by decide +kernel
theorem d_Mdl_jump_276 : decode b_Mdl_jump 276 = .ok (.goto 47, 3) := by decide +kernel
theorem d_Mdl_jump_279 : decode b_Mdl_jump 279 = .ok (.aload_n 0, 1) := by decide +kernel
theorem d_Mdl_jump_280 : decode b_Mdl_jump 280 = .ok (.aload_n 0, 1) := by decide +kernel
theorem d_Mdl_jump_281 : decode b_Mdl_jump 281 = .ok (.invokevirtual 64, 3) := by decide +kernel
theorem d_Mdl_jump_284 : decode b_Mdl_jump 284 = .ok (.putfield 58, 3) := by decide +kernel
theorem d_Mdl_jump_287 : decode b_Mdl_jump 287 = .ok (.goto 36, 3) := by decide +kernel
theorem d_Mdl_jump_290 : decode b_Mdl_jump 290 = .ok (.aload_n 0, 1) := by decide +kernel
theorem d_Mdl_jump_291 : decode b_Mdl_jump 291 = .ok (.aload_n 0, 1) := by decide +kernel
theorem d_Mdl_jump_292 : decode b_Mdl_jump 292 = .ok (.invokevirtual 64, 3) := by decide +kernel
theorem d_Mdl_jump_295 : decode b_Mdl_jump 295 = .ok (.invokevirtual 179, 3) := by decide +kernel
theorem d_Mdl_jump_298 : decode b_Mdl_jump 298 = .ok (.goto 25, 3) := by decide +kernel
theorem d_Mdl_jump_301 : decode b_Mdl_jump 301 = .ok (.aload_n 0, 1) := by decide +kernel
theorem d_Mdl_jump_302 : decode b_Mdl_jump 302 = .ok (.aload_n 0, 1) := by decide +kernel
theorem d_Mdl_jump_303 : decode b_Mdl_jump 303 = .ok (.invokevirtual 164, 3) := by decide +kernel
theorem d_Mdl_jump_306 : decode b_Mdl_jump 306 = .ok (.iconst 1, 1) := by decide +kernel
theorem d_Mdl_jump_307 : decode b_Mdl_jump 307 = .ok (.iadd, 1) := by decide +kernel
theorem d_Mdl_jump_308 : decode b_Mdl_jump 308 = .ok (.ldc 35, 2) := by decide +kernel
theorem d_Mdl_jump_310 : decode b_Mdl_jump 310 = .ok (.iand, 1) := by decide +kernel
theorem d_Mdl_jump_311 : decode b_Mdl_jump 311 = .ok (.putfield 58, 3) := by decide +kernel
theorem d_Mdl_jump_314 : decode b_Mdl_jump 314 = .ok (.goto 9, 3) := by decide +kernel
theorem d_Mdl_jump_317 : decode b_Mdl_jump 317 = .ok (.aload_n 0, 1) := by decide +kernel
theorem d_Mdl_jump_318 : decode b_Mdl_jump 318 = .ok (.iload_n 1, 1) := by decide +kernel
theorem d_Mdl_jump_319 : decode b_Mdl_jump 319 = .ok (.invokevirtual 182, 3) := by decide +kernel
theorem d_Mdl_jump_322 : decode b_Mdl_jump 322 = .ok (.ireturn, 1) := by decide +kernel
theorem d_Mdl_jump_323 : decode b_Mdl_jump 323 = .ok (.iconst 1, 1) := by decide +kernel
theorem d_Mdl_jump_324 : decode b_Mdl_jump 324 = .ok (.ireturn, 1) := by decide +kernel
theorem d_Mdl_longJump_0 : decode b_Mdl_longJump 0 = .ok (.iload_n 1, 1) := by decide +kernel
theorem d_Mdl_longJump_1 : decode b_Mdl_longJump 1 = .ok (.bipush 92, 2) := by decide +kernel
theorem d_Mdl_longJump_3 : decode b_Mdl_longJump 3 = .ok (.if_icmp .ne 27, 3) := by decide +kernel
theorem d_Mdl_longJump_6 : decode b_Mdl_longJump 6 = .ok (.aload_n 0, 1) := by decide +kernel
theorem d_Mdl_longJump_7 : decode b_Mdl_longJump 7 = .ok (.invokevirtual 108, 3) := by decide +kernel
theorem d_Mdl_longJump_10 : decode b_Mdl_longJump 10 = .ok (.istore_n 2, 1) := by decide +kernel
theorem d_Mdl_longJump_11 : decode b_Mdl_longJump 11 = .ok (.aload_n 0, 1) := by decide +kernel
theorem d_Mdl_longJump_12 : decode b_Mdl_longJump 12 = .ok (.iload_n 2, 1) := by decide +kernel
theorem d_Mdl_longJump_13 : decode b_Mdl_longJump 13 = .ok (.bipush 16, 2) := by decide +kernel
theorem d_Mdl_longJump_15 : decode b_Mdl_longJump 15 = .ok (.ishr, 1) := by decide +kernel
theorem d_Mdl_longJump_16 : decode b_Mdl_longJump 16 = .ok (.putfield 55, 3) := by decide +kernel
theorem d_Mdl_longJump_19 : decode b_Mdl_longJump 19 = .ok (.aload_n 0, 1) := by decide +kernel
theorem d_Mdl_longJump_20 : decode b_Mdl_longJump 20 = .ok (.iload_n 2, 1) := by decide +kernel
theorem d_Mdl_longJump_21 : decode b_Mdl_longJump 21 = .ok (.ldc 35, 2) := by decide +kernel
theorem d_Mdl_longJump_23 : decode b_Mdl_longJump 23 = .ok (.iand, 1) := by decide +kernel
theorem d_Mdl_longJump_24 : decode b_Mdl_longJump 24 = .ok (.putfield 58, 3) := by decide +kernel
theorem d_Mdl_longJump_27 : decode b_Mdl_longJump 27 = .ok (.goto 122, 3) := by decide +kernel
theorem d_Mdl_longJump_30 : decode b_Mdl_longJump 30 = .ok (.iload_n 1, 1) := by decide +kernel
theorem d_Mdl_longJump_31 : decode b_Mdl_longJump 31 = .ok (.bipush 34, 2) := by decide +kernel
theorem d_Mdl_longJump_33 : decode b_Mdl_longJump 33 = .ok (.if_icmp .ne 32, 3) := by decide +kernel
theorem d_Mdl_longJump_36 : decode b_Mdl_longJump 36 = .ok (.aload_n 0, 1) := by decide +kernel
theorem d_Mdl_longJump_37 : decode b_Mdl_longJump 37 = .ok (.invokevirtual 108, 3) := by decide +kernel
theorem d_Mdl_longJump_40 : decode b_Mdl_longJump 40 = .ok (.istore_n 2, 1) := by decide +kernel
theorem d_Mdl_longJump_41 : decode b_Mdl_longJump 41 = .ok (.aload_n 0, 1) := by decide +kernel
theorem d_Mdl_longJump_42 : decode b_Mdl_longJump 42 = .ok (.aload_n 0, 1) := by decide +kernel
theorem d_Mdl_longJump_43 : decode b_Mdl_longJump 43 = .ok (.getfield 55, 3) := by decide +kernel
theorem d_Mdl_longJump_46 : decode b_Mdl_longJump 46 = .ok (.invokevirtual 48, 3) := by decide +kernel
theorem d_Mdl_longJump_49 : decode b_Mdl_longJump 49 = .ok (.aload_n 0, 1) := by decide +kernel
theorem d_Mdl_longJump_50 : decode b_Mdl_longJump 50 = .ok (.iload_n 2, 1) := by decide +kernel
theorem d_Mdl_longJump_51 : decode b_Mdl_longJump 51 = .ok (.invokevirtual 179, 3) := by decide +kernel
theorem d_Mdl_longJump_54 : decode b_Mdl_longJump 54 = .ok (.aload_n 0, 1) := by decide +kernel
theorem d_Mdl_longJump_55 : decode b_Mdl_longJump 55 = .ok (.iload_n 2, 1) := by decide +kernel
theorem d_Mdl_longJump_56 : decode b_Mdl_longJump 56 = .ok (.bipush 16, 2) := by decide +kernel
theorem d_Mdl_longJump_58 : decode b_Mdl_longJump 58 = .ok (.ishr, 1) := by decide +kernel
theorem d_Mdl_longJump_59 : decode b_Mdl_longJump 59 = .ok (.putfield 55, 3) := by decide +kernel
theorem d_Mdl_longJump_62 : decode b_Mdl_longJump 62 = .ok (.goto 87, 3) := by decide +kernel
theorem d_Mdl_longJump_65 : decode b_Mdl_longJump 65 = .ok (.iload_n 1, 1) := by decide +kernel
theorem d_Mdl_longJump_66 : decode b_Mdl_longJump 66 = .ok (.bipush 107, 2) := by decide +kernel
theorem d_Mdl_longJump_68 : decode b_Mdl_longJump 68 = .ok (.if_icmp .ne 27, 3) := by decide +kernel
theorem d_Mdl_longJump_71 : decode b_Mdl_longJump 71 = .ok (.aload_n 0, 1) := by decide +kernel
theorem d_Mdl_longJump_72 : decode b_Mdl_longJump 72 = .ok (.aload_n 0, 1) := by decide +kernel
theorem d_Mdl_longJump_73 : decode b_Mdl_longJump 73 = .ok (.invokevirtual 164, 3) := by decide +kernel
theorem d_Mdl_longJump_76 : decode b_Mdl_longJump 76 = .ok (.iconst 1, 1) := by decide +kernel
theorem d_Mdl_longJump_77 : decode b_Mdl_longJump 77 = .ok (.iadd, 1) := by decide +kernel
theorem d_Mdl_longJump_78 : decode b_Mdl_longJump 78 = .ok (.ldc 35, 2) := by decide +kernel
theorem d_Mdl_longJump_80 : decode b_Mdl_longJump 80 = .ok (.iand, 1) := by decide +kernel
theorem d_Mdl_longJump_81 : decode b_Mdl_longJump 81 = .ok (.putfield 58, 3) := by decide +kernel
theorem d_Mdl_longJump_84 : decode b_Mdl_longJump 84 = .ok (.aload_n 0, 1) := by decide +kernel
theorem d_Mdl_longJump_85 : decode b_Mdl_longJump 85 = .ok (.aload_n 0, 1) := by decide +kernel
theorem d_Mdl_longJump_86 : decode b_Mdl_longJump 86 = .ok (.invokevirtual 51, 3) := by decide +kernel
theorem d_Mdl_longJump_89 : decode b_Mdl_longJump 89 = .ok (.putfield 55, 3) := by decide +kernel
theorem d_Mdl_longJump_92 : decode b_Mdl_longJump 92 = .ok (.goto 57, 3) := by decide +kernel
theorem d_Mdl_longJump_95 : decode b_Mdl_longJump 95 = .ok (.iload_n 1, 1) := by decide +kernel
theorem d_Mdl_longJump_96 : decode b_Mdl_longJump 96 = .ok (.ifCond .ne 18, 3) := by decide +kernel
theorem d_Mdl_longJump_99 : decode b_Mdl_longJump 99 = .ok (.aload_n 0, 1) := by decide +kernel
theorem d_Mdl_longJump_100 : decode b_Mdl_longJump 100 = .ok (.invokevirtual 61, 3) := by decide +kernel
theorem d_Mdl_longJump_103 : decode b_Mdl_longJump 103 = .ok (.istore_n 2, 1) := by decide +kernel
theorem d_Mdl_longJump_104 : decode b_Mdl_longJump 104 = .ok (.aload_n 0, 1) := by decide +kernel
theorem d_Mdl_longJump_105 : decode b_Mdl_longJump 105 = .ok (.sipush 486, 3) := by decide +kernel
theorem d_Mdl_longJump_108 : decode b_Mdl_longJump 108 = .ok (.invokevirtual 185, 3) := by decide +kernel
theorem d_Mdl_longJump_111 : decode b_Mdl_longJump 111 = .ok (.goto 38, 3) := by decide +kernel
theorem d_Mdl_longJump_114 : decode b_Mdl_longJump 114 = .ok (.iload_n 1, 1) := by decide +kernel
theorem d_Mdl_longJump_115 : decode b_Mdl_longJump 115 = .ok (.bipush 64, 2) := by decide +kernel
theorem d_Mdl_longJump_117 : decode b_Mdl_longJump 117 = .ok (.if_icmp .ne 30, 3) := by decide +kernel
theorem d_Mdl_longJump_120 : decode b_Mdl_longJump 120 = .ok (.aload_n 0, 1) := by decide +kernel
theorem d_Mdl_longJump_121 : decode b_Mdl_longJump 121 = .ok (.aload_n 0, 1) := by decide +kernel
theorem d_Mdl_longJump_122 : decode b_Mdl_longJump 122 = .ok (.invokevirtual 51, 3) := by decide +kernel
theorem d_Mdl_longJump_125 : decode b_Mdl_longJump 125 = .ok (.invokevirtual 173, 3) := by decide +kernel
theorem d_Mdl_longJump_128 : decode b_Mdl_longJump 128 = .ok (.aload_n 0, 1) := by decide +kernel
theorem d_Mdl_longJump_129 : decode b_Mdl_longJump 129 = .ok (.aload_n 0, 1) := by decide +kernel
theorem d_Mdl_longJump_130 : decode b_Mdl_longJump 130 = .ok (.invokevirtual 164, 3) := by decide +kernel
theorem d_Mdl_longJump_133 : decode b_Mdl_longJump 133 = .ok (.putfield 58, 3) := by decide +kernel
theorem d_Mdl_longJump_136 : decode b_Mdl_longJump 136 = .ok (.aload_n 0, 1) := by decide +kernel
theorem d_Mdl_longJump_137 : decode b_Mdl_longJump 137 = .ok (.aload_n 0, 1) := by decide +kernel
theorem d_Mdl_longJump_138 : decode b_Mdl_longJump 138 = .ok (.invokevirtual 51, 3) := by decide +kernel
theorem d_Mdl_longJump_141 : decode b_Mdl_longJump 141 = .ok (.putfield 55, 3) := by decide +kernel
theorem d_Mdl_longJump_144 : decode b_Mdl_longJump 144 = .ok (.goto 5, 3) := by decide +kernel
theorem d_Mdl_longJump_147 : decode b_Mdl_longJump 147 = .ok (.iconst 0, 1) := by decide +kernel
theorem d_Mdl_longJump_148 : decode b_Mdl_longJump 148 = .ok (.ireturn, 1) := by decide +kernel
theorem d_Mdl_longJump_149 : decode b_Mdl_longJump 149 = .ok (.iconst 1, 1) := by decide +kernel
theorem d_Mdl_longJump_150 : decode b_Mdl_longJump 150 = .ok (.ireturn, 1) := by decide +kernel
theorem d_Mdl_moveBlock_0 : decode b_Mdl_moveBlock 0 = .ok (.aload_n 0, 1) := by decide +kernel
theorem d_Mdl_moveBlock_1 : decode b_Mdl_moveBlock 1 = .ok (.getfield 58, 3) := by decide +kernel
theorem d_Mdl_moveBlock_4 : decode b_Mdl_moveBlock 4 = .ok (.iconst 1, 1) := by decide +kernel
theorem d_Mdl_moveBlock_5 : decode b_Mdl_moveBlock 5 = .ok (.isub, 1) := by decide +kernel
theorem d_Mdl_moveBlock_6 : decode b_Mdl_moveBlock 6 = .ok (.ldc 35, 2) := by decide +kernel
theorem d_Mdl_moveBlock_8 : decode b_Mdl_moveBlock 8 = .ok (.iand, 1) := by decide +kernel
theorem d_Mdl_moveBlock_9 : decode b_Mdl_moveBlock 9 = .ok (.istore_n 2, 1) := by decide +kernel
theorem d_Mdl_moveBlock_10 : decode b_Mdl_moveBlock 10 = .ok (.aload_n 0, 1) := by decide +kernel
theorem d_Mdl_moveBlock_11 : decode b_Mdl_moveBlock 11 = .ok (.invokevirtual 61, 3) := by decide +kernel
theorem d_Mdl_moveBlock_14 : decode b_Mdl_moveBlock 14 = .ok (.istore_n 3, 1) := by decide +kernel
theorem d_Mdl_moveBlock_15 : decode b_Mdl_moveBlock 15 = .ok (.aload_n 0, 1) := by decide +kernel
theorem d_Mdl_moveBlock_16 : decode b_Mdl_moveBlock 16 = .ok (.invokevirtual 61, 3) := by decide +kernel
theorem d_Mdl_moveBlock_19 : decode b_Mdl_moveBlock 19 = .ok (.istore 4, 2) := by decide +kernel
theorem d_Mdl_moveBlock_21 : decode b_Mdl_moveBlock 21 = .ok (.aload_n 0, 1) := by decide +kernel
theorem d_Mdl_moveBlock_22 : decode b_Mdl_moveBlock 22 = .ok (.iload_n 3, 1) := by decide +kernel
theorem d_Mdl_moveBlock_23 : decode b_Mdl_moveBlock 23 = .ok (.putfield 102, 3) := by decide +kernel
theorem d_Mdl_moveBlock_26 : decode b_Mdl_moveBlock 26 = .ok (.aload_n 0, 1) := by decide +kernel
theorem d_Mdl_moveBlock_27 : decode b_Mdl_moveBlock 27 = .ok (.iload 4, 2) := by decide +kernel
theorem d_Mdl_moveBlock_29 : decode b_Mdl_moveBlock 29 = .ok (.bipush 16, 2) := by decide +kernel
theorem d_Mdl_moveBlock_31 : decode b_Mdl_moveBlock 31 = .ok (.ishl, 1) := by decide +kernel
theorem d_Mdl_moveBlock_32 : decode b_Mdl_moveBlock 32 = .ok (.aload_n 0, 1) := by decide +kernel
theorem d_Mdl_moveBlock_33 : decode b_Mdl_moveBlock 33 = .ok (.getfield 83, 3) := by decide +kernel
theorem d_Mdl_moveBlock_36 : decode b_Mdl_moveBlock 36 = .ok (.ior, 1) := by decide +kernel
theorem d_Mdl_moveBlock_37 : decode b_Mdl_moveBlock 37 = .ok (.invokevirtual 37, 3) := by decide +kernel
theorem d_Mdl_moveBlock_40 : decode b_Mdl_moveBlock 40 = .ok (.istore 5, 2) := by decide +kernel
theorem d_Mdl_moveBlock_42 : decode b_Mdl_moveBlock 42 = .ok (.aload_n 0, 1) := by decide +kernel
theorem d_Mdl_moveBlock_43 : decode b_Mdl_moveBlock 43 = .ok (.iload_n 3, 1) := by decide +kernel
theorem d_Mdl_moveBlock_44 : decode b_Mdl_moveBlock 44 = .ok (.bipush 16, 2) := by decide +kernel
theorem d_Mdl_moveBlock_46 : decode b_Mdl_moveBlock 46 = .ok (.ishl, 1) := by decide +kernel
theorem d_Mdl_moveBlock_47 : decode b_Mdl_moveBlock 47 = .ok (.aload_n 0, 1) := by decide +kernel
theorem d_Mdl_moveBlock_48 : decode b_Mdl_moveBlock 48 = .ok (.getfield 86, 3) := by decide +kernel
theorem d_Mdl_moveBlock_51 : decode b_Mdl_moveBlock 51 = .ok (.ior, 1) := by decide +kernel
theorem d_Mdl_moveBlock_52 : decode b_Mdl_moveBlock 52 = .ok (.iload 5, 2) := by decide +kernel
theorem d_Mdl_moveBlock_54 : decode b_Mdl_moveBlock 54 = .ok (.invokevirtual 44, 3) := by decide +kernel
theorem d_Mdl_moveBlock_57 : decode b_Mdl_moveBlock 57 = .ok (.aload_n 0, 1) := by decide +kernel
theorem d_Mdl_moveBlock_58 : decode b_Mdl_moveBlock 58 = .ok (.aload_n 0, 1) := by decide +kernel
theorem d_Mdl_moveBlock_59 : decode b_Mdl_moveBlock 59 = .ok (.aload_n 0, 1) := by decide +kernel
theorem d_Mdl_moveBlock_60 : decode b_Mdl_moveBlock 60 = .ok (.getfield 83, 3) := by decide +kernel
theorem d_Mdl_moveBlock_63 : decode b_Mdl_moveBlock 63 = .ok (.iload_n 1, 1) := by decide +kernel
theorem d_Mdl_moveBlock_64 : decode b_Mdl_moveBlock 64 = .ok (.iadd, 1) := by decide +kernel
theorem d_Mdl_moveBlock_65 : decode b_Mdl_moveBlock 65 = .ok (.aload_n 0, 1) := by decide +kernel
theorem d_Mdl_moveBlock_66 : decode b_Mdl_moveBlock 66 = .ok (.bipush 16, 2) := by decide +kernel
theorem d_Mdl_moveBlock_68 : decode b_Mdl_moveBlock 68 = .ok (.invokevirtual 67, 3) := by decide +kernel
theorem d_Mdl_moveBlock_71 : decode b_Mdl_moveBlock 71 = .ok (.invokevirtual 75, 3) := by decide +kernel
theorem d_Mdl_moveBlock_74 : decode b_Mdl_moveBlock 74 = .ok (.putfield 83, 3) := by decide +kernel
theorem d_Mdl_moveBlock_77 : decode b_Mdl_moveBlock 77 = .ok (.aload_n 0, 1) := by decide +kernel
theorem d_Mdl_moveBlock_78 : decode b_Mdl_moveBlock 78 = .ok (.aload_n 0, 1) := by decide +kernel
theorem d_Mdl_moveBlock_79 : decode b_Mdl_moveBlock 79 = .ok (.aload_n 0, 1) := by decide +kernel
theorem d_Mdl_moveBlock_80 : decode b_Mdl_moveBlock 80 = .ok (.getfield 86, 3) := by decide +kernel
theorem d_Mdl_moveBlock_83 : decode b_Mdl_moveBlock 83 = .ok (.iload_n 1, 1) := by decide +kernel
theorem d_Mdl_moveBlock_84 : decode b_Mdl_moveBlock 84 = .ok (.iadd, 1) := by decide +kernel
theorem d_Mdl_moveBlock_85 : decode b_Mdl_moveBlock 85 = .ok (.aload_n 0, 1) := by decide +kernel
theorem d_Mdl_moveBlock_86 : decode b_Mdl_moveBlock 86 = .ok (.bipush 16, 2) := by decide +kernel
theorem d_Mdl_moveBlock_88 : decode b_Mdl_moveBlock 88 = .ok (.invokevirtual 67, 3) := by decide +kernel
theorem d_Mdl_moveBlock_91 : decode b_Mdl_moveBlock 91 = .ok (.invokevirtual 75, 3) := by decide +kernel
theorem d_Mdl_moveBlock_94 : decode b_Mdl_moveBlock 94 = .ok (.putfield 86, 3) := by decide +kernel
theorem d_Mdl_moveBlock_97 : decode b_Mdl_moveBlock 97 = .ok (.aload_n 0, 1) := by decide +kernel
theorem d_Mdl_moveBlock_98 : decode b_Mdl_moveBlock 98 = .ok (.aload_n 0, 1) := by decide +kernel
theorem d_Mdl_moveBlock_99 : decode b_Mdl_moveBlock 99 = .ok (.getfield 71, 3) := by decide +kernel
theorem d_Mdl_moveBlock_102 : decode b_Mdl_moveBlock 102 = .ok (.ifCond .eq 7, 3) := by decide +kernel
theorem d_Mdl_moveBlock_105 : decode b_Mdl_moveBlock 105 = .ok (.iload_n 2, 1) := by decide +kernel
theorem d_Mdl_moveBlock_106 : decode b_Mdl_moveBlock 106 = .ok (.goto 7, 3) := by decide +kernel
theorem d_Mdl_moveBlock_109 : decode b_Mdl_moveBlock 109 = .ok (.aload_n 0, 1) := by decide +kernel
theorem d_Mdl_moveBlock_110 : decode b_Mdl_moveBlock 110 = .ok (.getfield 58, 3) := by decide +kernel
theorem d_Mdl_moveBlock_113 : decode b_Mdl_moveBlock 113 = .ok (.putfield 58, 3) := by decide +kernel
theorem d_Mdl_moveBlock_116 : decode b_Mdl_moveBlock 116 = .ok (.aload_n 0, 1) := by decide +kernel
theorem d_Mdl_moveBlock_117 : decode b_Mdl_moveBlock 117 = .ok (.aload_n 0, 1) := by decide +kernel
theorem d_Mdl_moveBlock_118 : decode b_Mdl_moveBlock 118 = .ok (.getfield 71, 3) := by decide +kernel
theorem d_Mdl_moveBlock_121 : decode b_Mdl_moveBlock 121 = .ok (.iconst 1, 1) := by decide +kernel
theorem d_Mdl_moveBlock_122 : decode b_Mdl_moveBlock 122 = .ok (.isub, 1) := by decide +kernel
theorem d_Mdl_moveBlock_123 : decode b_Mdl_moveBlock 123 = .ok (.ldc 35, 2) := by decide +kernel
theorem d_Mdl_moveBlock_125 : decode b_Mdl_moveBlock 125 = .ok (.iand, 1) := by decide +kernel
theorem d_Mdl_moveBlock_126 : decode b_Mdl_moveBlock 126 = .ok (.putfield 71, 3) := by decide +kernel
theorem d_Mdl_moveBlock_129 : decode b_Mdl_moveBlock 129 = .ok (.return_, 1) := by decide +kernel
theorem d_Mdl_other_0 : decode b_Mdl_other 0 = .ok (.iload_n 1, 1) := by decide +kernel
theorem d_Mdl_other_1 : decode b_Mdl_other 1 = .ok (.lookupswitch 226 #[(24, 141), (56, 150), (68, 218), (84, 210), (88, 159), (120, 168), (184, 197), (194, 123), (216, 177), (226, 107), (234, 207), (248, 187)], 107) := by decide +kernel
theorem d_Mdl_other_108 : decode b_Mdl_other 108 = .ok (.aload_n 0, 1) := by decide +kernel
theorem d_Mdl_other_109 : decode b_Mdl_other 109 = .ok (.aload_n 0, 1) := by decide +kernel
theorem d_Mdl_other_110 : decode b_Mdl_other 110 = .ok (.getfield 17, 3) := by decide +kernel
theorem d_Mdl_other_113 : decode b_Mdl_other 113 = .ok (.aload_n 0, 1) := by decide +kernel
theorem d_Mdl_other_114 : decode b_Mdl_other 114 = .ok (.invokevirtual 61, 3) := by decide +kernel
theorem d_Mdl_other_117 : decode b_Mdl_other 117 = .ok (.ior, 1) := by decide +kernel
theorem d_Mdl_other_118 : decode b_Mdl_other 118 = .ok (.invokevirtual 173, 3) := by decide +kernel
theorem d_Mdl_other_121 : decode b_Mdl_other 121 = .ok (.goto 108, 3) := by decide +kernel
theorem d_Mdl_other_124 : decode b_Mdl_other 124 = .ok (.aload_n 0, 1) := by decide +kernel
theorem d_Mdl_other_125 : decode b_Mdl_other 125 = .ok (.aload_n 0, 1) := by decide +kernel
theorem d_Mdl_other_126 : decode b_Mdl_other 126 = .ok (.getfield 17, 3) := by decide +kernel
theorem d_Mdl_other_129 : decode b_Mdl_other 129 = .ok (.aload_n 0, 1) := by decide +kernel
theorem d_Mdl_other_130 : decode b_Mdl_other 130 = .ok (.invokevirtual 61, 3) := by decide +kernel
theorem d_Mdl_other_133 : decode b_Mdl_other 133 = .ok (.iconst (-1), 1) := by decide +kernel
theorem d_Mdl_other_134 : decode b_Mdl_other 134 = .ok (.ixor, 1) := by decide +kernel
theorem d_Mdl_other_135 : decode b_Mdl_other 135 = .ok (.iand, 1) := by decide +kernel
theorem d_Mdl_other_136 : decode b_Mdl_other 136 = .ok (.invokevirtual 173, 3) := by decide +kernel
theorem d_Mdl_other_139 : decode b_Mdl_other 139 = .ok (.goto 90, 3) := by decide +kernel
theorem d_Mdl_other_142 : decode b_Mdl_other 142 = .ok (.aload_n 0, 1) := by decide +kernel
theorem d_Mdl_other_143 : decode b_Mdl_other 143 = .ok (.iconst 1, 1) := by decide +kernel
theorem d_Mdl_other_144 : decode b_Mdl_other 144 = .ok (.iconst 0, 1) := by decide +kernel
theorem d_Mdl_other_145 : decode b_Mdl_other 145 = .ok (.invokevirtual 79, 3) := by decide +kernel
theorem d_Mdl_other_148 : decode b_Mdl_other 148 = .ok (.goto 81, 3) := by decide +kernel
theorem d_Mdl_other_151 : decode b_Mdl_other 151 = .ok (.aload_n 0, 1) := by decide +kernel
theorem d_Mdl_other_152 : decode b_Mdl_other 152 = .ok (.iconst 1, 1) := by decide +kernel
theorem d_Mdl_other_153 : decode b_Mdl_other 153 = .ok (.iconst 1, 1) := by decide +kernel
theorem d_Mdl_other_154 : decode b_Mdl_other 154 = .ok (.invokevirtual 79, 3) := by decide +kernel
theorem d_Mdl_other_157 : decode b_Mdl_other 157 = .ok (.goto 72, 3) := by decide +kernel
theorem d_Mdl_other_160 : decode b_Mdl_other 160 = .ok (.aload_n 0, 1) := by decide +kernel
theorem d_Mdl_other_161 : decode b_Mdl_other 161 = .ok (.iconst 4, 1) := by decide +kernel
theorem d_Mdl_other_162 : decode b_Mdl_other 162 = .ok (.iconst 0, 1) := by decide +kernel
theorem d_Mdl_other_163 : decode b_Mdl_other 163 = .ok (.invokevirtual 79, 3) := by decide +kernel
theorem d_Mdl_other_166 : decode b_Mdl_other 166 = .ok (.goto 63, 3) := by decide +kernel
theorem d_Mdl_other_169 : decode b_Mdl_other 169 = .ok (.aload_n 0, 1) := by decide +kernel
theorem d_Mdl_other_170 : decode b_Mdl_other 170 = .ok (.iconst 4, 1) := by decide +kernel
theorem d_Mdl_other_171 : decode b_Mdl_other 171 = .ok (.iconst 1, 1) := by decide +kernel
theorem d_Mdl_other_172 : decode b_Mdl_other 172 = .ok (.invokevirtual 79, 3) := by decide +kernel
theorem d_Mdl_other_175 : decode b_Mdl_other 175 = .ok (.goto 54, 3) := by decide +kernel
theorem d_Mdl_other_178 : decode b_Mdl_other 178 = .ok (.aload_n 0, 1) := by decide +kernel
theorem d_Mdl_other_179 : decode b_Mdl_other 179 = .ok (.bipush 8, 2) := by decide +kernel
theorem d_Mdl_other_181 : decode b_Mdl_other 181 = .ok (.iconst 0, 1) := by decide +kernel
theorem d_Mdl_other_182 : decode b_Mdl_other 182 = .ok (.invokevirtual 79, 3) := by decide +kernel
theorem d_Mdl_other_185 : decode b_Mdl_other 185 = .ok (.goto 44, 3) := by decide +kernel
theorem d_Mdl_other_188 : decode b_Mdl_other 188 = .ok (.aload_n 0, 1) := by decide +kernel
theorem d_Mdl_other_189 : decode b_Mdl_other 189 = .ok (.bipush 8, 2) := by decide +kernel
theorem d_Mdl_other_191 : decode b_Mdl_other 191 = .ok (.iconst 1, 1) := by decide +kernel
theorem d_Mdl_other_192 : decode b_Mdl_other 192 = .ok (.invokevirtual 79, 3) := by decide +kernel
theorem d_Mdl_other_195 : decode b_Mdl_other 195 = .ok (.goto 34, 3) := by decide +kernel
theorem d_Mdl_other_198 : decode b_Mdl_other 198 = .ok (.aload_n 0, 1) := by decide +kernel
theorem d_Mdl_other_199 : decode b_Mdl_other 199 = .ok (.bipush 64, 2) := by decide +kernel
theorem d_Mdl_other_201 : decode b_Mdl_other 201 = .ok (.iconst 0, 1) := by decide +kernel
theorem d_Mdl_other_202 : decode b_Mdl_other 202 = .ok (.invokevirtual 79, 3) := by decide +kernel
theorem d_Mdl_other_205 : decode b_Mdl_other 205 = .ok (.goto 24, 3) := by decide +kernel
theorem d_Mdl_other_208 : decode b_Mdl_other 208 = .ok (.goto 21, 3) := by decide +kernel
theorem d_Mdl_other_211 : decode b_Mdl_other 211 = .ok (.aload_n 0, 1) := by decide +kernel
theorem d_Mdl_other_212 : decode b_Mdl_other 212 = .ok (.iconst 1, 1) := by decide +kernel
theorem d_Mdl_other_213 : decode b_Mdl_other 213 = .ok (.invokevirtual 188, 3) := by decide +kernel
theorem d_Mdl_other_216 : decode b_Mdl_other 216 = .ok (.goto 13, 3) := by decide +kernel
theorem d_Mdl_other_219 : decode b_Mdl_other 219 = .ok (.aload_n 0, 1) := by decide +kernel
theorem d_Mdl_other_220 : decode b_Mdl_other 220 = .ok (.iconst (-1), 1) := by decide +kernel
theorem d_Mdl_other_221 : decode b_Mdl_other 221 = .ok (.invokevirtual 188, 3) := by decide +kernel
theorem d_Mdl_other_224 : decode b_Mdl_other 224 = .ok (.goto 5, 3) := by decide +kernel
theorem d_Mdl_other_227 : decode b_Mdl_other 227 = .ok (.iconst 0, 1) := by decide +kernel
theorem d_Mdl_other_228 : decode b_Mdl_other 228 = .ok (.ireturn, 1) := by decide +kernel
theorem d_Mdl_other_229 : decode b_Mdl_other 229 = .ok (.iconst 1, 1) := by decide +kernel
theorem d_Mdl_other_230 : decode b_Mdl_other 230 = .ok (.ireturn, 1) := by decide +kernel
theorem d_Mdl_interruptFrom_0 : decode b_Mdl_interruptFrom 0 = .ok (.aload_n 0, 1) := by decide +kernel
theorem d_Mdl_interruptFrom_1 : decode b_Mdl_interruptFrom 1 = .ok (.aload_n 0, 1) := by decide +kernel
theorem d_Mdl_interruptFrom_2 : decode b_Mdl_interruptFrom 2 = .ok (.getfield 55, 3) := by decide +kernel
theorem d_Mdl_interruptFrom_5 : decode b_Mdl_interruptFrom 5 = .ok (.invokevirtual 48, 3) := by decide +kernel
theorem d_Mdl_interruptFrom_8 : decode b_Mdl_interruptFrom 8 = .ok (.aload_n 0, 1) := by decide +kernel
theorem d_Mdl_interruptFrom_9 : decode b_Mdl_interruptFrom 9 = .ok (.aload_n 0, 1) := by decide +kernel
theorem d_Mdl_interruptFrom_10 : decode b_Mdl_interruptFrom 10 = .ok (.getfield 58, 3) := by decide +kernel
theorem d_Mdl_interruptFrom_13 : decode b_Mdl_interruptFrom 13 = .ok (.invokevirtual 161, 3) := by decide +kernel
theorem d_Mdl_interruptFrom_16 : decode b_Mdl_interruptFrom 16 = .ok (.aload_n 0, 1) := by decide +kernel
theorem d_Mdl_interruptFrom_17 : decode b_Mdl_interruptFrom 17 = .ok (.aload_n 0, 1) := by decide +kernel
theorem d_Mdl_interruptFrom_18 : decode b_Mdl_interruptFrom 18 = .ok (.getfield 17, 3) := by decide +kernel
theorem d_Mdl_interruptFrom_21 : decode b_Mdl_interruptFrom 21 = .ok (.invokevirtual 48, 3) := by decide +kernel
theorem d_Mdl_interruptFrom_24 : decode b_Mdl_interruptFrom 24 = .ok (.aload_n 0, 1) := by decide +kernel
theorem d_Mdl_interruptFrom_25 : decode b_Mdl_interruptFrom 25 = .ok (.iconst 4, 1) := by decide +kernel
theorem d_Mdl_interruptFrom_26 : decode b_Mdl_interruptFrom 26 = .ok (.iconst 1, 1) := by decide +kernel
theorem d_Mdl_interruptFrom_27 : decode b_Mdl_interruptFrom 27 = .ok (.invokevirtual 79, 3) := by decide +kernel
theorem d_Mdl_interruptFrom_30 : decode b_Mdl_interruptFrom 30 = .ok (.aload_n 0, 1) := by decide +kernel
theorem d_Mdl_interruptFrom_31 : decode b_Mdl_interruptFrom 31 = .ok (.bipush 8, 2) := by decide +kernel
theorem d_Mdl_interruptFrom_33 : decode b_Mdl_interruptFrom 33 = .ok (.iconst 0, 1) := by decide +kernel
theorem d_Mdl_interruptFrom_34 : decode b_Mdl_interruptFrom 34 = .ok (.invokevirtual 79, 3) := by decide +kernel
theorem d_Mdl_interruptFrom_37 : decode b_Mdl_interruptFrom 37 = .ok (.aload_n 0, 1) := by decide +kernel
theorem d_Mdl_interruptFrom_38 : decode b_Mdl_interruptFrom 38 = .ok (.iconst 0, 1) := by decide +kernel
theorem d_Mdl_interruptFrom_39 : decode b_Mdl_interruptFrom 39 = .ok (.putfield 55, 3) := by decide +kernel
theorem d_Mdl_interruptFrom_42 : decode b_Mdl_interruptFrom 42 = .ok (.aload_n 0, 1) := by decide +kernel
theorem d_Mdl_interruptFrom_43 : decode b_Mdl_interruptFrom 43 = .ok (.aload_n 0, 1) := by decide +kernel
theorem d_Mdl_interruptFrom_44 : decode b_Mdl_interruptFrom 44 = .ok (.iload_n 1, 1) := by decide +kernel
theorem d_Mdl_interruptFrom_45 : decode b_Mdl_interruptFrom 45 = .ok (.iconst 1, 1) := by decide +kernel
theorem d_Mdl_interruptFrom_46 : decode b_Mdl_interruptFrom 46 = .ok (.invokevirtual 111, 3) := by decide +kernel
theorem d_Mdl_interruptFrom_49 : decode b_Mdl_interruptFrom 49 = .ok (.putfield 58, 3) := by decide +kernel
theorem d_Mdl_interruptFrom_52 : decode b_Mdl_interruptFrom 52 = .ok (.return_, 1) := by decide +kernel
theorem d_Mdl_step_0 : decode b_Mdl_step 0 = .ok (.aload_n 0, 1) := by decide +kernel
theorem d_Mdl_step_1 : decode b_Mdl_step 1 = .ok (.dup, 1) := by decide +kernel
theorem d_Mdl_step_2 : decode b_Mdl_step 2 = .ok (.getfield 191, 3) := by decide +kernel
theorem d_Mdl_step_5 : decode b_Mdl_step 5 = .ok (.iconst 1, 1) := by decide +kernel
theorem d_Mdl_step_6 : decode b_Mdl_step 6 = .ok (.iadd, 1) := by decide +kernel
theorem d_Mdl_step_7 : decode b_Mdl_step 7 = .ok (.putfield 191, 3) := by decide +kernel
theorem d_Mdl_step_10 : decode b_Mdl_step 10 = .ok (.aload_n 0, 1) := by decide +kernel
theorem d_Mdl_step_11 : decode b_Mdl_step 11 = .ok (.getfield 194, 3) := by decide +kernel
theorem d_Mdl_step_14 : decode b_Mdl_step 14 = .ok (.ifCond .eq 16, 3) := by decide +kernel
theorem d_Mdl_step_17 : decode b_Mdl_step 17 = .ok (.aload_n 0, 1) := by decide +kernel
theorem d_Mdl_step_18 : decode b_Mdl_step 18 = .ok (.iconst 0, 1) := by decide +kernel
theorem d_Mdl_step_19 : decode b_Mdl_step 19 = .ok (.putfield 194, 3) := by decide +kernel
theorem d_Mdl_step_22 : decode b_Mdl_step 22 = .ok (.aload_n 0, 1) := by decide +kernel
theorem d_Mdl_step_23 : decode b_Mdl_step 23 = .ok (.sipush 490, 3) := by decide +kernel
theorem d_Mdl_step_26 : decode b_Mdl_step 26 = .ok (.invokevirtual 185, 3) := by decide +kernel
theorem d_Mdl_step_29 : decode b_Mdl_step 29 = .ok (.return_, 1) := by decide +kernel
theorem d_Mdl_step_30 : decode b_Mdl_step 30 = .ok (.aload_n 0, 1) := by decide +kernel
theorem d_Mdl_step_31 : decode b_Mdl_step 31 = .ok (.getfield 197, 3) := by decide +kernel
theorem d_Mdl_step_34 : decode b_Mdl_step 34 = .ok (.ifCond .eq 19, 3) := by decide +kernel
theorem d_Mdl_step_37 : decode b_Mdl_step 37 = .ok (.aload_n 0, 1) := by decide +kernel
theorem d_Mdl_step_38 : decode b_Mdl_step 38 = .ok (.iconst 4, 1) := by decide +kernel
theorem d_Mdl_step_39 : decode b_Mdl_step 39 = .ok (.invokevirtual 67, 3) := by decide +kernel
theorem d_Mdl_step_42 : decode b_Mdl_step 42 = .ok (.ifCond .ne 11, 3) := by decide +kernel
theorem d_Mdl_step_45 : decode b_Mdl_step 45 = .ok (.aload_n 0, 1) := by decide +kernel
theorem d_Mdl_step_46 : decode b_Mdl_step 46 = .ok (.sipush 494, 3) := by decide +kernel
theorem d_Mdl_step_49 : decode b_Mdl_step 49 = .ok (.invokevirtual 185, 3) := by decide +kernel
theorem d_Mdl_step_52 : decode b_Mdl_step 52 = .ok (.return_, 1) := by decide +kernel
theorem d_Mdl_step_53 : decode b_Mdl_step 53 = .ok (.aload_n 0, 1) := by decide +kernel
theorem d_Mdl_step_54 : decode b_Mdl_step 54 = .ok (.invokevirtual 61, 3) := by decide +kernel
theorem d_Mdl_step_57 : decode b_Mdl_step 57 = .ok (.istore_n 1, 1) := by decide +kernel
theorem d_Mdl_step_58 : decode b_Mdl_step 58 = .ok (.iload_n 1, 1) := by decide +kernel
theorem d_Mdl_step_59 : decode b_Mdl_step 59 = .ok (.bipush 31, 2) := by decide +kernel
theorem d_Mdl_step_61 : decode b_Mdl_step 61 = .ok (.iand, 1) := by decide +kernel
theorem d_Mdl_step_62 : decode b_Mdl_step 62 = .ok (.istore_n 2, 1) := by decide +kernel
theorem d_Mdl_step_63 : decode b_Mdl_step 63 = .ok (.iload_n 2, 1) := by decide +kernel
theorem d_Mdl_step_64 : decode b_Mdl_step 64 = .ok (.iconst 1, 1) := by decide +kernel
theorem d_Mdl_step_65 : decode b_Mdl_step 65 = .ok (.iand, 1) := by decide +kernel
theorem d_Mdl_step_66 : decode b_Mdl_step 66 = .ok (.iconst 1, 1) := by decide +kernel
theorem d_Mdl_step_67 : decode b_Mdl_step 67 = .ok (.if_icmp .ne 15, 3) := by decide +kernel
theorem d_Mdl_step_70 : decode b_Mdl_step 70 = .ok (.iload_n 2, 1) := by decide +kernel
theorem d_Mdl_step_71 : decode b_Mdl_step 71 = .ok (.bipush 11, 2) := by decide +kernel
theorem d_Mdl_step_73 : decode b_Mdl_step 73 = .ok (.if_icmp .eq 9, 3) := by decide +kernel
theorem d_Mdl_step_76 : decode b_Mdl_step 76 = .ok (.iload_n 2, 1) := by decide +kernel
theorem d_Mdl_step_77 : decode b_Mdl_step 77 = .ok (.bipush 27, 2) := by decide +kernel
theorem d_Mdl_step_79 : decode b_Mdl_step 79 = .ok (.if_icmp .ne 9, 3) := by decide +kernel
theorem d_Mdl_step_82 : decode b_Mdl_step 82 = .ok (.iload_n 2, 1) := by decide +kernel
theorem d_Mdl_step_83 : decode b_Mdl_step 83 = .ok (.bipush 18, 2) := by decide +kernel
theorem d_Mdl_step_85 : decode b_Mdl_step 85 = .ok (.if_icmp .ne 7, 3) := by decide +kernel
theorem d_Mdl_step_88 : decode b_Mdl_step 88 = .ok (.iconst 1, 1) := by decide +kernel
theorem d_Mdl_step_89 : decode b_Mdl_step 89 = .ok (.goto 4, 3) := by decide +kernel
theorem d_Mdl_step_92 : decode b_Mdl_step 92 = .ok (.iconst 0, 1) := by decide +kernel
theorem d_Mdl_step_93 : decode b_Mdl_step 93 = .ok (.istore_n 3, 1) := by decide +kernel
theorem d_Mdl_step_94 : decode b_Mdl_step 94 = .ok (.iload_n 3, 1) := by decide +kernel
theorem d_Mdl_step_95 : decode b_Mdl_step 95 = .ok (.ifCond .eq 11, 3) := by decide +kernel
theorem d_Mdl_step_98 : decode b_Mdl_step 98 = .ok (.aload_n 0, 1) := by decide +kernel
theorem d_Mdl_step_99 : decode b_Mdl_step 99 = .ok (.iload_n 1, 1) := by decide +kernel
theorem d_Mdl_step_100 : decode b_Mdl_step 100 = .ok (.invokevirtual 200, 3) := by decide +kernel
theorem d_Mdl_step_103 : decode b_Mdl_step 103 = .ok (.goto 56, 3) := by decide +kernel
theorem d_Mdl_step_106 : decode b_Mdl_step 106 = .ok (.aload_n 0, 1) := by decide +kernel
theorem d_Mdl_step_107 : decode b_Mdl_step 107 = .ok (.iload_n 1, 1) := by decide +kernel
theorem d_Mdl_step_108 : decode b_Mdl_step 108 = .ok (.invokevirtual 203, 3) := by decide +kernel
theorem d_Mdl_step_111 : decode b_Mdl_step 111 = .ok (.ifCond .ne 43, 3) := by decide +kernel
theorem d_Mdl_step_114 : decode b_Mdl_step 114 = .ok (.aload_n 0, 1) := by decide +kernel
theorem d_Mdl_step_115 : decode b_Mdl_step 115 = .ok (.iload_n 1, 1) := by decide +kernel
theorem d_Mdl_step_116 : decode b_Mdl_step 116 = .ok (.invokevirtual 206, 3) := by decide +kernel
theorem d_Mdl_step_119 : decode b_Mdl_step 119 = .ok (.ifCond .ne 35, 3) := by decide +kernel
theorem d_Mdl_step_122 : decode b_Mdl_step 122 = .ok (.aload_n 0, 1) := by decide +kernel
theorem d_Mdl_step_123 : decode b_Mdl_step 123 = .ok (.iload_n 1, 1) := by decide +kernel
theorem d_Mdl_step_124 : decode b_Mdl_step 124 = .ok (.invokevirtual 209, 3) := by decide +kernel
theorem d_Mdl_step_127 : decode b_Mdl_step 127 = .ok (.ifCond .ne 27, 3) := by decide +kernel
theorem d_Mdl_step_130 : decode b_Mdl_step 130 = .ok (.aload_n 0, 1) := by decide +kernel
theorem d_Mdl_step_131 : decode b_Mdl_step 131 = .ok (.iload_n 1, 1) := by decide +kernel
theorem d_Mdl_step_132 : decode b_Mdl_step 132 = .ok (.invokevirtual 212, 3) := by decide +kernel
theorem d_Mdl_step_135 : decode b_Mdl_step 135 = .ok (.ifCond .ne 19, 3) := by decide +kernel
theorem d_Mdl_step_138 : decode b_Mdl_step 138 = .ok (.aload_n 0, 1) := by decide +kernel
theorem d_Mdl_step_139 : decode b_Mdl_step 139 = .ok (.iload_n 1, 1) := by decide +kernel
theorem d_Mdl_step_140 : decode b_Mdl_step 140 = .ok (.invokevirtual 215, 3) := by decide +kernel
theorem d_Mdl_step_143 : decode b_Mdl_step 143 = .ok (.ifCond .ne 11, 3) := by decide +kernel
theorem d_Mdl_step_146 : decode b_Mdl_step 146 = .ok (.aload_n 0, 1) := by decide +kernel
theorem d_Mdl_step_147 : decode b_Mdl_step 147 = .ok (.iload_n 1, 1) := by decide +kernel
theorem d_Mdl_step_148 : decode b_Mdl_step 148 = .ok (.invokevirtual 218, 3) := by decide +kernel
theorem d_Mdl_step_151 : decode b_Mdl_step 151 = .ok (.ifCond .eq 7, 3) := by decide +kernel
theorem d_Mdl_step_154 : decode b_Mdl_step 154 = .ok (.iconst 1, 1) := by decide +kernel
theorem d_Mdl_step_155 : decode b_Mdl_step 155 = .ok (.goto 4, 3) := by decide +kernel
theorem d_Mdl_step_158 : decode b_Mdl_step 158 = .ok (.iconst 0, 1) := by decide +kernel
theorem d_Mdl_step_159 : decode b_Mdl_step 159 = .ok (.istore 4, 2) := by decide +kernel
theorem d_Mdl_step_161 : decode b_Mdl_step 161 = .ok (.aload_n 0, 1) := by decide +kernel
theorem d_Mdl_step_162 : decode b_Mdl_step 162 = .ok (.iload 4, 2) := by decide +kernel
theorem d_Mdl_step_164 : decode b_Mdl_step 164 = .ok (.ifCond .ne 7, 3) := by decide +kernel
theorem d_Mdl_step_167 : decode b_Mdl_step 167 = .ok (.iconst 1, 1) := by decide +kernel
theorem d_Mdl_step_168 : decode b_Mdl_step 168 = .ok (.goto 4, 3) := by decide +kernel
theorem d_Mdl_step_171 : decode b_Mdl_step 171 = .ok (.iconst 0, 1) := by decide +kernel
theorem d_Mdl_step_172 : decode b_Mdl_step 172 = .ok (.putfield 221, 3) := by decide +kernel
theorem d_Mdl_step_175 : decode b_Mdl_step 175 = .ok (.return_, 1) := by decide +kernel
theorem d_Mdl_poke_0 : decode b_Mdl_poke 0 = .ok (.iload_n 3, 1) := by decide +kernel
theorem d_Mdl_poke_1 : decode b_Mdl_poke 1 = .ok (.iconst 1, 1) := by decide +kernel
theorem d_Mdl_poke_2 : decode b_Mdl_poke 2 = .ok (.if_icmp .lt 21, 3) := by decide +kernel
theorem d_Mdl_poke_5 : decode b_Mdl_poke 5 = .ok (.iload_n 3, 1) := by decide +kernel
theorem d_Mdl_poke_6 : decode b_Mdl_poke 6 = .ok (.iconst 4, 1) := by decide +kernel
theorem d_Mdl_poke_7 : decode b_Mdl_poke 7 = .ok (.if_icmp .gt 16, 3) := by decide +kernel
theorem d_Mdl_poke_10 : decode b_Mdl_poke 10 = .ok (.iload_n 1, 1) := by decide +kernel
theorem d_Mdl_poke_11 : decode b_Mdl_poke 11 = .ok (.ifCond .lt 12, 3) := by decide +kernel
theorem d_Mdl_poke_14 : decode b_Mdl_poke 14 = .ok (.iload_n 1, 1) := by decide +kernel
theorem d_Mdl_poke_15 : decode b_Mdl_poke 15 = .ok (.sipush 1024, 3) := by decide +kernel
theorem d_Mdl_poke_18 : decode b_Mdl_poke 18 = .ok (.iload_n 3, 1) := by decide +kernel
theorem d_Mdl_poke_19 : decode b_Mdl_poke 19 = .ok (.isub, 1) := by decide +kernel
theorem d_Mdl_poke_20 : decode b_Mdl_poke 20 = .ok (.if_icmp .le 5, 3) := by decide +kernel
theorem d_Mdl_poke_23 : decode b_Mdl_poke 23 = .ok (.iconst 0, 1) := by decide +kernel
theorem d_Mdl_poke_24 : decode b_Mdl_poke 24 = .ok (.ireturn, 1) := by decide +kernel
theorem d_Mdl_poke_25 : decode b_Mdl_poke 25 = .ok (.iconst 0, 1) := by decide +kernel
theorem d_Mdl_poke_26 : decode b_Mdl_poke 26 = .ok (.istore 4, 2) := by decide +kernel
theorem d_Mdl_poke_28 : decode b_Mdl_poke 28 = .ok (.iload 4, 2) := by decide +kernel
theorem d_Mdl_poke_30 : decode b_Mdl_poke 30 = .ok (.iload_n 3, 1) := by decide +kernel
theorem d_Mdl_poke_31 : decode b_Mdl_poke 31 = .ok (.if_icmp .ge 29, 3) := by decide +kernel
theorem d_Mdl_poke_34 : decode b_Mdl_poke 34 = .ok (.aload_n 0, 1) := by decide +kernel
theorem d_Mdl_poke_35 : decode b_Mdl_poke 35 = .ok (.getfield 7, 3) := by decide +kernel
theorem d_Mdl_poke_38 : decode b_Mdl_poke 38 = .ok (.iload_n 1, 1) := by decide +kernel
theorem d_Mdl_poke_39 : decode b_Mdl_poke 39 = .ok (.iload 4, 2) := by decide +kernel
theorem d_Mdl_poke_41 : decode b_Mdl_poke 41 = .ok (.iadd, 1) := by decide +kernel
theorem d_Mdl_poke_42 : decode b_Mdl_poke 42 = .ok (.iload_n 2, 1) := by decide +kernel
theorem d_Mdl_poke_43 : decode b_Mdl_poke 43 = .ok (.bipush 8, 2) := by decide +kernel
theorem d_Mdl_poke_45 : decode b_Mdl_poke 45 = .ok (.iload 4, 2) := by decide +kernel
theorem d_Mdl_poke_47 : decode b_Mdl_poke 47 = .ok (.imul, 1) := by decide +kernel
theorem d_Mdl_poke_48 : decode b_Mdl_poke 48 = .ok (.ishr, 1) := by decide +kernel
theorem d_Mdl_poke_49 : decode b_Mdl_poke 49 = .ok (.sipush 255, 3) := by decide +kernel
theorem d_Mdl_poke_52 : decode b_Mdl_poke 52 = .ok (.iand, 1) := by decide +kernel
theorem d_Mdl_poke_53 : decode b_Mdl_poke 53 = .ok (.iastore, 1) := by decide +kernel
theorem d_Mdl_poke_54 : decode b_Mdl_poke 54 = .ok (.iinc 4 1, 3) := by decide +kernel
theorem d_Mdl_poke_57 : decode b_Mdl_poke 57 = .ok (.goto (-29), 3) := by decide +kernel
theorem d_Mdl_poke_60 : decode b_Mdl_poke 60 = .ok (.iconst 1, 1) := by decide +kernel
theorem d_Mdl_poke_61 : decode b_Mdl_poke 61 = .ok (.ireturn, 1) := by decide +kernel
theorem d_Mdl_peek_0 : decode b_Mdl_peek 0 = .ok (.iload_n 1, 1) := by decide +kernel
theorem d_Mdl_peek_1 : decode b_Mdl_peek 1 = .ok (.ifCond .lt 19, 3) := by decide +kernel
theorem d_Mdl_peek_4 : decode b_Mdl_peek 4 = .ok (.iload_n 1, 1) := by decide +kernel
theorem d_Mdl_peek_5 : decode b_Mdl_peek 5 = .ok (.sipush 1024, 3) := by decide +kernel
theorem d_Mdl_peek_8 : decode b_Mdl_peek 8 = .ok (.if_icmp .ge 12, 3) := by decide +kernel
theorem d_Mdl_peek_11 : decode b_Mdl_peek 11 = .ok (.aload_n 0, 1) := by decide +kernel
theorem d_Mdl_peek_12 : decode b_Mdl_peek 12 = .ok (.getfield 7, 3) := by decide +kernel
theorem d_Mdl_peek_15 : decode b_Mdl_peek 15 = .ok (.iload_n 1, 1) := by decide +kernel
theorem d_Mdl_peek_16 : decode b_Mdl_peek 16 = .ok (.iaload, 1) := by decide +kernel
theorem d_Mdl_peek_17 : decode b_Mdl_peek 17 = .ok (.goto 4, 3) := by decide +kernel
theorem d_Mdl_peek_20 : decode b_Mdl_peek 20 = .ok (.iconst (-1), 1) := by decide +kernel
theorem d_Mdl_peek_21 : decode b_Mdl_peek 21 = .ok (.ireturn, 1) := by decide +kernel
theorem d_Mdl_start_0 : decode b_Mdl_start 0 = .ok (.iload_n 1, 1) := by decide +kernel
theorem d_Mdl_start_1 : decode b_Mdl_start 1 = .ok (.ifCond .lt 20, 3) := by decide +kernel
theorem d_Mdl_start_4 : decode b_Mdl_start 4 = .ok (.iload_n 1, 1) := by decide +kernel
theorem d_Mdl_start_5 : decode b_Mdl_start 5 = .ok (.sipush 255, 3) := by decide +kernel
theorem d_Mdl_start_8 : decode b_Mdl_start 8 = .ok (.if_icmp .gt 13, 3) := by decide +kernel
theorem d_Mdl_start_11 : decode b_Mdl_start 11 = .ok (.iload_n 2, 1) := by decide +kernel
theorem d_Mdl_start_12 : decode b_Mdl_start 12 = .ok (.ifCond .lt 9, 3) := by decide +kernel
theorem d_Mdl_start_15 : decode b_Mdl_start 15 = .ok (.iload_n 2, 1) := by decide +kernel
theorem d_Mdl_start_16 : decode b_Mdl_start 16 = .ok (.ldc 35, 2) := by decide +kernel
theorem d_Mdl_start_18 : decode b_Mdl_start 18 = .ok (.if_icmp .le 5, 3) := by decide +kernel
theorem d_Mdl_start_21 : decode b_Mdl_start 21 = .ok (.iconst 0, 1) := by decide +kernel
theorem d_Mdl_start_22 : decode b_Mdl_start 22 = .ok (.ireturn, 1) := by decide +kernel
theorem d_Mdl_start_23 : decode b_Mdl_start 23 = .ok (.aload_n 0, 1) := by decide +kernel
theorem d_Mdl_start_24 : decode b_Mdl_start 24 = .ok (.iload_n 1, 1) := by decide +kernel
theorem d_Mdl_start_25 : decode b_Mdl_start 25 = .ok (.putfield 55, 3) := by decide +kernel
theorem d_Mdl_start_28 : decode b_Mdl_start 28 = .ok (.aload_n 0, 1) := by decide +kernel
theorem d_Mdl_start_29 : decode b_Mdl_start 29 = .ok (.iload_n 2, 1) := by decide +kernel
theorem d_Mdl_start_30 : decode b_Mdl_start 30 = .ok (.putfield 58, 3) := by decide +kernel
theorem d_Mdl_start_33 : decode b_Mdl_start 33 = .ok (.aload_n 0, 1) := by decide +kernel
theorem d_Mdl_start_34 : decode b_Mdl_start 34 = .ok (.iconst 0, 1) := by decide +kernel
theorem d_Mdl_start_35 : decode b_Mdl_start 35 = .ok (.putfield 221, 3) := by decide +kernel
theorem d_Mdl_start_38 : decode b_Mdl_start 38 = .ok (.iconst 1, 1) := by decide +kernel
theorem d_Mdl_start_39 : decode b_Mdl_start 39 = .ok (.ireturn, 1) := by decide +kernel
theorem d_Mdl_set_0 : decode b_Mdl_set 0 = .ok (.iload_n 1, 1) := by decide +kernel
theorem d_Mdl_set_1 : decode b_Mdl_set 1 = .ok (.tableswitch 132 0 6 #[43, 54, 72, 90, 101, 112, 124], 43) := by decide +kernel
theorem d_Mdl_set_44 : decode b_Mdl_set 44 = .ok (.aload_n 0, 1) := by decide +kernel
theorem d_Mdl_set_45 : decode b_Mdl_set 45 = .ok (.iload_n 2, 1) := by decide +kernel
theorem d_Mdl_set_46 : decode b_Mdl_set 46 = .ok (.ldc 35, 2) := by decide +kernel
theorem d_Mdl_set_48 : decode b_Mdl_set 48 = .ok (.iand, 1) := by decide +kernel
theorem d_Mdl_set_49 : decode b_Mdl_set 49 = .ok (.putfield 71, 3) := by decide +kernel
theorem d_Mdl_set_52 : decode b_Mdl_set 52 = .ok (.goto 83, 3) := by decide +kernel
theorem d_Mdl_set_55 : decode b_Mdl_set 55 = .ok (.aload_n 0, 1) := by decide +kernel
theorem d_Mdl_set_56 : decode b_Mdl_set 56 = .ok (.aload_n 0, 1) := by decide +kernel
theorem d_Mdl_set_57 : decode b_Mdl_set 57 = .ok (.iload_n 2, 1) := by decide +kernel
theorem d_Mdl_set_58 : decode b_Mdl_set 58 = .ok (.aload_n 0, 1) := by decide +kernel
theorem d_Mdl_set_59 : decode b_Mdl_set 59 = .ok (.bipush 16, 2) := by decide +kernel
theorem d_Mdl_set_61 : decode b_Mdl_set 61 = .ok (.invokevirtual 67, 3) := by decide +kernel
theorem d_Mdl_set_64 : decode b_Mdl_set 64 = .ok (.invokevirtual 75, 3) := by decide +kernel
theorem d_Mdl_set_67 : decode b_Mdl_set 67 = .ok (.putfield 83, 3) := by decide +kernel
theorem d_Mdl_set_70 : decode b_Mdl_set 70 = .ok (.goto 65, 3) := by decide +kernel
theorem d_Mdl_set_73 : decode b_Mdl_set 73 = .ok (.aload_n 0, 1) := by decide +kernel
theorem d_Mdl_set_74 : decode b_Mdl_set 74 = .ok (.aload_n 0, 1) := by decide +kernel
theorem d_Mdl_set_75 : decode b_Mdl_set 75 = .ok (.iload_n 2, 1) := by decide +kernel
theorem d_Mdl_set_76 : decode b_Mdl_set 76 = .ok (.aload_n 0, 1) := by decide +kernel
theorem d_Mdl_set_77 : decode b_Mdl_set 77 = .ok (.bipush 16, 2) := by decide +kernel
theorem d_Mdl_set_79 : decode b_Mdl_set 79 = .ok (.invokevirtual 67, 3) := by decide +kernel
theorem d_Mdl_set_82 : decode b_Mdl_set 82 = .ok (.invokevirtual 75, 3) := by decide +kernel
theorem d_Mdl_set_85 : decode b_Mdl_set 85 = .ok (.putfield 86, 3) := by decide +kernel
theorem d_Mdl_set_88 : decode b_Mdl_set 88 = .ok (.goto 47, 3) := by decide +kernel
theorem d_Mdl_set_91 : decode b_Mdl_set 91 = .ok (.aload_n 0, 1) := by decide +kernel
theorem d_Mdl_set_92 : decode b_Mdl_set 92 = .ok (.iload_n 2, 1) := by decide +kernel
theorem d_Mdl_set_93 : decode b_Mdl_set 93 = .ok (.ldc 35, 2) := by decide +kernel
theorem d_Mdl_set_95 : decode b_Mdl_set 95 = .ok (.iand, 1) := by decide +kernel
theorem d_Mdl_set_96 : decode b_Mdl_set 96 = .ok (.putfield 13, 3) := by decide +kernel
theorem d_Mdl_set_99 : decode b_Mdl_set 99 = .ok (.goto 36, 3) := by decide +kernel
theorem d_Mdl_set_102 : decode b_Mdl_set 102 = .ok (.aload_n 0, 1) := by decide +kernel
theorem d_Mdl_set_103 : decode b_Mdl_set 103 = .ok (.iload_n 2, 1) := by decide +kernel
theorem d_Mdl_set_104 : decode b_Mdl_set 104 = .ok (.ldc 35, 2) := by decide +kernel
theorem d_Mdl_set_106 : decode b_Mdl_set 106 = .ok (.iand, 1) := by decide +kernel
theorem d_Mdl_set_107 : decode b_Mdl_set 107 = .ok (.putfield 89, 3) := by decide +kernel
theorem d_Mdl_set_110 : decode b_Mdl_set 110 = .ok (.goto 25, 3) := by decide +kernel
theorem d_Mdl_set_113 : decode b_Mdl_set 113 = .ok (.aload_n 0, 1) := by decide +kernel
theorem d_Mdl_set_114 : decode b_Mdl_set 114 = .ok (.iload_n 2, 1) := by decide +kernel
theorem d_Mdl_set_115 : decode b_Mdl_set 115 = .ok (.sipush 255, 3) := by decide +kernel
theorem d_Mdl_set_118 : decode b_Mdl_set 118 = .ok (.iand, 1) := by decide +kernel
theorem d_Mdl_set_119 : decode b_Mdl_set 119 = .ok (.putfield 102, 3) := by decide +kernel
theorem d_Mdl_set_122 : decode b_Mdl_set 122 = .ok (.goto 13, 3) := by decide +kernel
theorem d_Mdl_set_125 : decode b_Mdl_set 125 = .ok (.aload_n 0, 1) := by decide +kernel
theorem d_Mdl_set_126 : decode b_Mdl_set 126 = .ok (.iload_n 2, 1) := by decide +kernel
theorem d_Mdl_set_127 : decode b_Mdl_set 127 = .ok (.invokevirtual 173, 3) := by decide +kernel
theorem d_Mdl_set_130 : decode b_Mdl_set 130 = .ok (.goto 5, 3) := by decide +kernel
theorem d_Mdl_set_133 : decode b_Mdl_set 133 = .ok (.iconst 0, 1) := by decide +kernel
theorem d_Mdl_set_134 : decode b_Mdl_set 134 = .ok (.ireturn, 1) := by decide +kernel
theorem d_Mdl_set_135 : decode b_Mdl_set 135 = .ok (.iconst 1, 1) := by decide +kernel
theorem d_Mdl_set_136 : decode b_Mdl_set 136 = .ok (.ireturn, 1) := by decide +kernel
theorem d_Mdl_register_0 : decode b_Mdl_register 0 = .ok (.iload_n 1, 1) := by decide +kernel
theorem d_Mdl_register_1 : decode b_Mdl_register 1 = .ok (.tableswitch 96 0 8 #[51, 56, 61, 66, 71, 76, 81, 86, 91], 51) := by decide +kernel
theorem d_Mdl_register_52 : decode b_Mdl_register 52 = .ok (.aload_n 0, 1) := by decide +kernel
theorem d_Mdl_register_53 : decode b_Mdl_register 53 = .ok (.getfield 71, 3) := by decide +kernel
theorem d_Mdl_register_56 : decode b_Mdl_register 56 = .ok (.ireturn, 1) := by decide +kernel
theorem d_Mdl_register_57 : decode b_Mdl_register 57 = .ok (.aload_n 0, 1) := by decide +kernel
theorem d_Mdl_register_58 : decode b_Mdl_register 58 = .ok (.getfield 83, 3) := by decide +kernel
theorem d_Mdl_register_61 : decode b_Mdl_register 61 = .ok (.ireturn, 1) := by decide +kernel
theorem d_Mdl_register_62 : decode b_Mdl_register 62 = .ok (.aload_n 0, 1) := by decide +kernel
theorem d_Mdl_register_63 : decode b_Mdl_register 63 = .ok (.getfield 86, 3) := by decide +kernel
theorem d_Mdl_register_66 : decode b_Mdl_register 66 = .ok (.ireturn, 1) := by decide +kernel
theorem d_Mdl_register_67 : decode b_Mdl_register 67 = .ok (.aload_n 0, 1) := by decide +kernel
theorem d_Mdl_register_68 : decode b_Mdl_register 68 = .ok (.getfield 13, 3) := by decide +kernel
theorem d_Mdl_register_71 : decode b_Mdl_register 71 = .ok (.ireturn, 1) := by decide +kernel
theorem d_Mdl_register_72 : decode b_Mdl_register 72 = .ok (.aload_n 0, 1) := by decide +kernel
theorem d_Mdl_register_73 : decode b_Mdl_register 73 = .ok (.getfield 89, 3) := by decide +kernel
theorem d_Mdl_register_76 : decode b_Mdl_register 76 = .ok (.ireturn, 1) := by decide +kernel
theorem d_Mdl_register_77 : decode b_Mdl_register 77 = .ok (.aload_n 0, 1) := by decide +kernel
theorem d_Mdl_register_78 : decode b_Mdl_register 78 = .ok (.getfield 102, 3) := by decide +kernel
theorem d_Mdl_register_81 : decode b_Mdl_register 81 = .ok (.ireturn, 1) := by decide +kernel
theorem d_Mdl_register_82 : decode b_Mdl_register 82 = .ok (.aload_n 0, 1) := by decide +kernel
theorem d_Mdl_register_83 : decode b_Mdl_register 83 = .ok (.getfield 17, 3) := by decide +kernel
theorem d_Mdl_register_86 : decode b_Mdl_register 86 = .ok (.ireturn, 1) := by decide +kernel
theorem d_Mdl_register_87 : decode b_Mdl_register 87 = .ok (.aload_n 0, 1) := by decide +kernel
theorem d_Mdl_register_88 : decode b_Mdl_register 88 = .ok (.getfield 55, 3) := by decide +kernel
theorem d_Mdl_register_91 : decode b_Mdl_register 91 = .ok (.ireturn, 1) := by decide +kernel
theorem d_Mdl_register_92 : decode b_Mdl_register 92 = .ok (.aload_n 0, 1) := by decide +kernel
theorem d_Mdl_register_93 : decode b_Mdl_register 93 = .ok (.getfield 58, 3) := by decide +kernel
theorem d_Mdl_register_96 : decode b_Mdl_register 96 = .ok (.ireturn, 1) := by decide +kernel
theorem d_Mdl_register_97 : decode b_Mdl_register 97 = .ok (.iconst (-1), 1) := by decide +kernel
theorem d_Mdl_register_98 : decode b_Mdl_register 98 = .ok (.ireturn, 1) := by decide +kernel
theorem d_Mdl_stopped_0 : decode b_Mdl_stopped 0 = .ok (.aload_n 0, 1) := by decide +kernel
theorem d_Mdl_stopped_1 : decode b_Mdl_stopped 1 = .ok (.getfield 221, 3) := by decide +kernel
theorem d_Mdl_stopped_4 : decode b_Mdl_stopped 4 = .ok (.ireturn, 1) := by decide +kernel
theorem d_Mdl_interrupt_0 : decode b_Mdl_interrupt 0 = .ok (.aload_n 0, 1) := by decide +kernel
theorem d_Mdl_interrupt_1 : decode b_Mdl_interrupt 1 = .ok (.getfield 194, 3) := by decide +kernel
theorem d_Mdl_interrupt_4 : decode b_Mdl_interrupt 4 = .ok (.istore_n 1, 1) := by decide +kernel
theorem d_Mdl_interrupt_5 : decode b_Mdl_interrupt 5 = .ok (.aload_n 0, 1) := by decide +kernel
theorem d_Mdl_interrupt_6 : decode b_Mdl_interrupt 6 = .ok (.iconst 1, 1) := by decide +kernel
theorem d_Mdl_interrupt_7 : decode b_Mdl_interrupt 7 = .ok (.putfield 194, 3) := by decide +kernel
theorem d_Mdl_interrupt_10 : decode b_Mdl_interrupt 10 = .ok (.iload_n 1, 1) := by decide +kernel
theorem d_Mdl_interrupt_11 : decode b_Mdl_interrupt 11 = .ok (.ifCond .ne 7, 3) := by decide +kernel
theorem d_Mdl_interrupt_14 : decode b_Mdl_interrupt 14 = .ok (.iconst 1, 1) := by decide +kernel
theorem d_Mdl_interrupt_15 : decode b_Mdl_interrupt 15 = .ok (.goto 4, 3) := by decide +kernel
theorem d_Mdl_interrupt_18 : decode b_Mdl_interrupt 18 = .ok (.iconst 0, 1) := by decide +kernel
theorem d_Mdl_interrupt_19 : decode b_Mdl_interrupt 19 = .ok (.ireturn, 1) := by decide +kernel
theorem d_Mdl_line_0 : decode b_Mdl_line 0 = .ok (.aload_n 0, 1) := by decide +kernel
theorem d_Mdl_line_1 : decode b_Mdl_line 1 = .ok (.iload_n 1, 1) := by decide +kernel
theorem d_Mdl_line_2 : decode b_Mdl_line 2 = .ok (.putfield 197, 3) := by decide +kernel
theorem d_Mdl_line_5 : decode b_Mdl_line 5 = .ok (.return_, 1) := by decide +kernel
theorem d_Mdl_touches_0 : decode b_Mdl_touches 0 = .ok (.aload_n 0, 1) := by decide +kernel
theorem d_Mdl_touches_1 : decode b_Mdl_touches 1 = .ok (.getfield 23, 3) := by decide +kernel
theorem d_Mdl_touches_4 : decode b_Mdl_touches 4 = .ok (.ireturn, 1) := by decide +kernel
theorem d_Mdl_touched_0 : decode b_Mdl_touched 0 = .ok (.iload_n 1, 1) := by decide +kernel
theorem d_Mdl_touched_1 : decode b_Mdl_touched 1 = .ok (.ifCond .lt 26, 3) := by decide +kernel
theorem d_Mdl_touched_4 : decode b_Mdl_touched 4 = .ok (.iload_n 1, 1) := by decide +kernel
theorem d_Mdl_touched_5 : decode b_Mdl_touched 5 = .ok (.bipush 8, 2) := by decide +kernel
theorem d_Mdl_touched_7 : decode b_Mdl_touched 7 = .ok (.if_icmp .ge 20, 3) := by decide +kernel
theorem d_Mdl_touched_10 : decode b_Mdl_touched 10 = .ok (.iload_n 1, 1) := by decide +kernel
theorem d_Mdl_touched_11 : decode b_Mdl_touched 11 = .ok (.aload_n 0, 1) := by decide +kernel
theorem d_Mdl_touched_12 : decode b_Mdl_touched 12 = .ok (.getfield 23, 3) := by decide +kernel
theorem d_Mdl_touched_15 : decode b_Mdl_touched 15 = .ok (.if_icmp .ge 12, 3) := by decide +kernel
end
section
theorem d_Mdl_touched_18 : decode b_Mdl_touched 18 = .ok (.aload_n 0, 1) := by decide +kernel
theorem d_Mdl_touched_19 : decode b_Mdl_touched 19 = .ok (.getfield 20, 3) := by decide +kernel
theorem d_Mdl_touched_22 : decode b_Mdl_touched 22 = .ok (.iload_n 1, 1) := by decide +kernel
theorem d_Mdl_touched_23 : decode b_Mdl_touched 23 = .ok (.iaload, 1) := by decide +kernel
theorem d_Mdl_touched_24 : decode b_Mdl_touched 24 = .ok (.goto 4, 3) := by decide +kernel
theorem d_Mdl_touched_27 : decode b_Mdl_touched 27 = .ok (.iconst (-1), 1) := by decide +kernel
theorem d_Mdl_touched_28 : decode b_Mdl_touched 28 = .ok (.ireturn, 1) := by decide +kernel
theorem d_Mdl_steps_0 : decode b_Mdl_steps 0 = .ok (.aload_n 0, 1) := by decide +kernel
theorem d_Mdl_steps_1 : decode b_Mdl_steps 1 = .ok (.getfield 191, 3) := by decide +kernel
theorem d_Mdl_steps_4 : decode b_Mdl_steps 4 = .ok (.ireturn, 1) := by decide +kernel
end
section
abbrev Sc : Type := (Nat → Int32) × (Nat → Int32) × (Nat → Int32)
def pr (S : Sc) (k : Nat) (v : Int32) : Sc := (upd S.1 k v, S.2)
def pm (S : Sc) (k : Nat) (v : Int32) : Sc := (S.1, upd S.2.1 k v, S.2.2)
def pl (S : Sc) (k : Nat) (v : Int32) : Sc := (S.1, S.2.1, upd S.2.2 k v)
def bn {α : Type} (x : Int32 × Sc) (F : Int32 → Sc → α) : α := F x.1 x.2
def bs {α : Type} (x : Sc) (F : Sc → α) : α := F x
theorem bn_eq {α : Type} {x : Int32 × Sc} {r : Int32} {S : Sc} (e : x = (r, S)) {F : Int32 → Sc → α} : bn x F = F r S := by subst e; rfl
theorem bs_eq {α : Type} {x S : Sc} (e : x = S) {F : Sc → α} : bs x F = F S := by subst e; rfl
def bf : Nat → Int32 := fun k => match k with
  | 0 => 128
  | 1 => 64
  | 2 => 1
  | _ => 2
end
section
abbrev tysB (cB cI : ClassId) : List (ClassId × FieldType) := [(cB, .byte), (cI, .int)]
abbrev fs_Wc (a : Nat → Nat) : List Value := [.ref (a 1), .ref (a 2), .ref (a 3)]
abbrev fs_Bus (a : Nat → Nat) (S : Sc) : List Value := [.ref (a 6), .ref (a 7), .int (S.1 9)]
abbrev fs_Reg (S : Sc) : List Value := [.int (S.1 0), .int (S.1 1), .int (S.1 2), .int (S.1 3), .int (S.1 4), .int (S.1 5), .int (S.1 6), .int (S.1 7), .int (S.1 8)]
abbrev fs_Prc (a : Nat → Nat) (S : Sc) : List Value := [.ref (a 1), .ref (a 2), .ref (a 4), .ref (a 5), .int (S.1 10), .int (S.1 11), .int (S.1 12), .int (S.1 13)]
abbrev fs_Opd (a : Nat → Nat) : List Value := [.ref (a 1), .ref (a 2)]
abbrev fs_Mdl (a : Nat → Nat) (S : Sc) : List Value := [.ref (a 1), .int (S.1 0), .int (S.1 1), .int (S.1 2), .int (S.1 3), .int (S.1 4), .int (S.1 5), .int (S.1 6), .int (S.1 7), .int (S.1 8), .int (S.1 9), .int (S.1 10), .int (S.1 11), .int (S.1 12), .int (S.1 13), .ref (a 2), .int (S.1 14), .int (S.1 15)]
def wdC (cB cI : ClassId) (a : Nat → Nat) (S : Sc) : va_W := [(a 0, .inr (0, fs_Wc a)), (a 1, .inr (1, fs_Bus a S)), (a 2, .inr (2, fs_Reg S)), (a 3, .inr (3, fs_Prc a S)), (a 4, .inr (4, fs_Opd a)), (a 5, .inr (5, fs_Opd a)), (a 6, .inl (cB, 1024, .inl S.2.1)), (a 7, .inl (cI, 8, .inl S.2.2))]
def wdT (cI : ClassId) (a : Nat → Nat) (S : Sc) : va_W := [(a 0, .inr (6, fs_Mdl a S)), (a 1, .inl (cI, 1024, .inl S.2.1)), (a 2, .inl (cI, 8, .inl S.2.2))]
def ow (a : Nat → Nat) (n : Nat) : Nat → Prop := fun q => ∃ k, k < n ∧ q = a k
def ap (a : Nat → Nat) (n : Nat) : Prop := ∀ i j, i < n → j < n → a i = a j → i = j
theorem wdC_at {cB cI : ClassId} {a : Nat → Nat} {S : Sc} {i : Nat} {q : Nat × va_E} (h : (wdC cB cI a S)[i]? = some q) : i < 8 ∧ q.1 = a i := by
  match i, h with
  | 0, h => cases h; exact ⟨by decide, rfl⟩
  | 1, h => cases h; exact ⟨by decide, rfl⟩
  | 2, h => cases h; exact ⟨by decide, rfl⟩
  | 3, h => cases h; exact ⟨by decide, rfl⟩
  | 4, h => cases h; exact ⟨by decide, rfl⟩
  | 5, h => cases h; exact ⟨by decide, rfl⟩
  | 6, h => cases h; exact ⟨by decide, rfl⟩
  | 7, h => cases h; exact ⟨by decide, rfl⟩
  | n + 8, h => cases h
theorem wdT_at {cI : ClassId} {a : Nat → Nat} {S : Sc} {i : Nat} {q : Nat × va_E} (h : (wdT cI a S)[i]? = some q) : i < 3 ∧ q.1 = a i := by
  match i, h with
  | 0, h => cases h; exact ⟨by decide, rfl⟩
  | 1, h => cases h; exact ⟨by decide, rfl⟩
  | 2, h => cases h; exact ⟨by decide, rfl⟩
  | n + 3, h => cases h
theorem wdC_D {a : Nat → Nat} (ha : ap a 8) (cB cI : ClassId) (S : Sc) : va_D (ow a 8) (wdC cB cI a S) :=
  ⟨fun i j _ _ hi hj e => ha i j (wdC_at hi).1 (wdC_at hj).1 (by rw [← (wdC_at hi).2, ← (wdC_at hj).2]; exact e), fun k _ h => ⟨k, (wdC_at h).1, (wdC_at h).2⟩⟩
theorem wdT_D {a : Nat → Nat} (ha : ap a 3) (cI : ClassId) (S : Sc) : va_D (ow a 3) (wdT cI a S) :=
  ⟨fun i j _ _ hi hj e => ha i j (wdT_at hi).1 (wdT_at hj).1 (by rw [← (wdT_at hi).2, ← (wdT_at hj).2]; exact e), fun k _ h => ⟨k, (wdT_at h).1, (wdT_at h).2⟩⟩
def PX (D : va_G) (cB cI : ClassId) (w : Sc → va_W) (A : Nat → Prop) (bz : Nat) (S : Sc) (U : State) : Prop :=
  va_K D classes (tysB cB cI) U ∧ va_P D classes (w S) U.heap ∧ va_Z R_Prc "BRANCH_FLAGS" "[I" (.ref bz) A U U.heap ∧ va_T .int bz 4 (fun j => .int (bf j)) A U U.heap
def CX (p : Program) (m : MethodId) (c : Code) (cc : ByteArray) (nL : Nat) (s : State) (args : Array Value) (own : String) (D : va_G) (cB cI : ClassId) (w : Sc → va_W) (A : Nat → Prop) (bz : Nat) : Prop :=
  CallFix p m c cc nL s args WS own ∧ va_K D classes (tysB cB cI) s ∧ (∀ S, va_D A (w S)) ∧ va_Z R_Prc "BRANCH_FLAGS" "[I" (.ref bz) A s s.heap ∧ va_T .int bz 4 (fun j => .int (bf j)) A s s.heap
abbrev QI (D : va_G) (w : Sc → va_W) (A : Nat → Prop) (F : Int32 × Sc) : Array Value → State → Outcome → State → Prop := va_Qi (S := Sc) (fun r u => F = (r, u)) (fun u t => va_P D classes (w u) t.heap) A
abbrev QV (D : va_G) (w : Sc → va_W) (A : Nat → Prop) (F : Sc) : Array Value → State → Outcome → State → Prop := va_Qv (S := Sc) (fun u => F = u) (fun u t => va_P D classes (w u) t.heap) A
abbrev MI (l : Launch) (y : MethodName) (bytes : ByteArray) (maxL : Nat) (ret : Option FieldType) (rm : Room) (av : List Value) (D : va_G) (cB cI : ClassId) (w : Sc → va_W) (A : Nat → Prop) (bz : Nat) (S : Sc) (F : Int32 × Sc) : Prop :=
  Met l y (Cond.code y bytes maxL ret :: WS) rm (va_Pc av (PX D cB cI w A bz S)) (QI D w A F) 0 0 A
abbrev MV (l : Launch) (y : MethodName) (bytes : ByteArray) (maxL : Nat) (rm : Room) (av : List Value) (D : va_G) (cB cI : ClassId) (w : Sc → va_W) (A : Nat → Prop) (bz : Nat) (S : Sc) (F : Sc) : Prop :=
  Met l y (Cond.code y bytes maxL none :: WS) rm (va_Pc av (PX D cB cI w A bz S)) (QV D w A F) 0 0 A
section MineA
variable {p : Program} {l : Launch} {e : Env} {R : Room} {s : State} {m : MethodId} {args : Array Value} {below : List Frame} {meth : Method} {c : Code} {H : Heap} {locs : List Loc} {Q : State → Prop}
variable {cc : ByteArray} {pc nL : Nat} {ls : Array Slot} {rest : List Value} {D : va_G} {cB cI : ClassId} {w : Sc → va_W} {A : Nat → Prop} {bz : Nat} {own : String} {S : Sc}
theorem PX_blind {av : List Value} : FrameBlind (va_Pc av (PX D cB cI w A bz S)) := fun a U g mk q => by
  obtain ⟨q0, qK, qP, qZ, qT⟩ := q
  exact ⟨q0, va_K.moved (u := U) (U := U.calling g mk a) (Vm.Alike.refl U.vm) qK, qP, va_Z.moved (u := U) (U := U.calling g mk a) (Vm.Alike.refl U.vm) qZ, va_T.moved (u := U) (U := U.calling g mk a) (Vm.Alike.refl U.vm) qT⟩
theorem PX_in (X : CX p m c cc nL s args own D cB cI w A bz) (hP : va_P D classes (w S) H) (hS : va_S A s.heap H locs) {U : State} (hU : U.heap = H) (hW : s.WarmedH U.vm) : PX D cB cI w A bz S U := by
  obtain ⟨-, hK, -, hZ, hT⟩ := X
  exact ⟨va_K.moved hW.alike hK, by rw [hU]; exact hP, by rw [hU]; exact (va_Z.moved hW.alike hZ).kept hS.2.1, by rw [hU]; exact (va_T.moved hW.alike hT).kept hS.2.1⟩
theorem met_in {y : MethodName} {maxL : Nat} {ret : Option FieldType} {rm : Room} {av : List Value} {Qc : Array Value → State → Outcome → State → Prop} (own : String) (hy : plainName y.cls = true) (ho : y.cls = own) (hav : (lg_sl av).length ≤ maxL) (hD : ∀ S, va_D A (w S))
    (body : ∀ (p : Program) (e : Env) (s : State) (m : MethodId) (below : List Frame) (meth : Method) (c : Code) (ls : Array Slot), CX p m c cc maxL s av.toArray own D cB cI w A bz → meth.sig.returnType = ret → meth.locks = false → lv_has ls maxL (lv_args 0 av) → va_P D classes (w S) s.heap → va_S A s.heap s.heap [] →
      W p l e rm s m av.toArray below meth c s.heap [] 0 0 (MQ below Qc av.toArray s 0 0 A) (F0 m 0 ls [])) : Met l y (Cond.code y cc maxL ret :: WS) rm (va_Pc av (PX D cB cI w A bz S)) Qc 0 0 A := by
  refine Met.ofW (cc := cc) (maxL := maxL) (ret := ret) hy rfl ?_
  intro p e s m args below meth c s₁ B hml hv
  obtain ⟨rfl, hK, hP, hZ, hT⟩ := hv
  have hts := atoms_spec (ws := Cond.code y cc maxL ret :: WS) B.pre
  have hown : s.vm.findClass own = some m.cls := ho ▸ findClass_of_methodNamed B.named
  have hl := lv_entry av hav
  rw [lg_entry_eq]
  exact body p e s m below meth c _ ⟨⟨B.exec, B.bytes, hml, hown, fun w h => hts w (List.mem_cons_of_mem _ h)⟩, hK, hD, hZ, hT⟩ B.returns B.notSynchronized hl hP va_S.rf
theorem gt_ (X : CX p m c cc nL s args own D cB cI w A bz) (hP : va_P D classes (w S) H) (q0 : Nat) {b ci : Nat} {fs : List Value} {C : String} {T : u_T} {N : Nat} (he : (w S)[q0]? = some (b, .inr (ci, fs))) (hc : classes[ci]? = some (C, T, N)) (hin : ∀ x ∈ u_ws C T N, x ∈ WS) (hT : ∀ k, k < N → (T k).1 = C) (k : Nat) (hk : k < N) {index : Nat} (hlink : Cond.fieldLink own index C (T k).2.1 (T k).2.2.1 ∈ WS) {v : Value} (hv : fs[k]? = some v) (hd : decode cc pc = .ok (.getfield index, 3))
    (kk : W p l e R s m args below meth c H locs 0 0 Q (F0 m (pc + 3) ls (v :: rest))) : W p l e R s m args below meth c H locs 0 0 Q (F0 m pc ls (.ref b :: rest)) :=
  va_get X.1.1 X.1.2.1 X.1.2.2.2.2 hin X.1.2.2.2.1 X.2.1 hP q0 he hc k hk (X.1.2.2.2.2 _ hlink) (fun x h => by rw [hT k hk] at h; exact h) hv hd kk
theorem pt_ (X : CX p m c cc nL s args own D cB cI w A bz) (hP : va_P D classes (w S) H) (hS : va_S A s.heap H locs) (q0 : Nat) {b ci : Nat} {fs : List Value} {C : String} {T : u_T} {N : Nat} (he : (w S)[q0]? = some (b, .inr (ci, fs))) (hc : classes[ci]? = some (C, T, N)) (hin : ∀ x ∈ u_ws C T N, x ∈ WS) (hT : ∀ k, k < N → (T k).1 = C) (ty : Nat → FieldType) (hty : ∀ k, k < N → parseFieldDescriptor (T k).2.2.1 = some (ty k)) (hnm : ∀ a, a < N → ∀ b, b < N → a ≠ b → (T a).2.1 ≠ (T b).2.1) (hlen : fs.length = N)
    (k : Nat) (hk : k < N) {index : Nat} (hlink : Cond.fieldLink own index C (T k).2.1 (T k).2.2.1 ∈ WS) {v : Int32} {S1 : Sc} (hfin : (T k).2.2.2 = false) (hn : narrow (ty k) (.int v) = .int v) (hfit : fits (ty k) (.int v) = true) (hset : (w S).set q0 (b, .inr (ci, fs.set k (.int v))) = w S1) (hd : decode cc pc = .ok (.putfield index, 3))
    (kk : ∀ (H1 : Heap) (locs1 : List Loc), va_P D classes (w S1) H1 → va_S A s.heap H1 locs1 → W p l e R s m args below meth c H1 locs1 0 0 Q (F0 m (pc + 3) ls rest)) : W p l e R s m args below meth c H locs 0 0 Q (F0 m pc ls (.int v :: .ref b :: rest)) :=
  va_put X.1.1 X.1.2.1 X.1.2.2.2.2 hin ty hty hnm X.1.2.2.2.1 X.2.1 hP (X.2.2.1 S) hS q0 he hc k hk (X.1.2.2.2.2 _ hlink) (fun x h => by rw [hT k hk] at h; exact h) hfin (hty k hk) hn hfit (by rw [hlen]; exact hk) hd (fun H1 locs1 h1 _ h3 => kk H1 locs1 (hset ▸ h1) h3)
theorem rdb_ (X : CX p m c cc nL s args own D cB cI w A bz) (hP : va_P D classes (w S) H) (q0 : Nat) {b n : Nat} {f : Nat → Int32} (he : (w S)[q0]? = some (b, .inl (cB, n, .inl f))) {i v : Int32} (hi : vp_in i n) (hv : f i.toNatClampNeg = v) (hd : decode cc pc = .ok (.baload, 1))
    (kk : W p l e R s m args below meth c H locs 0 0 Q (F0 m (pc + 1) ls (.int v :: rest))) : W p l e R s m args below meth c H locs 0 0 Q (F0 m pc ls (.int i :: .ref b :: rest)) :=
  va_bald X.1.1 X.1.2.1 X.2.1 hP q0 0 he rfl hi hd (by rw [hv]; exact kk)
theorem rdi_ (X : CX p m c cc nL s args own D cB cI w A bz) (hP : va_P D classes (w S) H) (q0 : Nat) {b n : Nat} {f : Nat → Int32} (he : (w S)[q0]? = some (b, .inl (cI, n, .inl f))) {i v : Int32} (hi : vp_in i n) (hv : f i.toNatClampNeg = v) (hd : decode cc pc = .ok (.iaload, 1))
    (kk : W p l e R s m args below meth c H locs 0 0 Q (F0 m (pc + 1) ls (.int v :: rest))) : W p l e R s m args below meth c H locs 0 0 Q (F0 m pc ls (.int i :: .ref b :: rest)) :=
  va_iald X.1.1 X.1.2.1 X.2.1 hP q0 1 he rfl hi hd (by rw [hv]; exact kk)
theorem wrb_ (X : CX p m c cc nL s args own D cB cI w A bz) (hP : va_P D classes (w S) H) (hS : va_S A s.heap H locs) (q0 : Nat) {b n : Nat} {f : Nat → Int32} (he : (w S)[q0]? = some (b, .inl (cB, n, .inl f))) {i x : Int32} {S1 : Sc} (hi : vp_in i n) (hset : (w S).set q0 (b, .inl (cB, n, .inl (upd f i.toNatClampNeg (vp_nar .byte x)))) = w S1) (hd : decode cc pc = .ok (.bastore, 1))
    (kk : ∀ (H1 : Heap) (locs1 : List Loc), va_P D classes (w S1) H1 → va_S A s.heap H1 locs1 → W p l e R s m args below meth c H1 locs1 0 0 Q (F0 m (pc + 1) ls rest)) : W p l e R s m args below meth c H locs 0 0 Q (F0 m pc ls (.int x :: .int i :: .ref b :: rest)) :=
  va_bast X.1.1 X.1.2.1 X.2.1 hP (X.2.2.1 S) hS q0 0 he rfl hi hd (fun H1 locs1 h1 _ h3 => kk H1 locs1 (hset ▸ h1) h3)
theorem wri_ (X : CX p m c cc nL s args own D cB cI w A bz) (hP : va_P D classes (w S) H) (hS : va_S A s.heap H locs) (q0 : Nat) {b n : Nat} {f : Nat → Int32} (he : (w S)[q0]? = some (b, .inl (cI, n, .inl f))) {i x : Int32} {S1 : Sc} (hi : vp_in i n) (hset : (w S).set q0 (b, .inl (cI, n, .inl (upd f i.toNatClampNeg x))) = w S1) (hd : decode cc pc = .ok (.iastore, 1))
    (kk : ∀ (H1 : Heap) (locs1 : List Loc), va_P D classes (w S1) H1 → va_S A s.heap H1 locs1 → W p l e R s m args below meth c H1 locs1 0 0 Q (F0 m (pc + 1) ls rest)) : W p l e R s m args below meth c H locs 0 0 Q (F0 m pc ls (.int x :: .int i :: .ref b :: rest)) :=
  va_iast X.1.1 X.1.2.1 X.2.1 hP (X.2.2.1 S) hS q0 1 he rfl hi hd (fun H1 locs1 h1 _ h3 => kk H1 locs1 (hset ▸ h1) h3)
theorem gs_BRANCH_FLAGS (X : CX p m c cc nL s args own D cB cI w A bz) (hS : va_S A s.heap H locs) {index : Nat} (hlink : Cond.fieldLink own index R_Prc "BRANCH_FLAGS" "[I" ∈ WS) (hd : decode cc pc = .ok (.getstatic index, 3))
    (kk : W p l e R s m args below meth c H locs 0 0 Q (F0 m (pc + 3) ls (.ref bz :: rest))) : W p l e R s m args below meth c H locs 0 0 Q (F0 m pc ls rest) :=
  va_gets X.1.1 X.1.2.1 X.2.2.2.1 hS X.1.2.2.2.1 (X.1.2.2.2.2 _ hlink) (fun _ h => h) hd kk
theorem rs_flags (X : CX p m c cc nL s args own D cB cI w A bz) (hS : va_S A s.heap H locs) {i : Int32} (hi : vp_in i 4) (hd : decode cc pc = .ok (.iaload, 1))
    (kk : W p l e R s m args below meth c H locs 0 0 Q (F0 m (pc + 1) ls (.int (bf i.toNatClampNeg) :: rest))) : W p l e R s m args below meth c H locs 0 0 Q (F0 m pc ls (.int i :: .ref bz :: rest)) :=
  va_ti X.1.1 X.1.2.1 X.2.2.2.2 hS hi rfl hd kk
end MineA
section MineB
variable {p : Program} {l : Launch} {e : Env} {R : Room} {s : State} {m : MethodId} {args : Array Value} {below : List Frame} {meth : Method} {c : Code} {H : Heap} {locs : List Loc} {Q : State → Prop}
variable {cc : ByteArray} {pc nL : Nat} {ls : Array Slot} {rest stk As : List Value} {D : va_G} {cB cI : ClassId} {w : Sc → va_W} {A : Nat → Prop} {bz : Nat} {own C : String} {S : Sc}
variable {y : MethodName} {bytes : ByteArray} {maxL n index b ci : Nat} {ret : Option FieldType} {rm : Room} {fs : List Value} {T : u_T} {N : Nat}
theorem kwV (n : Nat) (hts : ∀ x ∈ WS, x.before args s = true) (hl : Cond.methodLink own index y ∈ WS) (hi : Cond.instanceMethod y ∈ WS) (hs : Cond.selects C y y ∈ WS) (hn : Cond.initialized C ∈ WS) (hc : Cond.code y bytes maxL ret ∈ WS) (hrc : rm.cells = 0) (hrs : rm.slots = 0)
    (hd : y.cls = C ∧ y.cls ≠ "java/lang/invoke/MethodHandle" ∧ y.cls ≠ "java/lang/invoke/VarHandle" ∧ (parseMethodDescriptor y.desc).map (fun d => d.parameters.length) = some n) (hR : rm.frames + 1 ≤ R.frames ∧ 8 + (maxL + 11) + rm.locals ≤ R.locals) :
    CallW R s args own C index y bytes maxL ret (Cond.code y bytes maxL ret :: WS) rm 0 0 n := by
  refine cwV n hts ?_ rfl hrc hrs hd hR
  intro x hx
  have key : x ∈ WS := by
    rcases List.mem_append.mp (show x ∈ ([.methodLink own index y, .instanceMethod y, .selects C y y, .initialized C] : List Cond) ++ (Cond.code y bytes maxL ret :: WS) from hx) with h | h
    · simp only [List.mem_cons, List.not_mem_nil, or_false] at h
      rcases h with rfl | rfl | rfl | rfl
      · exact hl
      · exact hi
      · exact hs
      · exact hn
    · rcases List.mem_cons.mp h with rfl | h
      · exact hc
      · exact h
  exact ⟨key, good_of_word (WS_good key)⟩
theorem kwS (n : Nat) (hts : ∀ x ∈ WS, x.before args s = true) (hl : Cond.methodLink own index y ∈ WS) (hi : Cond.static y ∈ WS) (hn : Cond.initialized y.cls ∈ WS) (hc : Cond.code y bytes maxL ret ∈ WS) (hrc : rm.cells = 0) (hrs : rm.slots = 0)
    (hd : y.cls ≠ "java/lang/invoke/MethodHandle" ∧ y.cls ≠ "java/lang/invoke/VarHandle" ∧ (parseMethodDescriptor y.desc).map (fun d => d.parameters.length) = some n) (hR : rm.frames + 1 ≤ R.frames ∧ 8 + (maxL + 11) + rm.locals ≤ R.locals) :
    CallB R s args own index y bytes maxL ret (Cond.code y bytes maxL ret :: WS) rm 0 0 n ∧ (Cond.static y).before args s = true := by
  refine va_cwS n hts ?_ rfl hrc hrs hd hR
  intro x hx
  have key : x ∈ WS := by
    rcases List.mem_append.mp (show x ∈ ([.methodLink own index y, .static y, .initialized y.cls] : List Cond) ++ (Cond.code y bytes maxL ret :: WS) from hx) with h | h
    · simp only [List.mem_cons, List.not_mem_nil, or_false] at h
      rcases h with rfl | rfl | rfl
      · exact hl
      · exact hi
      · exact hn
    · rcases List.mem_cons.mp h with rfl | h
      · exact hc
      · exact h
  exact ⟨key, good_of_word (WS_good key)⟩
theorem kv_vs (X : CX p m c cc nL s args own D cB cI w A bz) (hP : va_P D classes (w S) H) (hS : va_S A s.heap H locs) {F : Int32 × Sc} (hM : MI l y bytes maxL ret rm (.ref b :: As) D cB cI w A bz S F) (cw : CallW R s args own C index y bytes maxL ret (Cond.code y bytes maxL ret :: WS) rm 0 0 n) (q0 : Nat) (he : (w S)[q0]? = some (b, .inr (ci, fs))) (hc : classes[ci]? = some (C, T, N)) (hn : As.length = n) (hsz : ls.size = nL) (hst : stk = As.reverse ++ .ref b :: rest) (hrm : 2 * (F0 m pc ls stk).monitorRoom + (rest.map fun v => v.category).sum ≤ 8) (hd : decode cc pc = .ok (.invokevirtual index, 3))
    (kk : ∀ (r : Int32) (u : Sc) (H1 : Heap) (locs1 : List Loc), F = (r, u) → va_P D classes (w u) H1 → va_S A s.heap H1 locs1 → W p l e R s m args below meth c H1 locs1 0 0 Q (F0 m (pc + 3) ls (.int r :: rest))) : W p l e R s m args below meth c H locs 0 0 Q (F0 m pc ls stk) :=
  va_calli (va_runV X.1 hM cw ⟨PX_blind, va_recv X.2.1 hP hc he, fun U hU hW => ⟨rfl, PX_in X hP hS hU hW⟩⟩ rfl hn hsz hst hrm hd ⟨Nat.zero_le _, Nat.zero_le _⟩) hS (fun q _ h => h) (fun q h => h) (fun r u t H1 locs1 ht _ hp hb _ _ hS1 => kk r u H1 locs1 hp (by rw [← ht]; exact hb) hS1)
theorem kv_v (X : CX p m c cc nL s args own D cB cI w A bz) (hP : va_P D classes (w S) H) (hS : va_S A s.heap H locs) {f : Int32} (hM : MI l y bytes maxL ret rm (.ref b :: As) D cB cI w A bz S (f, S)) (cw : CallW R s args own C index y bytes maxL ret (Cond.code y bytes maxL ret :: WS) rm 0 0 n) (q0 : Nat) (he : (w S)[q0]? = some (b, .inr (ci, fs))) (hc : classes[ci]? = some (C, T, N)) (hn : As.length = n) (hsz : ls.size = nL) (hst : stk = As.reverse ++ .ref b :: rest) (hrm : 2 * (F0 m pc ls stk).monitorRoom + (rest.map fun v => v.category).sum ≤ 8) (hd : decode cc pc = .ok (.invokevirtual index, 3))
    (kk : ∀ (H1 : Heap) (locs1 : List Loc), va_P D classes (w S) H1 → va_S A s.heap H1 locs1 → W p l e R s m args below meth c H1 locs1 0 0 Q (F0 m (pc + 3) ls (.int f :: rest))) : W p l e R s m args below meth c H locs 0 0 Q (F0 m pc ls stk) :=
  kv_vs X hP hS hM cw q0 he hc hn hsz hst hrm hd (fun r u H1 locs1 hF hP1 hS1 => by cases hF; exact kk H1 locs1 hP1 hS1)
theorem kv_s (X : CX p m c cc nL s args own D cB cI w A bz) (hP : va_P D classes (w S) H) (hS : va_S A s.heap H locs) {F : Sc} (hM : MV l y bytes maxL rm (.ref b :: As) D cB cI w A bz S F) (cw : CallW R s args own C index y bytes maxL none (Cond.code y bytes maxL none :: WS) rm 0 0 n) (q0 : Nat) (he : (w S)[q0]? = some (b, .inr (ci, fs))) (hc : classes[ci]? = some (C, T, N)) (hn : As.length = n) (hsz : ls.size = nL) (hst : stk = As.reverse ++ .ref b :: rest) (hrm : 2 * (F0 m pc ls stk).monitorRoom + (rest.map fun v => v.category).sum ≤ 8) (hd : decode cc pc = .ok (.invokevirtual index, 3))
    (kk : ∀ (u : Sc) (H1 : Heap) (locs1 : List Loc), F = u → va_P D classes (w u) H1 → va_S A s.heap H1 locs1 → W p l e R s m args below meth c H1 locs1 0 0 Q (F0 m (pc + 3) ls rest)) : W p l e R s m args below meth c H locs 0 0 Q (F0 m pc ls stk) :=
  va_callv (va_runV X.1 hM cw ⟨PX_blind, va_recv X.2.1 hP hc he, fun U hU hW => ⟨rfl, PX_in X hP hS hU hW⟩⟩ rfl hn hsz hst hrm hd ⟨Nat.zero_le _, Nat.zero_le _⟩) hS (fun q _ h => h) (fun q h => h) (fun u t H1 locs1 ht _ hp hb _ _ hS1 => kk u H1 locs1 hp (by rw [← ht]; exact hb) hS1)
theorem ks_v (X : CX p m c cc nL s args own D cB cI w A bz) (hP : va_P D classes (w S) H) (hS : va_S A s.heap H locs) {f : Int32} (hM : MI l y bytes maxL ret rm As D cB cI w A bz S (f, S)) (cw : CallB R s args own index y bytes maxL ret (Cond.code y bytes maxL ret :: WS) rm 0 0 n ∧ (Cond.static y).before args s = true) (hn : As.length = n) (hsz : ls.size = nL) (hst : stk = As.reverse ++ rest) (hrm : 2 * (F0 m pc ls stk).monitorRoom + (rest.map fun v => v.category).sum ≤ 8) (hd : decode cc pc = .ok (.invokestatic index, 3))
    (kk : ∀ (H1 : Heap) (locs1 : List Loc), va_P D classes (w S) H1 → va_S A s.heap H1 locs1 → W p l e R s m args below meth c H1 locs1 0 0 Q (F0 m (pc + 3) ls (.int f :: rest))) : W p l e R s m args below meth c H locs 0 0 Q (F0 m pc ls stk) :=
  va_calli (va_runS X.1 hM cw ⟨PX_blind, fun U hU hW => ⟨rfl, PX_in X hP hS hU hW⟩⟩ rfl hn hsz hst hrm hd ⟨Nat.zero_le _, Nat.zero_le _⟩) hS (fun q _ h => h) (fun q h => h) (fun r u t H1 locs1 ht _ hp hb _ _ hS1 => by cases hp; exact kk H1 locs1 (by rw [← ht]; exact hb) hS1)
theorem rt_vs (X : CX p m c cc nL s args own D cB cI w A bz) (hr : meth.sig.returnType = some .int) (hk : meth.locks = false) (hP : va_P D classes (w S) H) (hS : va_S A s.heap H locs) {r : Int32} {F : Int32 × Sc} (hf : F = (r, S)) (hd : decode cc pc = .ok (.ireturn, 1)) : W p l e R s m args below meth c H locs 0 0 (MQ below (QI D w A F) args s 0 0 A) (F0 m pc ls [.int r]) :=
  W.iret X.1.1 X.1.2.1 hr (fun t ht _ => ⟨⟨r, S, rfl, hf, show va_P D classes (w S) t.heap by rw [ht]; exact hP⟩, hS.F ht⟩) hS.2.2 hd hk
theorem rt_z (X : CX p m c cc nL s args own D cB cI w A bz) (hr : meth.sig.returnType = some .boolean) (hk : meth.locks = false) (hP : va_P D classes (w S) H) (hS : va_S A s.heap H locs) {r : Int32} {F : Int32 × Sc} (hz : narrow .boolean (.int r) = .int r) (hf : F = (r, S)) (hd : decode cc pc = .ok (.ireturn, 1)) : W p l e R s m args below meth c H locs 0 0 (MQ below (QI D w A F) args s 0 0 A) (F0 m pc ls [.int r]) :=
  W.zret X.1.1 X.1.2.1 hr hz (fun t ht _ => ⟨⟨r, S, rfl, hf, show va_P D classes (w S) t.heap by rw [ht]; exact hP⟩, hS.F ht⟩) hS.2.2 hd hk
theorem rt_s (X : CX p m c cc nL s args own D cB cI w A bz) (hr : meth.sig.returnType = none) (hk : meth.locks = false) (hP : va_P D classes (w S) H) (hS : va_S A s.heap H locs) {F : Sc} (hf : F = S) (hd : decode cc pc = .ok (.return_, 1)) : W p l e R s m args below meth c H locs 0 0 (MQ below (QV D w A F) args s 0 0 A) (F0 m pc ls []) :=
  W.vret X.1.1 X.1.2.1 hr (fun t ht _ => ⟨⟨S, rfl, hf, show va_P D classes (w S) t.heap by rw [ht]; exact hP⟩, hS.F ht⟩) hS.2.2 hd hk
def swT (dflt lo hi : Int) (offs : Array Int) (k : Int) (pc tgt : Nat) : Bool := if k < lo ∨ hi < k then decide ((pc : Int) + dflt = (tgt : Int)) else match offs[(k - lo).toNat]? with
  | some off => decide ((pc : Int) + off = (tgt : Int))
  | none => false
def swL (dflt : Int) (ps : List (Int × Int)) (k : Int) (pc tgt : Nat) : Bool := (ps.zip (ps.drop 1)).all (fun (a, next) => a.1 < next.1) && decide ((pc : Int) + Op.lookupswitch.offset ps dflt k = (tgt : Int))
theorem sw_t (hx : p.tables.exec = Jvm.exec) (hb : c.code = cc) {dflt lo hi : Int} {offs : Array Int} {len : Nat} {x k : Int32} {tgt : Nat} (hd : decode cc pc = .ok (.tableswitch dflt lo hi offs, len)) (h : x = k) (hs : swT dflt lo hi offs k.toInt pc tgt = true)
    (kk : W p l e R s m args below meth c H locs 0 0 Q (F0 m tgt ls rest)) : W p l e R s m args below meth c H locs 0 0 Q (F0 m pc ls (.int x :: rest)) := by
  subst h
  unfold swT at hs
  split at hs
  · rename_i h
    exact lv_tableOut hx hb hd h (of_decide_eq_true hs) kk
  · rename_i h
    split at hs
    · rename_i off ho
      exact lv_tableIn hx hb hd (fun q => h (Or.inl q)) (fun q => h (Or.inr q)) ho (of_decide_eq_true hs) kk
    · cases hs
theorem sn_t (hx : p.tables.exec = Jvm.exec) (hb : c.code = cc) {dflt lo hi : Int} {offs : Array Int} {len : Nat} {x : Int32} {tgt : Nat} (hd : decode cc pc = .ok (.tableswitch dflt lo hi offs, len)) (h : x.toInt < lo ∨ hi < x.toInt) (ht : (pc : Int) + dflt = (tgt : Int))
    (kk : W p l e R s m args below meth c H locs 0 0 Q (F0 m tgt ls rest)) : W p l e R s m args below meth c H locs 0 0 Q (F0 m pc ls (.int x :: rest)) := lv_tableOut hx hb hd h ht kk
theorem sw_l (hx : p.tables.exec = Jvm.exec) (hb : c.code = cc) {dflt : Int} {ps : Array (Int × Int)} {len : Nat} {x k : Int32} {tgt : Nat} (hd : decode cc pc = .ok (.lookupswitch dflt ps, len)) (h : x = k) (hs : swL dflt ps.toList k.toInt pc tgt = true)
    (kk : W p l e R s m args below meth c H locs 0 0 Q (F0 m tgt ls rest)) : W p l e R s m args below meth c H locs 0 0 Q (F0 m pc ls (.int x :: rest)) := by
  subst h
  unfold swL at hs
  rw [Bool.and_eq_true] at hs
  exact lv_lookup hx hb hd hs.1 rfl (of_decide_eq_true hs.2) kk
def NK (x : Int32) : List (Int × Int) → Prop
  | [] => True
  | q :: L => ¬ x.toInt = q.1 ∧ NK x L
theorem off_none {x : Int32} {d : Int} : ∀ {L : List (Int × Int)}, NK x L → Op.lookupswitch.offset L d x.toInt = d
  | [], _ => rfl
  | (a, o) :: L, h => by
    rw [Op.lookupswitch.offset_cons, if_neg (fun q => h.1 q.symm)]
    exact off_none h.2
theorem sn_l (hx : p.tables.exec = Jvm.exec) (hb : c.code = cc) {dflt : Int} {ps : Array (Int × Int)} {len : Nat} {x : Int32} {tgt : Nat} (hd : decode cc pc = .ok (.lookupswitch dflt ps, len)) (hs : (ps.toList.zip (ps.toList.drop 1)).all (fun (a, next) => a.1 < next.1) = true) (h : NK x ps.toList) (ht : (pc : Int) + dflt = (tgt : Int))
    (kk : W p l e R s m args below meth c H locs 0 0 Q (F0 m tgt ls rest)) : W p l e R s m args below meth c H locs 0 0 Q (F0 m pc ls (.int x :: rest)) := lv_lookup hx hb hd hs (off_none h) ht kk
end MineB
theorem one_Wc : ∀ k, k < 3 → (F_Wc k).1 = R_Wc := by decide
theorem in_Wc : ∀ x ∈ u_ws R_Wc F_Wc 3, x ∈ WS := by
  intro x hx
  obtain ⟨k, hk, rfl⟩ := List.mem_map.mp hx
  have hk := List.mem_range.mp hk
  match k, hk with
  | 0, _ => exact q_226
  | 1, _ => exact q_228
  | 2, _ => exact q_230
  | k + 3, h => exact absurd h (by omega)
theorem one_Bus : ∀ k, k < 3 → (F_Bus k).1 = R_Bus := by decide
theorem in_Bus : ∀ x ∈ u_ws R_Bus F_Bus 3, x ∈ WS := by
  intro x hx
  obtain ⟨k, hk, rfl⟩ := List.mem_map.mp hx
  have hk := List.mem_range.mp hk
  match k, hk with
  | 0, _ => exact q_93
  | 1, _ => exact q_95
  | 2, _ => exact q_97
  | k + 3, h => exact absurd h (by omega)
theorem one_Reg : ∀ k, k < 9 → (F_Reg k).1 = R_Reg := by decide
theorem in_Reg : ∀ x ∈ u_ws R_Reg F_Reg 9, x ∈ WS := by
  intro x hx
  obtain ⟨k, hk, rfl⟩ := List.mem_map.mp hx
  have hk := List.mem_range.mp hk
  match k, hk with
  | 0, _ => exact q_143
  | 1, _ => exact q_145
  | 2, _ => exact q_147
  | 3, _ => exact q_149
  | 4, _ => exact q_151
  | 5, _ => exact q_153
  | 6, _ => exact q_155
  | 7, _ => exact q_157
  | 8, _ => exact q_159
  | k + 9, h => exact absurd h (by omega)
theorem one_Prc : ∀ k, k < 8 → (F_Prc k).1 = R_Prc := by decide
theorem in_Prc : ∀ x ∈ u_ws R_Prc F_Prc 8, x ∈ WS := by
  intro x hx
  obtain ⟨k, hk, rfl⟩ := List.mem_map.mp hx
  have hk := List.mem_range.mp hk
  match k, hk with
  | 0, _ => exact q_206
  | 1, _ => exact q_208
  | 2, _ => exact q_210
  | 3, _ => exact q_212
  | 4, _ => exact q_214
  | 5, _ => exact q_216
  | 6, _ => exact q_218
  | 7, _ => exact q_220
  | k + 8, h => exact absurd h (by omega)
theorem one_Opd : ∀ k, k < 2 → (F_Opd k).1 = R_Opd := by decide
theorem in_Opd : ∀ x ∈ u_ws R_Opd F_Opd 2, x ∈ WS := by
  intro x hx
  obtain ⟨k, hk, rfl⟩ := List.mem_map.mp hx
  have hk := List.mem_range.mp hk
  match k, hk with
  | 0, _ => exact q_176
  | 1, _ => exact q_178
  | k + 2, h => exact absurd h (by omega)
theorem one_Stk : ∀ k, k < 2 → (F_Stk k).1 = R_Stk := by decide
theorem in_Stk : ∀ x ∈ u_ws R_Stk F_Stk 2, x ∈ WS := by
  intro x hx
  obtain ⟨k, hk, rfl⟩ := List.mem_map.mp hx
  have hk := List.mem_range.mp hk
  match k, hk with
  | 0, _ => exact q_189
  | 1, _ => exact q_191
  | k + 2, h => exact absurd h (by omega)
theorem one_Mdl : ∀ k, k < 18 → (F_Mdl k).1 = R_Mdl := by decide
theorem in_Mdl : ∀ x ∈ u_ws R_Mdl F_Mdl 18, x ∈ WS := by
  intro x hx
  obtain ⟨k, hk, rfl⟩ := List.mem_map.mp hx
  have hk := List.mem_range.mp hk
  match k, hk with
  | 0, _ => exact q_581
  | 1, _ => exact q_583
  | 2, _ => exact q_585
  | 3, _ => exact q_587
  | 4, _ => exact q_589
  | 5, _ => exact q_591
  | 6, _ => exact q_593
  | 7, _ => exact q_595
  | 8, _ => exact q_597
  | 9, _ => exact q_599
  | 10, _ => exact q_601
  | 11, _ => exact q_603
  | 12, _ => exact q_605
  | 13, _ => exact q_607
  | 14, _ => exact q_609
  | 15, _ => exact q_611
  | 16, _ => exact q_613
  | 17, _ => exact q_615
  | k + 18, h => exact absurd h (by omega)
section MineC
variable {p : Program} {l : Launch} {e : Env} {R : Room} {s : State} {m : MethodId} {args : Array Value} {below : List Frame} {meth : Method} {c : Code} {H : Heap} {locs : List Loc} {Q : State → Prop}
variable {cc : ByteArray} {pc nL : Nat} {ls : Array Slot} {rest : List Value} {D : va_G} {cB cI : ClassId} {A : Nat → Prop} {bz : Nat} {own : String} {S : Sc} {a : Nat → Nat}
theorem gt_Wc (X : CX p m c cc nL s args own D cB cI (wdC cB cI a) A bz) (hP : va_P D classes (wdC cB cI a S) H) (k : Nat) (hk : k < 3) {index : Nat} {v : Value} (hlink : Cond.fieldLink own index R_Wc (F_Wc k).2.1 (F_Wc k).2.2.1 ∈ WS) (hv : (fs_Wc a)[k]? = some v) (hd : decode cc pc = .ok (.getfield index, 3)) (kk : W p l e R s m args below meth c H locs 0 0 Q (F0 m (pc + 3) ls (v :: rest))) : W p l e R s m args below meth c H locs 0 0 Q (F0 m pc ls (.ref (a 0) :: rest)) := gt_ X hP 0 rfl rfl in_Wc one_Wc k hk hlink hv hd kk
theorem gt_Bus (X : CX p m c cc nL s args own D cB cI (wdC cB cI a) A bz) (hP : va_P D classes (wdC cB cI a S) H) (k : Nat) (hk : k < 3) {index : Nat} {v : Value} (hlink : Cond.fieldLink own index R_Bus (F_Bus k).2.1 (F_Bus k).2.2.1 ∈ WS) (hv : (fs_Bus a S)[k]? = some v) (hd : decode cc pc = .ok (.getfield index, 3)) (kk : W p l e R s m args below meth c H locs 0 0 Q (F0 m (pc + 3) ls (v :: rest))) : W p l e R s m args below meth c H locs 0 0 Q (F0 m pc ls (.ref (a 1) :: rest)) := gt_ X hP 1 rfl rfl in_Bus one_Bus k hk hlink hv hd kk
theorem pt_Bus (X : CX p m c cc nL s args own D cB cI (wdC cB cI a) A bz) (hP : va_P D classes (wdC cB cI a S) H) (hS : va_S A s.heap H locs) (k : Nat) (hk : k < 3) {index : Nat} {v : Int32} {S1 : Sc} (hlink : Cond.fieldLink own index R_Bus (F_Bus k).2.1 (F_Bus k).2.2.1 ∈ WS) (hfin : (F_Bus k).2.2.2 = false) (hn : narrow (t_Bus k) (.int v) = .int v) (hfit : fits (t_Bus k) (.int v) = true) (hset : (wdC cB cI a S).set 1 (a 1, .inr (1, (fs_Bus a S).set k (.int v))) = wdC cB cI a S1) (hd : decode cc pc = .ok (.putfield index, 3)) (kk : ∀ (H1 : Heap) (locs1 : List Loc), va_P D classes (wdC cB cI a S1) H1 → va_S A s.heap H1 locs1 → W p l e R s m args below meth c H1 locs1 0 0 Q (F0 m (pc + 3) ls rest)) : W p l e R s m args below meth c H locs 0 0 Q (F0 m pc ls (.int v :: .ref (a 1) :: rest)) := pt_ X hP hS 1 rfl rfl in_Bus one_Bus t_Bus t_Bus_ok n_Bus rfl k hk hlink hfin hn hfit hset hd kk
theorem gt_Reg (X : CX p m c cc nL s args own D cB cI (wdC cB cI a) A bz) (hP : va_P D classes (wdC cB cI a S) H) (k : Nat) (hk : k < 9) {index : Nat} {v : Value} (hlink : Cond.fieldLink own index R_Reg (F_Reg k).2.1 (F_Reg k).2.2.1 ∈ WS) (hv : (fs_Reg S)[k]? = some v) (hd : decode cc pc = .ok (.getfield index, 3)) (kk : W p l e R s m args below meth c H locs 0 0 Q (F0 m (pc + 3) ls (v :: rest))) : W p l e R s m args below meth c H locs 0 0 Q (F0 m pc ls (.ref (a 2) :: rest)) := gt_ X hP 2 rfl rfl in_Reg one_Reg k hk hlink hv hd kk
theorem pt_Reg (X : CX p m c cc nL s args own D cB cI (wdC cB cI a) A bz) (hP : va_P D classes (wdC cB cI a S) H) (hS : va_S A s.heap H locs) (k : Nat) (hk : k < 9) {index : Nat} {v : Int32} {S1 : Sc} (hlink : Cond.fieldLink own index R_Reg (F_Reg k).2.1 (F_Reg k).2.2.1 ∈ WS) (hfin : (F_Reg k).2.2.2 = false) (hn : narrow (t_Reg k) (.int v) = .int v) (hfit : fits (t_Reg k) (.int v) = true) (hset : (wdC cB cI a S).set 2 (a 2, .inr (2, (fs_Reg S).set k (.int v))) = wdC cB cI a S1) (hd : decode cc pc = .ok (.putfield index, 3)) (kk : ∀ (H1 : Heap) (locs1 : List Loc), va_P D classes (wdC cB cI a S1) H1 → va_S A s.heap H1 locs1 → W p l e R s m args below meth c H1 locs1 0 0 Q (F0 m (pc + 3) ls rest)) : W p l e R s m args below meth c H locs 0 0 Q (F0 m pc ls (.int v :: .ref (a 2) :: rest)) := pt_ X hP hS 2 rfl rfl in_Reg one_Reg t_Reg t_Reg_ok n_Reg rfl k hk hlink hfin hn hfit hset hd kk
theorem gt_Prc (X : CX p m c cc nL s args own D cB cI (wdC cB cI a) A bz) (hP : va_P D classes (wdC cB cI a S) H) (k : Nat) (hk : k < 8) {index : Nat} {v : Value} (hlink : Cond.fieldLink own index R_Prc (F_Prc k).2.1 (F_Prc k).2.2.1 ∈ WS) (hv : (fs_Prc a S)[k]? = some v) (hd : decode cc pc = .ok (.getfield index, 3)) (kk : W p l e R s m args below meth c H locs 0 0 Q (F0 m (pc + 3) ls (v :: rest))) : W p l e R s m args below meth c H locs 0 0 Q (F0 m pc ls (.ref (a 3) :: rest)) := gt_ X hP 3 rfl rfl in_Prc one_Prc k hk hlink hv hd kk
theorem pt_Prc (X : CX p m c cc nL s args own D cB cI (wdC cB cI a) A bz) (hP : va_P D classes (wdC cB cI a S) H) (hS : va_S A s.heap H locs) (k : Nat) (hk : k < 8) {index : Nat} {v : Int32} {S1 : Sc} (hlink : Cond.fieldLink own index R_Prc (F_Prc k).2.1 (F_Prc k).2.2.1 ∈ WS) (hfin : (F_Prc k).2.2.2 = false) (hn : narrow (t_Prc k) (.int v) = .int v) (hfit : fits (t_Prc k) (.int v) = true) (hset : (wdC cB cI a S).set 3 (a 3, .inr (3, (fs_Prc a S).set k (.int v))) = wdC cB cI a S1) (hd : decode cc pc = .ok (.putfield index, 3)) (kk : ∀ (H1 : Heap) (locs1 : List Loc), va_P D classes (wdC cB cI a S1) H1 → va_S A s.heap H1 locs1 → W p l e R s m args below meth c H1 locs1 0 0 Q (F0 m (pc + 3) ls rest)) : W p l e R s m args below meth c H locs 0 0 Q (F0 m pc ls (.int v :: .ref (a 3) :: rest)) := pt_ X hP hS 3 rfl rfl in_Prc one_Prc t_Prc t_Prc_ok n_Prc rfl k hk hlink hfin hn hfit hset hd kk
theorem gt_Opd (X : CX p m c cc nL s args own D cB cI (wdC cB cI a) A bz) (hP : va_P D classes (wdC cB cI a S) H) (k : Nat) (hk : k < 2) {index : Nat} {v : Value} (hlink : Cond.fieldLink own index R_Opd (F_Opd k).2.1 (F_Opd k).2.2.1 ∈ WS) (hv : (fs_Opd a)[k]? = some v) (hd : decode cc pc = .ok (.getfield index, 3)) (kk : W p l e R s m args below meth c H locs 0 0 Q (F0 m (pc + 3) ls (v :: rest))) : W p l e R s m args below meth c H locs 0 0 Q (F0 m pc ls (.ref (a 4) :: rest)) := gt_ X hP 4 rfl rfl in_Opd one_Opd k hk hlink hv hd kk
theorem gt_Stk (X : CX p m c cc nL s args own D cB cI (wdC cB cI a) A bz) (hP : va_P D classes (wdC cB cI a S) H) (k : Nat) (hk : k < 2) {index : Nat} {v : Value} (hlink : Cond.fieldLink own index R_Stk (F_Stk k).2.1 (F_Stk k).2.2.1 ∈ WS) (hv : (fs_Opd a)[k]? = some v) (hd : decode cc pc = .ok (.getfield index, 3)) (kk : W p l e R s m args below meth c H locs 0 0 Q (F0 m (pc + 3) ls (v :: rest))) : W p l e R s m args below meth c H locs 0 0 Q (F0 m pc ls (.ref (a 5) :: rest)) := gt_ X hP 5 rfl rfl in_Stk one_Stk k hk hlink hv hd kk
theorem gt_Mdl (X : CX p m c cc nL s args own D cB cI (wdT cI a) A bz) (hP : va_P D classes (wdT cI a S) H) (k : Nat) (hk : k < 18) {index : Nat} {v : Value} (hlink : Cond.fieldLink own index R_Mdl (F_Mdl k).2.1 (F_Mdl k).2.2.1 ∈ WS) (hv : (fs_Mdl a S)[k]? = some v) (hd : decode cc pc = .ok (.getfield index, 3)) (kk : W p l e R s m args below meth c H locs 0 0 Q (F0 m (pc + 3) ls (v :: rest))) : W p l e R s m args below meth c H locs 0 0 Q (F0 m pc ls (.ref (a 0) :: rest)) := gt_ X hP 0 rfl rfl in_Mdl one_Mdl k hk hlink hv hd kk
theorem pt_Mdl (X : CX p m c cc nL s args own D cB cI (wdT cI a) A bz) (hP : va_P D classes (wdT cI a S) H) (hS : va_S A s.heap H locs) (k : Nat) (hk : k < 18) {index : Nat} {v : Int32} {S1 : Sc} (hlink : Cond.fieldLink own index R_Mdl (F_Mdl k).2.1 (F_Mdl k).2.2.1 ∈ WS) (hfin : (F_Mdl k).2.2.2 = false) (hn : narrow (t_Mdl k) (.int v) = .int v) (hfit : fits (t_Mdl k) (.int v) = true) (hset : (wdT cI a S).set 0 (a 0, .inr (6, (fs_Mdl a S).set k (.int v))) = wdT cI a S1) (hd : decode cc pc = .ok (.putfield index, 3)) (kk : ∀ (H1 : Heap) (locs1 : List Loc), va_P D classes (wdT cI a S1) H1 → va_S A s.heap H1 locs1 → W p l e R s m args below meth c H1 locs1 0 0 Q (F0 m (pc + 3) ls rest)) : W p l e R s m args below meth c H locs 0 0 Q (F0 m pc ls (.int v :: .ref (a 0) :: rest)) := pt_ X hP hS 0 rfl rfl in_Mdl one_Mdl t_Mdl t_Mdl_ok n_Mdl rfl k hk hlink hfin hn hfit hset hd kk
end MineC
abbrev rm_Wc_poke : Room := { frames := 0, cells := 0, slots := 0, locals := 0 }
abbrev rm_Wc_peek : Room := { frames := 0, cells := 0, slots := 0, locals := 0 }
abbrev rm_Wc_start : Room := { frames := 0, cells := 0, slots := 0, locals := 0 }
abbrev rm_Reg_wideIndex : Room := { frames := 0, cells := 0, slots := 0, locals := 0 }
abbrev rm_Reg_maskOf : Room := { frames := 0, cells := 0, slots := 0, locals := 0 }
abbrev rm_Reg_indexMask : Room := { frames := 1, cells := 0, slots := 0, locals := 20 }
abbrev rm_Reg_replaceP : Room := { frames := 2, cells := 0, slots := 0, locals := 40 }
abbrev rm_Wc_set : Room := { frames := 3, cells := 0, slots := 0, locals := 61 }
abbrev rm_Wc_register : Room := { frames := 0, cells := 0, slots := 0, locals := 0 }
abbrev rm_Bus_bank0Place : Room := { frames := 0, cells := 0, slots := 0, locals := 0 }
abbrev rm_Bus_cellOf : Room := { frames := 0, cells := 0, slots := 0, locals := 0 }
abbrev rm_Bus_writeByte : Room := { frames := 1, cells := 0, slots := 0, locals := 20 }
abbrev rm_Stk_pushByte : Room := { frames := 2, cells := 0, slots := 0, locals := 43 }
abbrev rm_Stk_pushWord : Room := { frames := 3, cells := 0, slots := 0, locals := 64 }
abbrev rm_Reg_putFlag : Room := { frames := 0, cells := 0, slots := 0, locals := 0 }
abbrev rm_Bus_readByte : Room := { frames := 1, cells := 0, slots := 0, locals := 20 }
abbrev rm_Bus_longPlace : Room := { frames := 0, cells := 0, slots := 0, locals := 0 }
abbrev rm_Bus_placeAfter : Room := { frames := 1, cells := 0, slots := 0, locals := 20 }
abbrev rm_Bus_readWord : Room := { frames := 2, cells := 0, slots := 0, locals := 42 }
abbrev rm_Prc_enterInterrupt : Room := { frames := 4, cells := 0, slots := 0, locals := 85 }
abbrev rm_Reg_has : Room := { frames := 0, cells := 0, slots := 0, locals := 0 }
abbrev rm_Bus_programByte : Room := { frames := 0, cells := 0, slots := 0, locals := 0 }
abbrev rm_Opd_nextByte : Room := { frames := 1, cells := 0, slots := 0, locals := 22 }
abbrev rm_Opd_isMode : Room := { frames := 0, cells := 0, slots := 0, locals := 0 }
abbrev rm_Reg_wideA : Room := { frames := 0, cells := 0, slots := 0, locals := 0 }
abbrev rm_Opd_direct : Room := { frames := 2, cells := 0, slots := 0, locals := 43 }
abbrev rm_Opd_nextWord : Room := { frames := 2, cells := 0, slots := 0, locals := 43 }
abbrev rm_Opd_inDataBank : Room := { frames := 1, cells := 0, slots := 0, locals := 20 }
abbrev rm_Opd_nextLong : Room := { frames := 2, cells := 0, slots := 0, locals := 43 }
abbrev rm_Bus_readLong : Room := { frames := 2, cells := 0, slots := 0, locals := 42 }
abbrev rm_Opd_onStack : Room := { frames := 2, cells := 0, slots := 0, locals := 43 }
abbrev rm_Opd_place : Room := { frames := 3, cells := 0, slots := 0, locals := 66 }
abbrev rm_Bus_writeValue : Room := { frames := 2, cells := 0, slots := 0, locals := 43 }
abbrev rm_Opd_nextValue : Room := { frames := 3, cells := 0, slots := 0, locals := 64 }
abbrev rm_Bus_readValue : Room := { frames := 3, cells := 0, slots := 0, locals := 64 }
abbrev rm_Reg_a : Room := { frames := 1, cells := 0, slots := 0, locals := 20 }
abbrev rm_Reg_signOf : Room := { frames := 0, cells := 0, slots := 0, locals := 0 }
abbrev rm_Reg_showResult : Room := { frames := 1, cells := 0, slots := 0, locals := 20 }
abbrev rm_Reg_loadA : Room := { frames := 2, cells := 0, slots := 0, locals := 44 }
abbrev rm_Prc_addToA : Room := { frames := 3, cells := 0, slots := 0, locals := 66 }
abbrev rm_Prc_compare : Room := { frames := 2, cells := 0, slots := 0, locals := 44 }
abbrev rm_Prc_useAccumulator : Room := { frames := 4, cells := 0, slots := 0, locals := 91 }
abbrev rm_Reg_loadX : Room := { frames := 2, cells := 0, slots := 0, locals := 44 }
abbrev rm_Reg_loadY : Room := { frames := 2, cells := 0, slots := 0, locals := 44 }
abbrev rm_Prc_useIndex : Room := { frames := 4, cells := 0, slots := 0, locals := 87 }
abbrev rm_Prc_storeZero : Room := { frames := 4, cells := 0, slots := 0, locals := 87 }
abbrev rm_Prc_changed : Room := { frames := 1, cells := 0, slots := 0, locals := 22 }
abbrev rm_Prc_changeMemory : Room := { frames := 4, cells := 0, slots := 0, locals := 87 }
abbrev rm_Prc_changeRegister : Room := { frames := 3, cells := 0, slots := 0, locals := 66 }
abbrev rm_Reg_loadD : Room := { frames := 2, cells := 0, slots := 0, locals := 44 }
abbrev rm_Reg_loadC : Room := { frames := 2, cells := 0, slots := 0, locals := 44 }
abbrev rm_Prc_transfer : Room := { frames := 3, cells := 0, slots := 0, locals := 66 }
abbrev rm_Stk_pushValue : Room := { frames := 3, cells := 0, slots := 0, locals := 64 }
abbrev rm_Prc_push : Room := { frames := 4, cells := 0, slots := 0, locals := 86 }
abbrev rm_Stk_pullByte : Room := { frames := 2, cells := 0, slots := 0, locals := 42 }
abbrev rm_Stk_pullWord : Room := { frames := 3, cells := 0, slots := 0, locals := 62 }
abbrev rm_Stk_pullValue : Room := { frames := 4, cells := 0, slots := 0, locals := 83 }
abbrev rm_Reg_loadDataBank : Room := { frames := 2, cells := 0, slots := 0, locals := 44 }
abbrev rm_Prc_pull : Room := { frames := 5, cells := 0, slots := 0, locals := 104 }
abbrev rm_Reg_jumpTo : Room := { frames := 0, cells := 0, slots := 0, locals := 0 }
abbrev rm_Prc_branch : Room := { frames := 3, cells := 0, slots := 0, locals := 64 }
abbrev rm_Reg_jumpLong : Room := { frames := 0, cells := 0, slots := 0, locals := 0 }
abbrev rm_Prc_jump : Room := { frames := 4, cells := 0, slots := 0, locals := 85 }
abbrev rm_Prc_changeFlags : Room := { frames := 3, cells := 0, slots := 0, locals := 61 }
abbrev rm_Prc_moveBlock : Room := { frames := 2, cells := 0, slots := 0, locals := 43 }
abbrev rm_Prc_makeStep : Room := { frames := 6, cells := 0, slots := 0, locals := 125 }
abbrev rm_Wc_stopped : Room := { frames := 0, cells := 0, slots := 0, locals := 0 }
abbrev rm_Wc_interrupt : Room := { frames := 0, cells := 0, slots := 0, locals := 0 }
abbrev rm_Wc_line : Room := { frames := 0, cells := 0, slots := 0, locals := 0 }
abbrev rm_Wc_touches : Room := { frames := 0, cells := 0, slots := 0, locals := 0 }
abbrev rm_Bus_latestTouch : Room := { frames := 0, cells := 0, slots := 0, locals := 0 }
abbrev rm_Wc_touched : Room := { frames := 1, cells := 0, slots := 0, locals := 21 }
abbrev rm_Wc_steps : Room := { frames := 0, cells := 0, slots := 0, locals := 0 }
abbrev rm_Mdl_is : Room := { frames := 0, cells := 0, slots := 0, locals := 0 }
abbrev rm_Mdl_flag : Room := { frames := 0, cells := 0, slots := 0, locals := 0 }
abbrev rm_Mdl_cell : Room := { frames := 0, cells := 0, slots := 0, locals := 0 }
abbrev rm_Mdl_touch : Room := { frames := 0, cells := 0, slots := 0, locals := 0 }
abbrev rm_Mdl_read : Room := { frames := 1, cells := 0, slots := 0, locals := 22 }
abbrev rm_Mdl_write : Room := { frames := 1, cells := 0, slots := 0, locals := 22 }
abbrev rm_Mdl_after : Room := { frames := 0, cells := 0, slots := 0, locals := 0 }
abbrev rm_Mdl_readWord : Room := { frames := 2, cells := 0, slots := 0, locals := 43 }
abbrev rm_Mdl_push : Room := { frames := 2, cells := 0, slots := 0, locals := 44 }
abbrev rm_Mdl_pushWord : Room := { frames := 3, cells := 0, slots := 0, locals := 65 }
abbrev rm_Mdl_pull : Room := { frames := 2, cells := 0, slots := 0, locals := 43 }
abbrev rm_Mdl_pullWord : Room := { frames := 3, cells := 0, slots := 0, locals := 63 }
abbrev rm_Mdl_next : Room := { frames := 1, cells := 0, slots := 0, locals := 20 }
abbrev rm_Mdl_nextWord : Room := { frames := 2, cells := 0, slots := 0, locals := 41 }
abbrev rm_Mdl_nextLong : Room := { frames := 3, cells := 0, slots := 0, locals := 62 }
abbrev rm_Mdl_accumulator : Room := { frames := 1, cells := 0, slots := 0, locals := 21 }
abbrev rm_Mdl_setAccumulator : Room := { frames := 1, cells := 0, slots := 0, locals := 21 }
abbrev rm_Mdl_cut : Room := { frames := 0, cells := 0, slots := 0, locals := 0 }
abbrev rm_Mdl_result : Room := { frames := 1, cells := 0, slots := 0, locals := 22 }
abbrev rm_Mdl_setFlags : Room := { frames := 1, cells := 0, slots := 0, locals := 21 }
abbrev rm_Mdl_direct : Room := { frames := 2, cells := 0, slots := 0, locals := 41 }
abbrev rm_Mdl_far : Room := { frames := 0, cells := 0, slots := 0, locals := 0 }
abbrev rm_Mdl_find : Room := { frames := 4, cells := 0, slots := 0, locals := 83 }
abbrev rm_Mdl_load : Room := { frames := 3, cells := 0, slots := 0, locals := 66 }
abbrev rm_Mdl_store : Room := { frames := 2, cells := 0, slots := 0, locals := 44 }
abbrev rm_Mdl_immediate : Room := { frames := 3, cells := 0, slots := 0, locals := 62 }
abbrev rm_Mdl_add : Room := { frames := 2, cells := 0, slots := 0, locals := 45 }
abbrev rm_Mdl_compare : Room := { frames := 2, cells := 0, slots := 0, locals := 45 }
abbrev rm_Mdl_arithmetic : Room := { frames := 5, cells := 0, slots := 0, locals := 106 }
abbrev rm_Mdl_changed : Room := { frames := 2, cells := 0, slots := 0, locals := 45 }
abbrev rm_Mdl_changeMemory : Room := { frames := 4, cells := 0, slots := 0, locals := 87 }
abbrev rm_Mdl_change : Room := { frames := 5, cells := 0, slots := 0, locals := 110 }
abbrev rm_Mdl_findIndex : Room := { frames := 3, cells := 0, slots := 0, locals := 62 }
abbrev rm_Mdl_indexOperand : Room := { frames := 4, cells := 0, slots := 0, locals := 87 }
abbrev rm_Mdl_storeAt : Room := { frames := 4, cells := 0, slots := 0, locals := 83 }
abbrev rm_Mdl_index : Room := { frames := 5, cells := 0, slots := 0, locals := 108 }
abbrev rm_Mdl_transfer : Room := { frames := 2, cells := 0, slots := 0, locals := 45 }
abbrev rm_Mdl_pushOf : Room := { frames := 4, cells := 0, slots := 0, locals := 86 }
abbrev rm_Mdl_pullOf : Room := { frames := 4, cells := 0, slots := 0, locals := 84 }
abbrev rm_Mdl_stack : Room := { frames := 5, cells := 0, slots := 0, locals := 108 }
abbrev rm_Mdl_branch : Room := { frames := 2, cells := 0, slots := 0, locals := 41 }
abbrev rm_Mdl_call : Room := { frames := 4, cells := 0, slots := 0, locals := 86 }
abbrev rm_Mdl_interruptFrom : Room := { frames := 4, cells := 0, slots := 0, locals := 86 }
abbrev rm_Mdl_longJump : Room := { frames := 5, cells := 0, slots := 0, locals := 107 }
abbrev rm_Mdl_jump : Room := { frames := 6, cells := 0, slots := 0, locals := 129 }
abbrev rm_Mdl_moveBlock : Room := { frames := 2, cells := 0, slots := 0, locals := 44 }
abbrev rm_Mdl_other : Room := { frames := 3, cells := 0, slots := 0, locals := 69 }
abbrev rm_Mdl_step : Room := { frames := 7, cells := 0, slots := 0, locals := 151 }
abbrev rm_Mdl_poke : Room := { frames := 0, cells := 0, slots := 0, locals := 0 }
abbrev rm_Mdl_peek : Room := { frames := 0, cells := 0, slots := 0, locals := 0 }
abbrev rm_Mdl_start : Room := { frames := 0, cells := 0, slots := 0, locals := 0 }
abbrev rm_Mdl_set : Room := { frames := 2, cells := 0, slots := 0, locals := 42 }
abbrev rm_Mdl_register : Room := { frames := 0, cells := 0, slots := 0, locals := 0 }
abbrev rm_Mdl_stopped : Room := { frames := 0, cells := 0, slots := 0, locals := 0 }
abbrev rm_Mdl_interrupt : Room := { frames := 0, cells := 0, slots := 0, locals := 0 }
abbrev rm_Mdl_line : Room := { frames := 0, cells := 0, slots := 0, locals := 0 }
abbrev rm_Mdl_touches : Room := { frames := 0, cells := 0, slots := 0, locals := 0 }
abbrev rm_Mdl_touched : Room := { frames := 0, cells := 0, slots := 0, locals := 0 }
abbrev rm_Mdl_steps : Room := { frames := 0, cells := 0, slots := 0, locals := 0 }
theorem kw_Wc_poke {R : Room} {s : State} {args : Array Value} {own : String} {index : Nat} (hts : ∀ x ∈ WS, x.before args s = true) (hl : Cond.methodLink own index y_Wc_poke ∈ WS) (hR : rm_Wc_poke.frames + 1 ≤ R.frames ∧ 8 + (5 + 11) + rm_Wc_poke.locals ≤ R.locals) : CallW R s args own R_Wc index y_Wc_poke b_Wc_poke 5 (some .boolean) (Cond.code y_Wc_poke b_Wc_poke 5 (some .boolean) :: WS) rm_Wc_poke 0 0 3 := kwV 3 hts hl q_234 q_235 q_67 q_236 rfl rfl ⟨rfl, by decide +kernel, by decide +kernel, by decide +kernel⟩ hR
theorem kw_Wc_peek {R : Room} {s : State} {args : Array Value} {own : String} {index : Nat} (hts : ∀ x ∈ WS, x.before args s = true) (hl : Cond.methodLink own index y_Wc_peek ∈ WS) (hR : rm_Wc_peek.frames + 1 ≤ R.frames ∧ 8 + (2 + 11) + rm_Wc_peek.locals ≤ R.locals) : CallW R s args own R_Wc index y_Wc_peek b_Wc_peek 2 (some .int) (Cond.code y_Wc_peek b_Wc_peek 2 (some .int) :: WS) rm_Wc_peek 0 0 1 := kwV 1 hts hl q_238 q_239 q_67 q_240 rfl rfl ⟨rfl, by decide +kernel, by decide +kernel, by decide +kernel⟩ hR
theorem kw_Wc_start {R : Room} {s : State} {args : Array Value} {own : String} {index : Nat} (hts : ∀ x ∈ WS, x.before args s = true) (hl : Cond.methodLink own index y_Wc_start ∈ WS) (hR : rm_Wc_start.frames + 1 ≤ R.frames ∧ 8 + (3 + 11) + rm_Wc_start.locals ≤ R.locals) : CallW R s args own R_Wc index y_Wc_start b_Wc_start 3 (some .boolean) (Cond.code y_Wc_start b_Wc_start 3 (some .boolean) :: WS) rm_Wc_start 0 0 2 := kwV 2 hts hl q_242 q_243 q_67 q_244 rfl rfl ⟨rfl, by decide +kernel, by decide +kernel, by decide +kernel⟩ hR
theorem kw_Reg_wideIndex {R : Room} {s : State} {args : Array Value} {own : String} {index : Nat} (hts : ∀ x ∈ WS, x.before args s = true) (hl : Cond.methodLink own index y_Reg_wideIndex ∈ WS) (hR : rm_Reg_wideIndex.frames + 1 ≤ R.frames ∧ 8 + (1 + 11) + rm_Reg_wideIndex.locals ≤ R.locals) : CallW R s args own R_Reg index y_Reg_wideIndex b_Reg_wideIndex 1 (some .boolean) (Cond.code y_Reg_wideIndex b_Reg_wideIndex 1 (some .boolean) :: WS) rm_Reg_wideIndex 0 0 0 := kwV 0 hts hl q_255 q_256 q_69 q_257 rfl rfl ⟨rfl, by decide +kernel, by decide +kernel, by decide +kernel⟩ hR
theorem kw_Reg_maskOf {R : Room} {s : State} {args : Array Value} {own : String} {index : Nat} (hts : ∀ x ∈ WS, x.before args s = true) (hl : Cond.methodLink own index y_Reg_maskOf ∈ WS) (hR : rm_Reg_maskOf.frames + 1 ≤ R.frames ∧ 8 + (1 + 11) + rm_Reg_maskOf.locals ≤ R.locals) : CallB R s args own index y_Reg_maskOf b_Reg_maskOf 1 (some .int) (Cond.code y_Reg_maskOf b_Reg_maskOf 1 (some .int) :: WS) rm_Reg_maskOf 0 0 1 ∧ (Cond.static y_Reg_maskOf).before args s = true := kwS 1 hts hl q_259 q_69 q_260 rfl rfl ⟨by decide +kernel, by decide +kernel, by decide +kernel⟩ hR
theorem kw_Reg_indexMask {R : Room} {s : State} {args : Array Value} {own : String} {index : Nat} (hts : ∀ x ∈ WS, x.before args s = true) (hl : Cond.methodLink own index y_Reg_indexMask ∈ WS) (hR : rm_Reg_indexMask.frames + 1 ≤ R.frames ∧ 8 + (1 + 11) + rm_Reg_indexMask.locals ≤ R.locals) : CallW R s args own R_Reg index y_Reg_indexMask b_Reg_indexMask 1 (some .int) (Cond.code y_Reg_indexMask b_Reg_indexMask 1 (some .int) :: WS) rm_Reg_indexMask 0 0 0 := kwV 0 hts hl q_251 q_252 q_69 q_253 rfl rfl ⟨rfl, by decide +kernel, by decide +kernel, by decide +kernel⟩ hR
theorem kw_Reg_replaceP {R : Room} {s : State} {args : Array Value} {own : String} {index : Nat} (hts : ∀ x ∈ WS, x.before args s = true) (hl : Cond.methodLink own index y_Reg_replaceP ∈ WS) (hR : rm_Reg_replaceP.frames + 1 ≤ R.frames ∧ 8 + (2 + 11) + rm_Reg_replaceP.locals ≤ R.locals) : CallW R s args own R_Reg index y_Reg_replaceP b_Reg_replaceP 2 none (Cond.code y_Reg_replaceP b_Reg_replaceP 2 none :: WS) rm_Reg_replaceP 0 0 1 := kwV 1 hts hl q_263 q_264 q_69 q_265 rfl rfl ⟨rfl, by decide +kernel, by decide +kernel, by decide +kernel⟩ hR
theorem kw_Wc_set {R : Room} {s : State} {args : Array Value} {own : String} {index : Nat} (hts : ∀ x ∈ WS, x.before args s = true) (hl : Cond.methodLink own index y_Wc_set ∈ WS) (hR : rm_Wc_set.frames + 1 ≤ R.frames ∧ 8 + (3 + 11) + rm_Wc_set.locals ≤ R.locals) : CallW R s args own R_Wc index y_Wc_set b_Wc_set 3 (some .boolean) (Cond.code y_Wc_set b_Wc_set 3 (some .boolean) :: WS) rm_Wc_set 0 0 2 := kwV 2 hts hl q_247 q_248 q_67 q_249 rfl rfl ⟨rfl, by decide +kernel, by decide +kernel, by decide +kernel⟩ hR
theorem kw_Wc_register {R : Room} {s : State} {args : Array Value} {own : String} {index : Nat} (hts : ∀ x ∈ WS, x.before args s = true) (hl : Cond.methodLink own index y_Wc_register ∈ WS) (hR : rm_Wc_register.frames + 1 ≤ R.frames ∧ 8 + (2 + 11) + rm_Wc_register.locals ≤ R.locals) : CallW R s args own R_Wc index y_Wc_register b_Wc_register 2 (some .int) (Cond.code y_Wc_register b_Wc_register 2 (some .int) :: WS) rm_Wc_register 0 0 1 := kwV 1 hts hl q_268 q_269 q_67 q_270 rfl rfl ⟨rfl, by decide +kernel, by decide +kernel, by decide +kernel⟩ hR
theorem kw_Bus_bank0Place {R : Room} {s : State} {args : Array Value} {own : String} {index : Nat} (hts : ∀ x ∈ WS, x.before args s = true) (hl : Cond.methodLink own index y_Bus_bank0Place ∈ WS) (hR : rm_Bus_bank0Place.frames + 1 ≤ R.frames ∧ 8 + (1 + 11) + rm_Bus_bank0Place.locals ≤ R.locals) : CallB R s args own index y_Bus_bank0Place b_Bus_bank0Place 1 (some .int) (Cond.code y_Bus_bank0Place b_Bus_bank0Place 1 (some .int) :: WS) rm_Bus_bank0Place 0 0 1 ∧ (Cond.static y_Bus_bank0Place).before args s = true := kwS 1 hts hl q_288 q_68 q_289 rfl rfl ⟨by decide +kernel, by decide +kernel, by decide +kernel⟩ hR
theorem kw_Bus_cellOf {R : Room} {s : State} {args : Array Value} {own : String} {index : Nat} (hts : ∀ x ∈ WS, x.before args s = true) (hl : Cond.methodLink own index y_Bus_cellOf ∈ WS) (hR : rm_Bus_cellOf.frames + 1 ≤ R.frames ∧ 8 + (1 + 11) + rm_Bus_cellOf.locals ≤ R.locals) : CallB R s args own index y_Bus_cellOf b_Bus_cellOf 1 (some .int) (Cond.code y_Bus_cellOf b_Bus_cellOf 1 (some .int) :: WS) rm_Bus_cellOf 0 0 1 ∧ (Cond.static y_Bus_cellOf).before args s = true := kwS 1 hts hl q_297 q_68 q_298 rfl rfl ⟨by decide +kernel, by decide +kernel, by decide +kernel⟩ hR
theorem kw_Bus_writeByte {R : Room} {s : State} {args : Array Value} {own : String} {index : Nat} (hts : ∀ x ∈ WS, x.before args s = true) (hl : Cond.methodLink own index y_Bus_writeByte ∈ WS) (hR : rm_Bus_writeByte.frames + 1 ≤ R.frames ∧ 8 + (4 + 11) + rm_Bus_writeByte.locals ≤ R.locals) : CallW R s args own R_Bus index y_Bus_writeByte b_Bus_writeByte 4 none (Cond.code y_Bus_writeByte b_Bus_writeByte 4 none :: WS) rm_Bus_writeByte 0 0 2 := kwV 2 hts hl q_293 q_294 q_68 q_295 rfl rfl ⟨rfl, by decide +kernel, by decide +kernel, by decide +kernel⟩ hR
theorem kw_Stk_pushByte {R : Room} {s : State} {args : Array Value} {own : String} {index : Nat} (hts : ∀ x ∈ WS, x.before args s = true) (hl : Cond.methodLink own index y_Stk_pushByte ∈ WS) (hR : rm_Stk_pushByte.frames + 1 ≤ R.frames ∧ 8 + (2 + 11) + rm_Stk_pushByte.locals ≤ R.locals) : CallW R s args own R_Stk index y_Stk_pushByte b_Stk_pushByte 2 none (Cond.code y_Stk_pushByte b_Stk_pushByte 2 none :: WS) rm_Stk_pushByte 0 0 1 := kwV 1 hts hl q_284 q_285 q_72 q_286 rfl rfl ⟨rfl, by decide +kernel, by decide +kernel, by decide +kernel⟩ hR
theorem kw_Stk_pushWord {R : Room} {s : State} {args : Array Value} {own : String} {index : Nat} (hts : ∀ x ∈ WS, x.before args s = true) (hl : Cond.methodLink own index y_Stk_pushWord ∈ WS) (hR : rm_Stk_pushWord.frames + 1 ≤ R.frames ∧ 8 + (2 + 11) + rm_Stk_pushWord.locals ≤ R.locals) : CallW R s args own R_Stk index y_Stk_pushWord b_Stk_pushWord 2 none (Cond.code y_Stk_pushWord b_Stk_pushWord 2 none :: WS) rm_Stk_pushWord 0 0 1 := kwV 1 hts hl q_301 q_302 q_72 q_303 rfl rfl ⟨rfl, by decide +kernel, by decide +kernel, by decide +kernel⟩ hR
theorem kw_Reg_putFlag {R : Room} {s : State} {args : Array Value} {own : String} {index : Nat} (hts : ∀ x ∈ WS, x.before args s = true) (hl : Cond.methodLink own index y_Reg_putFlag ∈ WS) (hR : rm_Reg_putFlag.frames + 1 ≤ R.frames ∧ 8 + (3 + 11) + rm_Reg_putFlag.locals ≤ R.locals) : CallW R s args own R_Reg index y_Reg_putFlag b_Reg_putFlag 3 none (Cond.code y_Reg_putFlag b_Reg_putFlag 3 none :: WS) rm_Reg_putFlag 0 0 2 := kwV 2 hts hl q_306 q_307 q_69 q_308 rfl rfl ⟨rfl, by decide +kernel, by decide +kernel, by decide +kernel⟩ hR
theorem kw_Bus_readByte {R : Room} {s : State} {args : Array Value} {own : String} {index : Nat} (hts : ∀ x ∈ WS, x.before args s = true) (hl : Cond.methodLink own index y_Bus_readByte ∈ WS) (hR : rm_Bus_readByte.frames + 1 ≤ R.frames ∧ 8 + (3 + 11) + rm_Bus_readByte.locals ≤ R.locals) : CallW R s args own R_Bus index y_Bus_readByte b_Bus_readByte 3 (some .int) (Cond.code y_Bus_readByte b_Bus_readByte 3 (some .int) :: WS) rm_Bus_readByte 0 0 1 := kwV 1 hts hl q_315 q_316 q_68 q_317 rfl rfl ⟨rfl, by decide +kernel, by decide +kernel, by decide +kernel⟩ hR
theorem kw_Bus_longPlace {R : Room} {s : State} {args : Array Value} {own : String} {index : Nat} (hts : ∀ x ∈ WS, x.before args s = true) (hl : Cond.methodLink own index y_Bus_longPlace ∈ WS) (hR : rm_Bus_longPlace.frames + 1 ≤ R.frames ∧ 8 + (1 + 11) + rm_Bus_longPlace.locals ≤ R.locals) : CallB R s args own index y_Bus_longPlace b_Bus_longPlace 1 (some .int) (Cond.code y_Bus_longPlace b_Bus_longPlace 1 (some .int) :: WS) rm_Bus_longPlace 0 0 1 ∧ (Cond.static y_Bus_longPlace).before args s = true := kwS 1 hts hl q_323 q_68 q_324 rfl rfl ⟨by decide +kernel, by decide +kernel, by decide +kernel⟩ hR
theorem kw_Bus_placeAfter {R : Room} {s : State} {args : Array Value} {own : String} {index : Nat} (hts : ∀ x ∈ WS, x.before args s = true) (hl : Cond.methodLink own index y_Bus_placeAfter ∈ WS) (hR : rm_Bus_placeAfter.frames + 1 ≤ R.frames ∧ 8 + (1 + 11) + rm_Bus_placeAfter.locals ≤ R.locals) : CallB R s args own index y_Bus_placeAfter b_Bus_placeAfter 1 (some .int) (Cond.code y_Bus_placeAfter b_Bus_placeAfter 1 (some .int) :: WS) rm_Bus_placeAfter 0 0 1 ∧ (Cond.static y_Bus_placeAfter).before args s = true := kwS 1 hts hl q_319 q_68 q_320 rfl rfl ⟨by decide +kernel, by decide +kernel, by decide +kernel⟩ hR
theorem kw_Bus_readWord {R : Room} {s : State} {args : Array Value} {own : String} {index : Nat} (hts : ∀ x ∈ WS, x.before args s = true) (hl : Cond.methodLink own index y_Bus_readWord ∈ WS) (hR : rm_Bus_readWord.frames + 1 ≤ R.frames ∧ 8 + (3 + 11) + rm_Bus_readWord.locals ≤ R.locals) : CallW R s args own R_Bus index y_Bus_readWord b_Bus_readWord 3 (some .int) (Cond.code y_Bus_readWord b_Bus_readWord 3 (some .int) :: WS) rm_Bus_readWord 0 0 1 := kwV 1 hts hl q_311 q_312 q_68 q_313 rfl rfl ⟨rfl, by decide +kernel, by decide +kernel, by decide +kernel⟩ hR
theorem kw_Prc_enterInterrupt {R : Room} {s : State} {args : Array Value} {own : String} {index : Nat} (hts : ∀ x ∈ WS, x.before args s = true) (hl : Cond.methodLink own index y_Prc_enterInterrupt ∈ WS) (hR : rm_Prc_enterInterrupt.frames + 1 ≤ R.frames ∧ 8 + (2 + 11) + rm_Prc_enterInterrupt.locals ≤ R.locals) : CallW R s args own R_Prc index y_Prc_enterInterrupt b_Prc_enterInterrupt 2 none (Cond.code y_Prc_enterInterrupt b_Prc_enterInterrupt 2 none :: WS) rm_Prc_enterInterrupt 0 0 1 := kwV 1 hts hl q_281 q_0 q_70 q_282 rfl rfl ⟨rfl, by decide +kernel, by decide +kernel, by decide +kernel⟩ hR
theorem kw_Reg_has {R : Room} {s : State} {args : Array Value} {own : String} {index : Nat} (hts : ∀ x ∈ WS, x.before args s = true) (hl : Cond.methodLink own index y_Reg_has ∈ WS) (hR : rm_Reg_has.frames + 1 ≤ R.frames ∧ 8 + (2 + 11) + rm_Reg_has.locals ≤ R.locals) : CallW R s args own R_Reg index y_Reg_has b_Reg_has 2 (some .boolean) (Cond.code y_Reg_has b_Reg_has 2 (some .boolean) :: WS) rm_Reg_has 0 0 1 := kwV 1 hts hl q_327 q_328 q_69 q_329 rfl rfl ⟨rfl, by decide +kernel, by decide +kernel, by decide +kernel⟩ hR
theorem kw_Bus_programByte {R : Room} {s : State} {args : Array Value} {own : String} {index : Nat} (hts : ∀ x ∈ WS, x.before args s = true) (hl : Cond.methodLink own index y_Bus_programByte ∈ WS) (hR : rm_Bus_programByte.frames + 1 ≤ R.frames ∧ 8 + (3 + 11) + rm_Bus_programByte.locals ≤ R.locals) : CallW R s args own R_Bus index y_Bus_programByte b_Bus_programByte 3 (some .int) (Cond.code y_Bus_programByte b_Bus_programByte 3 (some .int) :: WS) rm_Bus_programByte 0 0 2 := kwV 2 hts hl q_335 q_336 q_68 q_337 rfl rfl ⟨rfl, by decide +kernel, by decide +kernel, by decide +kernel⟩ hR
theorem kw_Opd_nextByte {R : Room} {s : State} {args : Array Value} {own : String} {index : Nat} (hts : ∀ x ∈ WS, x.before args s = true) (hl : Cond.methodLink own index y_Opd_nextByte ∈ WS) (hR : rm_Opd_nextByte.frames + 1 ≤ R.frames ∧ 8 + (2 + 11) + rm_Opd_nextByte.locals ≤ R.locals) : CallW R s args own R_Opd index y_Opd_nextByte b_Opd_nextByte 2 (some .int) (Cond.code y_Opd_nextByte b_Opd_nextByte 2 (some .int) :: WS) rm_Opd_nextByte 0 0 0 := kwV 0 hts hl q_331 q_332 q_71 q_333 rfl rfl ⟨rfl, by decide +kernel, by decide +kernel, by decide +kernel⟩ hR
theorem kw_Opd_isMode {R : Room} {s : State} {args : Array Value} {own : String} {index : Nat} (hts : ∀ x ∈ WS, x.before args s = true) (hl : Cond.methodLink own index y_Opd_isMode ∈ WS) (hR : rm_Opd_isMode.frames + 1 ≤ R.frames ∧ 8 + (1 + 11) + rm_Opd_isMode.locals ≤ R.locals) : CallB R s args own index y_Opd_isMode b_Opd_isMode 1 (some .boolean) (Cond.code y_Opd_isMode b_Opd_isMode 1 (some .boolean) :: WS) rm_Opd_isMode 0 0 1 ∧ (Cond.static y_Opd_isMode).before args s = true := kwS 1 hts hl q_344 q_71 q_345 rfl rfl ⟨by decide +kernel, by decide +kernel, by decide +kernel⟩ hR
theorem kw_Reg_wideA {R : Room} {s : State} {args : Array Value} {own : String} {index : Nat} (hts : ∀ x ∈ WS, x.before args s = true) (hl : Cond.methodLink own index y_Reg_wideA ∈ WS) (hR : rm_Reg_wideA.frames + 1 ≤ R.frames ∧ 8 + (1 + 11) + rm_Reg_wideA.locals ≤ R.locals) : CallW R s args own R_Reg index y_Reg_wideA b_Reg_wideA 1 (some .boolean) (Cond.code y_Reg_wideA b_Reg_wideA 1 (some .boolean) :: WS) rm_Reg_wideA 0 0 0 := kwV 0 hts hl q_347 q_348 q_69 q_349 rfl rfl ⟨rfl, by decide +kernel, by decide +kernel, by decide +kernel⟩ hR
theorem kw_Opd_direct {R : Room} {s : State} {args : Array Value} {own : String} {index : Nat} (hts : ∀ x ∈ WS, x.before args s = true) (hl : Cond.methodLink own index y_Opd_direct ∈ WS) (hR : rm_Opd_direct.frames + 1 ≤ R.frames ∧ 8 + (2 + 11) + rm_Opd_direct.locals ≤ R.locals) : CallW R s args own R_Opd index y_Opd_direct b_Opd_direct 2 (some .int) (Cond.code y_Opd_direct b_Opd_direct 2 (some .int) :: WS) rm_Opd_direct 0 0 1 := kwV 1 hts hl q_356 q_2 q_71 q_357 rfl rfl ⟨rfl, by decide +kernel, by decide +kernel, by decide +kernel⟩ hR
theorem kw_Opd_nextWord {R : Room} {s : State} {args : Array Value} {own : String} {index : Nat} (hts : ∀ x ∈ WS, x.before args s = true) (hl : Cond.methodLink own index y_Opd_nextWord ∈ WS) (hR : rm_Opd_nextWord.frames + 1 ≤ R.frames ∧ 8 + (2 + 11) + rm_Opd_nextWord.locals ≤ R.locals) : CallW R s args own R_Opd index y_Opd_nextWord b_Opd_nextWord 2 (some .int) (Cond.code y_Opd_nextWord b_Opd_nextWord 2 (some .int) :: WS) rm_Opd_nextWord 0 0 0 := kwV 0 hts hl q_361 q_362 q_71 q_363 rfl rfl ⟨rfl, by decide +kernel, by decide +kernel, by decide +kernel⟩ hR
theorem kw_Opd_inDataBank {R : Room} {s : State} {args : Array Value} {own : String} {index : Nat} (hts : ∀ x ∈ WS, x.before args s = true) (hl : Cond.methodLink own index y_Opd_inDataBank ∈ WS) (hR : rm_Opd_inDataBank.frames + 1 ≤ R.frames ∧ 8 + (3 + 11) + rm_Opd_inDataBank.locals ≤ R.locals) : CallW R s args own R_Opd index y_Opd_inDataBank b_Opd_inDataBank 3 (some .int) (Cond.code y_Opd_inDataBank b_Opd_inDataBank 3 (some .int) :: WS) rm_Opd_inDataBank 0 0 2 := kwV 2 hts hl q_366 q_3 q_71 q_367 rfl rfl ⟨rfl, by decide +kernel, by decide +kernel, by decide +kernel⟩ hR
theorem kw_Opd_nextLong {R : Room} {s : State} {args : Array Value} {own : String} {index : Nat} (hts : ∀ x ∈ WS, x.before args s = true) (hl : Cond.methodLink own index y_Opd_nextLong ∈ WS) (hR : rm_Opd_nextLong.frames + 1 ≤ R.frames ∧ 8 + (3 + 11) + rm_Opd_nextLong.locals ≤ R.locals) : CallW R s args own R_Opd index y_Opd_nextLong b_Opd_nextLong 3 (some .int) (Cond.code y_Opd_nextLong b_Opd_nextLong 3 (some .int) :: WS) rm_Opd_nextLong 0 0 0 := kwV 0 hts hl q_370 q_371 q_71 q_372 rfl rfl ⟨rfl, by decide +kernel, by decide +kernel, by decide +kernel⟩ hR
theorem kw_Bus_readLong {R : Room} {s : State} {args : Array Value} {own : String} {index : Nat} (hts : ∀ x ∈ WS, x.before args s = true) (hl : Cond.methodLink own index y_Bus_readLong ∈ WS) (hR : rm_Bus_readLong.frames + 1 ≤ R.frames ∧ 8 + (5 + 11) + rm_Bus_readLong.locals ≤ R.locals) : CallW R s args own R_Bus index y_Bus_readLong b_Bus_readLong 5 (some .int) (Cond.code y_Bus_readLong b_Bus_readLong 5 (some .int) :: WS) rm_Bus_readLong 0 0 1 := kwV 1 hts hl q_375 q_376 q_68 q_377 rfl rfl ⟨rfl, by decide +kernel, by decide +kernel, by decide +kernel⟩ hR
theorem kw_Opd_onStack {R : Room} {s : State} {args : Array Value} {own : String} {index : Nat} (hts : ∀ x ∈ WS, x.before args s = true) (hl : Cond.methodLink own index y_Opd_onStack ∈ WS) (hR : rm_Opd_onStack.frames + 1 ≤ R.frames ∧ 8 + (1 + 11) + rm_Opd_onStack.locals ≤ R.locals) : CallW R s args own R_Opd index y_Opd_onStack b_Opd_onStack 1 (some .int) (Cond.code y_Opd_onStack b_Opd_onStack 1 (some .int) :: WS) rm_Opd_onStack 0 0 0 := kwV 0 hts hl q_380 q_4 q_71 q_381 rfl rfl ⟨rfl, by decide +kernel, by decide +kernel, by decide +kernel⟩ hR
theorem kw_Opd_place {R : Room} {s : State} {args : Array Value} {own : String} {index : Nat} (hts : ∀ x ∈ WS, x.before args s = true) (hl : Cond.methodLink own index y_Opd_place ∈ WS) (hR : rm_Opd_place.frames + 1 ≤ R.frames ∧ 8 + (2 + 11) + rm_Opd_place.locals ≤ R.locals) : CallW R s args own R_Opd index y_Opd_place b_Opd_place 2 (some .int) (Cond.code y_Opd_place b_Opd_place 2 (some .int) :: WS) rm_Opd_place 0 0 1 := kwV 1 hts hl q_351 q_352 q_71 q_353 rfl rfl ⟨rfl, by decide +kernel, by decide +kernel, by decide +kernel⟩ hR
theorem kw_Bus_writeValue {R : Room} {s : State} {args : Array Value} {own : String} {index : Nat} (hts : ∀ x ∈ WS, x.before args s = true) (hl : Cond.methodLink own index y_Bus_writeValue ∈ WS) (hR : rm_Bus_writeValue.frames + 1 ≤ R.frames ∧ 8 + (4 + 11) + rm_Bus_writeValue.locals ≤ R.locals) : CallW R s args own R_Bus index y_Bus_writeValue b_Bus_writeValue 4 none (Cond.code y_Bus_writeValue b_Bus_writeValue 4 none :: WS) rm_Bus_writeValue 0 0 3 := kwV 3 hts hl q_383 q_384 q_68 q_385 rfl rfl ⟨rfl, by decide +kernel, by decide +kernel, by decide +kernel⟩ hR
theorem kw_Opd_nextValue {R : Room} {s : State} {args : Array Value} {own : String} {index : Nat} (hts : ∀ x ∈ WS, x.before args s = true) (hl : Cond.methodLink own index y_Opd_nextValue ∈ WS) (hR : rm_Opd_nextValue.frames + 1 ≤ R.frames ∧ 8 + (2 + 11) + rm_Opd_nextValue.locals ≤ R.locals) : CallW R s args own R_Opd index y_Opd_nextValue b_Opd_nextValue 2 (some .int) (Cond.code y_Opd_nextValue b_Opd_nextValue 2 (some .int) :: WS) rm_Opd_nextValue 0 0 1 := kwV 1 hts hl q_388 q_389 q_71 q_390 rfl rfl ⟨rfl, by decide +kernel, by decide +kernel, by decide +kernel⟩ hR
theorem kw_Bus_readValue {R : Room} {s : State} {args : Array Value} {own : String} {index : Nat} (hts : ∀ x ∈ WS, x.before args s = true) (hl : Cond.methodLink own index y_Bus_readValue ∈ WS) (hR : rm_Bus_readValue.frames + 1 ≤ R.frames ∧ 8 + (3 + 11) + rm_Bus_readValue.locals ≤ R.locals) : CallW R s args own R_Bus index y_Bus_readValue b_Bus_readValue 3 (some .int) (Cond.code y_Bus_readValue b_Bus_readValue 3 (some .int) :: WS) rm_Bus_readValue 0 0 2 := kwV 2 hts hl q_392 q_393 q_68 q_394 rfl rfl ⟨rfl, by decide +kernel, by decide +kernel, by decide +kernel⟩ hR
theorem kw_Reg_a {R : Room} {s : State} {args : Array Value} {own : String} {index : Nat} (hts : ∀ x ∈ WS, x.before args s = true) (hl : Cond.methodLink own index y_Reg_a ∈ WS) (hR : rm_Reg_a.frames + 1 ≤ R.frames ∧ 8 + (1 + 11) + rm_Reg_a.locals ≤ R.locals) : CallW R s args own R_Reg index y_Reg_a b_Reg_a 1 (some .int) (Cond.code y_Reg_a b_Reg_a 1 (some .int) :: WS) rm_Reg_a 0 0 0 := kwV 0 hts hl q_397 q_398 q_69 q_399 rfl rfl ⟨rfl, by decide +kernel, by decide +kernel, by decide +kernel⟩ hR
theorem kw_Reg_signOf {R : Room} {s : State} {args : Array Value} {own : String} {index : Nat} (hts : ∀ x ∈ WS, x.before args s = true) (hl : Cond.methodLink own index y_Reg_signOf ∈ WS) (hR : rm_Reg_signOf.frames + 1 ≤ R.frames ∧ 8 + (1 + 11) + rm_Reg_signOf.locals ≤ R.locals) : CallB R s args own index y_Reg_signOf b_Reg_signOf 1 (some .int) (Cond.code y_Reg_signOf b_Reg_signOf 1 (some .int) :: WS) rm_Reg_signOf 0 0 1 ∧ (Cond.static y_Reg_signOf).before args s = true := kwS 1 hts hl q_410 q_69 q_411 rfl rfl ⟨by decide +kernel, by decide +kernel, by decide +kernel⟩ hR
theorem kw_Reg_showResult {R : Room} {s : State} {args : Array Value} {own : String} {index : Nat} (hts : ∀ x ∈ WS, x.before args s = true) (hl : Cond.methodLink own index y_Reg_showResult ∈ WS) (hR : rm_Reg_showResult.frames + 1 ≤ R.frames ∧ 8 + (5 + 11) + rm_Reg_showResult.locals ≤ R.locals) : CallW R s args own R_Reg index y_Reg_showResult b_Reg_showResult 5 none (Cond.code y_Reg_showResult b_Reg_showResult 5 none :: WS) rm_Reg_showResult 0 0 2 := kwV 2 hts hl q_406 q_407 q_69 q_408 rfl rfl ⟨rfl, by decide +kernel, by decide +kernel, by decide +kernel⟩ hR
theorem kw_Reg_loadA {R : Room} {s : State} {args : Array Value} {own : String} {index : Nat} (hts : ∀ x ∈ WS, x.before args s = true) (hl : Cond.methodLink own index y_Reg_loadA ∈ WS) (hR : rm_Reg_loadA.frames + 1 ≤ R.frames ∧ 8 + (3 + 11) + rm_Reg_loadA.locals ≤ R.locals) : CallW R s args own R_Reg index y_Reg_loadA b_Reg_loadA 3 none (Cond.code y_Reg_loadA b_Reg_loadA 3 none :: WS) rm_Reg_loadA 0 0 1 := kwV 1 hts hl q_402 q_403 q_69 q_404 rfl rfl ⟨rfl, by decide +kernel, by decide +kernel, by decide +kernel⟩ hR
theorem kw_Prc_addToA {R : Room} {s : State} {args : Array Value} {own : String} {index : Nat} (hts : ∀ x ∈ WS, x.before args s = true) (hl : Cond.methodLink own index y_Prc_addToA ∈ WS) (hR : rm_Prc_addToA.frames + 1 ≤ R.frames ∧ 8 + (6 + 11) + rm_Prc_addToA.locals ≤ R.locals) : CallW R s args own R_Prc index y_Prc_addToA b_Prc_addToA 6 none (Cond.code y_Prc_addToA b_Prc_addToA 6 none :: WS) rm_Prc_addToA 0 0 1 := kwV 1 hts hl q_415 q_5 q_70 q_416 rfl rfl ⟨rfl, by decide +kernel, by decide +kernel, by decide +kernel⟩ hR
theorem kw_Prc_compare {R : Room} {s : State} {args : Array Value} {own : String} {index : Nat} (hts : ∀ x ∈ WS, x.before args s = true) (hl : Cond.methodLink own index y_Prc_compare ∈ WS) (hR : rm_Prc_compare.frames + 1 ≤ R.frames ∧ 8 + (4 + 11) + rm_Prc_compare.locals ≤ R.locals) : CallW R s args own R_Prc index y_Prc_compare b_Prc_compare 4 none (Cond.code y_Prc_compare b_Prc_compare 4 none :: WS) rm_Prc_compare 0 0 3 := kwV 3 hts hl q_421 q_6 q_70 q_422 rfl rfl ⟨rfl, by decide +kernel, by decide +kernel, by decide +kernel⟩ hR
theorem kw_Prc_useAccumulator {R : Room} {s : State} {args : Array Value} {own : String} {index : Nat} (hts : ∀ x ∈ WS, x.before args s = true) (hl : Cond.methodLink own index y_Prc_useAccumulator ∈ WS) (hR : rm_Prc_useAccumulator.frames + 1 ≤ R.frames ∧ 8 + (6 + 11) + rm_Prc_useAccumulator.locals ≤ R.locals) : CallW R s args own R_Prc index y_Prc_useAccumulator b_Prc_useAccumulator 6 (some .boolean) (Cond.code y_Prc_useAccumulator b_Prc_useAccumulator 6 (some .boolean) :: WS) rm_Prc_useAccumulator 0 0 1 := kwV 1 hts hl q_341 q_1 q_70 q_342 rfl rfl ⟨rfl, by decide +kernel, by decide +kernel, by decide +kernel⟩ hR
theorem kw_Reg_loadX {R : Room} {s : State} {args : Array Value} {own : String} {index : Nat} (hts : ∀ x ∈ WS, x.before args s = true) (hl : Cond.methodLink own index y_Reg_loadX ∈ WS) (hR : rm_Reg_loadX.frames + 1 ≤ R.frames ∧ 8 + (2 + 11) + rm_Reg_loadX.locals ≤ R.locals) : CallW R s args own R_Reg index y_Reg_loadX b_Reg_loadX 2 none (Cond.code y_Reg_loadX b_Reg_loadX 2 none :: WS) rm_Reg_loadX 0 0 1 := kwV 1 hts hl q_430 q_431 q_69 q_432 rfl rfl ⟨rfl, by decide +kernel, by decide +kernel, by decide +kernel⟩ hR
theorem kw_Reg_loadY {R : Room} {s : State} {args : Array Value} {own : String} {index : Nat} (hts : ∀ x ∈ WS, x.before args s = true) (hl : Cond.methodLink own index y_Reg_loadY ∈ WS) (hR : rm_Reg_loadY.frames + 1 ≤ R.frames ∧ 8 + (2 + 11) + rm_Reg_loadY.locals ≤ R.locals) : CallW R s args own R_Reg index y_Reg_loadY b_Reg_loadY 2 none (Cond.code y_Reg_loadY b_Reg_loadY 2 none :: WS) rm_Reg_loadY 0 0 1 := kwV 1 hts hl q_434 q_435 q_69 q_436 rfl rfl ⟨rfl, by decide +kernel, by decide +kernel, by decide +kernel⟩ hR
theorem kw_Prc_useIndex {R : Room} {s : State} {args : Array Value} {own : String} {index : Nat} (hts : ∀ x ∈ WS, x.before args s = true) (hl : Cond.methodLink own index y_Prc_useIndex ∈ WS) (hR : rm_Prc_useIndex.frames + 1 ≤ R.frames ∧ 8 + (3 + 11) + rm_Prc_useIndex.locals ≤ R.locals) : CallW R s args own R_Prc index y_Prc_useIndex b_Prc_useIndex 3 (some .boolean) (Cond.code y_Prc_useIndex b_Prc_useIndex 3 (some .boolean) :: WS) rm_Prc_useIndex 0 0 1 := kwV 1 hts hl q_426 q_7 q_70 q_427 rfl rfl ⟨rfl, by decide +kernel, by decide +kernel, by decide +kernel⟩ hR
theorem kw_Prc_storeZero {R : Room} {s : State} {args : Array Value} {own : String} {index : Nat} (hts : ∀ x ∈ WS, x.before args s = true) (hl : Cond.methodLink own index y_Prc_storeZero ∈ WS) (hR : rm_Prc_storeZero.frames + 1 ≤ R.frames ∧ 8 + (2 + 11) + rm_Prc_storeZero.locals ≤ R.locals) : CallW R s args own R_Prc index y_Prc_storeZero b_Prc_storeZero 2 (some .boolean) (Cond.code y_Prc_storeZero b_Prc_storeZero 2 (some .boolean) :: WS) rm_Prc_storeZero 0 0 1 := kwV 1 hts hl q_439 q_8 q_70 q_440 rfl rfl ⟨rfl, by decide +kernel, by decide +kernel, by decide +kernel⟩ hR
theorem kw_Prc_changed {R : Room} {s : State} {args : Array Value} {own : String} {index : Nat} (hts : ∀ x ∈ WS, x.before args s = true) (hl : Cond.methodLink own index y_Prc_changed ∈ WS) (hR : rm_Prc_changed.frames + 1 ≤ R.frames ∧ 8 + (7 + 11) + rm_Prc_changed.locals ≤ R.locals) : CallW R s args own R_Prc index y_Prc_changed b_Prc_changed 7 (some .int) (Cond.code y_Prc_changed b_Prc_changed 7 (some .int) :: WS) rm_Prc_changed 0 0 3 := kwV 3 hts hl q_447 q_10 q_70 q_448 rfl rfl ⟨rfl, by decide +kernel, by decide +kernel, by decide +kernel⟩ hR
theorem kw_Prc_changeMemory {R : Room} {s : State} {args : Array Value} {own : String} {index : Nat} (hts : ∀ x ∈ WS, x.before args s = true) (hl : Cond.methodLink own index y_Prc_changeMemory ∈ WS) (hR : rm_Prc_changeMemory.frames + 1 ≤ R.frames ∧ 8 + (6 + 11) + rm_Prc_changeMemory.locals ≤ R.locals) : CallW R s args own R_Prc index y_Prc_changeMemory b_Prc_changeMemory 6 (some .boolean) (Cond.code y_Prc_changeMemory b_Prc_changeMemory 6 (some .boolean) :: WS) rm_Prc_changeMemory 0 0 1 := kwV 1 hts hl q_443 q_9 q_70 q_444 rfl rfl ⟨rfl, by decide +kernel, by decide +kernel, by decide +kernel⟩ hR
theorem kw_Prc_changeRegister {R : Room} {s : State} {args : Array Value} {own : String} {index : Nat} (hts : ∀ x ∈ WS, x.before args s = true) (hl : Cond.methodLink own index y_Prc_changeRegister ∈ WS) (hR : rm_Prc_changeRegister.frames + 1 ≤ R.frames ∧ 8 + (3 + 11) + rm_Prc_changeRegister.locals ≤ R.locals) : CallW R s args own R_Prc index y_Prc_changeRegister b_Prc_changeRegister 3 (some .boolean) (Cond.code y_Prc_changeRegister b_Prc_changeRegister 3 (some .boolean) :: WS) rm_Prc_changeRegister 0 0 1 := kwV 1 hts hl q_451 q_11 q_70 q_452 rfl rfl ⟨rfl, by decide +kernel, by decide +kernel, by decide +kernel⟩ hR
theorem kw_Reg_loadD {R : Room} {s : State} {args : Array Value} {own : String} {index : Nat} (hts : ∀ x ∈ WS, x.before args s = true) (hl : Cond.methodLink own index y_Reg_loadD ∈ WS) (hR : rm_Reg_loadD.frames + 1 ≤ R.frames ∧ 8 + (2 + 11) + rm_Reg_loadD.locals ≤ R.locals) : CallW R s args own R_Reg index y_Reg_loadD b_Reg_loadD 2 none (Cond.code y_Reg_loadD b_Reg_loadD 2 none :: WS) rm_Reg_loadD 0 0 1 := kwV 1 hts hl q_458 q_459 q_69 q_460 rfl rfl ⟨rfl, by decide +kernel, by decide +kernel, by decide +kernel⟩ hR
theorem kw_Reg_loadC {R : Room} {s : State} {args : Array Value} {own : String} {index : Nat} (hts : ∀ x ∈ WS, x.before args s = true) (hl : Cond.methodLink own index y_Reg_loadC ∈ WS) (hR : rm_Reg_loadC.frames + 1 ≤ R.frames ∧ 8 + (2 + 11) + rm_Reg_loadC.locals ≤ R.locals) : CallW R s args own R_Reg index y_Reg_loadC b_Reg_loadC 2 none (Cond.code y_Reg_loadC b_Reg_loadC 2 none :: WS) rm_Reg_loadC 0 0 1 := kwV 1 hts hl q_462 q_463 q_69 q_464 rfl rfl ⟨rfl, by decide +kernel, by decide +kernel, by decide +kernel⟩ hR
theorem kw_Prc_transfer {R : Room} {s : State} {args : Array Value} {own : String} {index : Nat} (hts : ∀ x ∈ WS, x.before args s = true) (hl : Cond.methodLink own index y_Prc_transfer ∈ WS) (hR : rm_Prc_transfer.frames + 1 ≤ R.frames ∧ 8 + (2 + 11) + rm_Prc_transfer.locals ≤ R.locals) : CallW R s args own R_Prc index y_Prc_transfer b_Prc_transfer 2 (some .boolean) (Cond.code y_Prc_transfer b_Prc_transfer 2 (some .boolean) :: WS) rm_Prc_transfer 0 0 1 := kwV 1 hts hl q_455 q_12 q_70 q_456 rfl rfl ⟨rfl, by decide +kernel, by decide +kernel, by decide +kernel⟩ hR
theorem kw_Stk_pushValue {R : Room} {s : State} {args : Array Value} {own : String} {index : Nat} (hts : ∀ x ∈ WS, x.before args s = true) (hl : Cond.methodLink own index y_Stk_pushValue ∈ WS) (hR : rm_Stk_pushValue.frames + 1 ≤ R.frames ∧ 8 + (3 + 11) + rm_Stk_pushValue.locals ≤ R.locals) : CallW R s args own R_Stk index y_Stk_pushValue b_Stk_pushValue 3 none (Cond.code y_Stk_pushValue b_Stk_pushValue 3 none :: WS) rm_Stk_pushValue 0 0 2 := kwV 2 hts hl q_470 q_471 q_72 q_472 rfl rfl ⟨rfl, by decide +kernel, by decide +kernel, by decide +kernel⟩ hR
theorem kw_Prc_push {R : Room} {s : State} {args : Array Value} {own : String} {index : Nat} (hts : ∀ x ∈ WS, x.before args s = true) (hl : Cond.methodLink own index y_Prc_push ∈ WS) (hR : rm_Prc_push.frames + 1 ≤ R.frames ∧ 8 + (2 + 11) + rm_Prc_push.locals ≤ R.locals) : CallW R s args own R_Prc index y_Prc_push b_Prc_push 2 (some .boolean) (Cond.code y_Prc_push b_Prc_push 2 (some .boolean) :: WS) rm_Prc_push 0 0 1 := kwV 1 hts hl q_467 q_13 q_70 q_468 rfl rfl ⟨rfl, by decide +kernel, by decide +kernel, by decide +kernel⟩ hR
theorem kw_Stk_pullByte {R : Room} {s : State} {args : Array Value} {own : String} {index : Nat} (hts : ∀ x ∈ WS, x.before args s = true) (hl : Cond.methodLink own index y_Stk_pullByte ∈ WS) (hR : rm_Stk_pullByte.frames + 1 ≤ R.frames ∧ 8 + (1 + 11) + rm_Stk_pullByte.locals ≤ R.locals) : CallW R s args own R_Stk index y_Stk_pullByte b_Stk_pullByte 1 (some .int) (Cond.code y_Stk_pullByte b_Stk_pullByte 1 (some .int) :: WS) rm_Stk_pullByte 0 0 0 := kwV 0 hts hl q_487 q_488 q_72 q_489 rfl rfl ⟨rfl, by decide +kernel, by decide +kernel, by decide +kernel⟩ hR
theorem kw_Stk_pullWord {R : Room} {s : State} {args : Array Value} {own : String} {index : Nat} (hts : ∀ x ∈ WS, x.before args s = true) (hl : Cond.methodLink own index y_Stk_pullWord ∈ WS) (hR : rm_Stk_pullWord.frames + 1 ≤ R.frames ∧ 8 + (2 + 11) + rm_Stk_pullWord.locals ≤ R.locals) : CallW R s args own R_Stk index y_Stk_pullWord b_Stk_pullWord 2 (some .int) (Cond.code y_Stk_pullWord b_Stk_pullWord 2 (some .int) :: WS) rm_Stk_pullWord 0 0 0 := kwV 0 hts hl q_483 q_484 q_72 q_485 rfl rfl ⟨rfl, by decide +kernel, by decide +kernel, by decide +kernel⟩ hR
theorem kw_Stk_pullValue {R : Room} {s : State} {args : Array Value} {own : String} {index : Nat} (hts : ∀ x ∈ WS, x.before args s = true) (hl : Cond.methodLink own index y_Stk_pullValue ∈ WS) (hR : rm_Stk_pullValue.frames + 1 ≤ R.frames ∧ 8 + (2 + 11) + rm_Stk_pullValue.locals ≤ R.locals) : CallW R s args own R_Stk index y_Stk_pullValue b_Stk_pullValue 2 (some .int) (Cond.code y_Stk_pullValue b_Stk_pullValue 2 (some .int) :: WS) rm_Stk_pullValue 0 0 1 := kwV 1 hts hl q_479 q_480 q_72 q_481 rfl rfl ⟨rfl, by decide +kernel, by decide +kernel, by decide +kernel⟩ hR
theorem kw_Reg_loadDataBank {R : Room} {s : State} {args : Array Value} {own : String} {index : Nat} (hts : ∀ x ∈ WS, x.before args s = true) (hl : Cond.methodLink own index y_Reg_loadDataBank ∈ WS) (hR : rm_Reg_loadDataBank.frames + 1 ≤ R.frames ∧ 8 + (2 + 11) + rm_Reg_loadDataBank.locals ≤ R.locals) : CallW R s args own R_Reg index y_Reg_loadDataBank b_Reg_loadDataBank 2 none (Cond.code y_Reg_loadDataBank b_Reg_loadDataBank 2 none :: WS) rm_Reg_loadDataBank 0 0 1 := kwV 1 hts hl q_494 q_495 q_69 q_496 rfl rfl ⟨rfl, by decide +kernel, by decide +kernel, by decide +kernel⟩ hR
theorem kw_Prc_pull {R : Room} {s : State} {args : Array Value} {own : String} {index : Nat} (hts : ∀ x ∈ WS, x.before args s = true) (hl : Cond.methodLink own index y_Prc_pull ∈ WS) (hR : rm_Prc_pull.frames + 1 ≤ R.frames ∧ 8 + (2 + 11) + rm_Prc_pull.locals ≤ R.locals) : CallW R s args own R_Prc index y_Prc_pull b_Prc_pull 2 (some .boolean) (Cond.code y_Prc_pull b_Prc_pull 2 (some .boolean) :: WS) rm_Prc_pull 0 0 1 := kwV 1 hts hl q_476 q_14 q_70 q_477 rfl rfl ⟨rfl, by decide +kernel, by decide +kernel, by decide +kernel⟩ hR
theorem kw_Reg_jumpTo {R : Room} {s : State} {args : Array Value} {own : String} {index : Nat} (hts : ∀ x ∈ WS, x.before args s = true) (hl : Cond.methodLink own index y_Reg_jumpTo ∈ WS) (hR : rm_Reg_jumpTo.frames + 1 ≤ R.frames ∧ 8 + (2 + 11) + rm_Reg_jumpTo.locals ≤ R.locals) : CallW R s args own R_Reg index y_Reg_jumpTo b_Reg_jumpTo 2 none (Cond.code y_Reg_jumpTo b_Reg_jumpTo 2 none :: WS) rm_Reg_jumpTo 0 0 1 := kwV 1 hts hl q_503 q_504 q_69 q_505 rfl rfl ⟨rfl, by decide +kernel, by decide +kernel, by decide +kernel⟩ hR
theorem kw_Prc_branch {R : Room} {s : State} {args : Array Value} {own : String} {index : Nat} (hts : ∀ x ∈ WS, x.before args s = true) (hl : Cond.methodLink own index y_Prc_branch ∈ WS) (hR : rm_Prc_branch.frames + 1 ≤ R.frames ∧ 8 + (4 + 11) + rm_Prc_branch.locals ≤ R.locals) : CallW R s args own R_Prc index y_Prc_branch b_Prc_branch 4 (some .boolean) (Cond.code y_Prc_branch b_Prc_branch 4 (some .boolean) :: WS) rm_Prc_branch 0 0 1 := kwV 1 hts hl q_500 q_15 q_70 q_501 rfl rfl ⟨rfl, by decide +kernel, by decide +kernel, by decide +kernel⟩ hR
theorem kw_Reg_jumpLong {R : Room} {s : State} {args : Array Value} {own : String} {index : Nat} (hts : ∀ x ∈ WS, x.before args s = true) (hl : Cond.methodLink own index y_Reg_jumpLong ∈ WS) (hR : rm_Reg_jumpLong.frames + 1 ≤ R.frames ∧ 8 + (2 + 11) + rm_Reg_jumpLong.locals ≤ R.locals) : CallW R s args own R_Reg index y_Reg_jumpLong b_Reg_jumpLong 2 none (Cond.code y_Reg_jumpLong b_Reg_jumpLong 2 none :: WS) rm_Reg_jumpLong 0 0 1 := kwV 1 hts hl q_514 q_515 q_69 q_516 rfl rfl ⟨rfl, by decide +kernel, by decide +kernel, by decide +kernel⟩ hR
theorem kw_Prc_jump {R : Room} {s : State} {args : Array Value} {own : String} {index : Nat} (hts : ∀ x ∈ WS, x.before args s = true) (hl : Cond.methodLink own index y_Prc_jump ∈ WS) (hR : rm_Prc_jump.frames + 1 ≤ R.frames ∧ 8 + (3 + 11) + rm_Prc_jump.locals ≤ R.locals) : CallW R s args own R_Prc index y_Prc_jump b_Prc_jump 3 (some .boolean) (Cond.code y_Prc_jump b_Prc_jump 3 (some .boolean) :: WS) rm_Prc_jump 0 0 1 := kwV 1 hts hl q_510 q_16 q_70 q_511 rfl rfl ⟨rfl, by decide +kernel, by decide +kernel, by decide +kernel⟩ hR
theorem kw_Prc_changeFlags {R : Room} {s : State} {args : Array Value} {own : String} {index : Nat} (hts : ∀ x ∈ WS, x.before args s = true) (hl : Cond.methodLink own index y_Prc_changeFlags ∈ WS) (hR : rm_Prc_changeFlags.frames + 1 ≤ R.frames ∧ 8 + (2 + 11) + rm_Prc_changeFlags.locals ≤ R.locals) : CallW R s args own R_Prc index y_Prc_changeFlags b_Prc_changeFlags 2 (some .boolean) (Cond.code y_Prc_changeFlags b_Prc_changeFlags 2 (some .boolean) :: WS) rm_Prc_changeFlags 0 0 1 := kwV 1 hts hl q_520 q_17 q_70 q_521 rfl rfl ⟨rfl, by decide +kernel, by decide +kernel, by decide +kernel⟩ hR
theorem kw_Prc_moveBlock {R : Room} {s : State} {args : Array Value} {own : String} {index : Nat} (hts : ∀ x ∈ WS, x.before args s = true) (hl : Cond.methodLink own index y_Prc_moveBlock ∈ WS) (hR : rm_Prc_moveBlock.frames + 1 ≤ R.frames ∧ 8 + (6 + 11) + rm_Prc_moveBlock.locals ≤ R.locals) : CallW R s args own R_Prc index y_Prc_moveBlock b_Prc_moveBlock 6 (some .boolean) (Cond.code y_Prc_moveBlock b_Prc_moveBlock 6 (some .boolean) :: WS) rm_Prc_moveBlock 0 0 1 := kwV 1 hts hl q_524 q_18 q_70 q_525 rfl rfl ⟨rfl, by decide +kernel, by decide +kernel, by decide +kernel⟩ hR
theorem kw_Prc_makeStep {R : Room} {s : State} {args : Array Value} {own : String} {index : Nat} (hts : ∀ x ∈ WS, x.before args s = true) (hl : Cond.methodLink own index y_Prc_makeStep ∈ WS) (hR : rm_Prc_makeStep.frames + 1 ≤ R.frames ∧ 8 + (3 + 11) + rm_Prc_makeStep.locals ≤ R.locals) : CallW R s args own R_Prc index y_Prc_makeStep b_Prc_makeStep 3 none (Cond.code y_Prc_makeStep b_Prc_makeStep 3 none :: WS) rm_Prc_makeStep 0 0 0 := kwV 0 hts hl q_276 q_277 q_70 q_278 rfl rfl ⟨rfl, by decide +kernel, by decide +kernel, by decide +kernel⟩ hR
theorem kw_Wc_stopped {R : Room} {s : State} {args : Array Value} {own : String} {index : Nat} (hts : ∀ x ∈ WS, x.before args s = true) (hl : Cond.methodLink own index y_Wc_stopped ∈ WS) (hR : rm_Wc_stopped.frames + 1 ≤ R.frames ∧ 8 + (1 + 11) + rm_Wc_stopped.locals ≤ R.locals) : CallW R s args own R_Wc index y_Wc_stopped b_Wc_stopped 1 (some .boolean) (Cond.code y_Wc_stopped b_Wc_stopped 1 (some .boolean) :: WS) rm_Wc_stopped 0 0 0 := kwV 0 hts hl q_530 q_531 q_67 q_532 rfl rfl ⟨rfl, by decide +kernel, by decide +kernel, by decide +kernel⟩ hR
theorem kw_Wc_interrupt {R : Room} {s : State} {args : Array Value} {own : String} {index : Nat} (hts : ∀ x ∈ WS, x.before args s = true) (hl : Cond.methodLink own index y_Wc_interrupt ∈ WS) (hR : rm_Wc_interrupt.frames + 1 ≤ R.frames ∧ 8 + (1 + 11) + rm_Wc_interrupt.locals ≤ R.locals) : CallW R s args own R_Wc index y_Wc_interrupt b_Wc_interrupt 1 (some .boolean) (Cond.code y_Wc_interrupt b_Wc_interrupt 1 (some .boolean) :: WS) rm_Wc_interrupt 0 0 0 := kwV 0 hts hl q_534 q_535 q_67 q_536 rfl rfl ⟨rfl, by decide +kernel, by decide +kernel, by decide +kernel⟩ hR
theorem kw_Wc_line {R : Room} {s : State} {args : Array Value} {own : String} {index : Nat} (hts : ∀ x ∈ WS, x.before args s = true) (hl : Cond.methodLink own index y_Wc_line ∈ WS) (hR : rm_Wc_line.frames + 1 ≤ R.frames ∧ 8 + (2 + 11) + rm_Wc_line.locals ≤ R.locals) : CallW R s args own R_Wc index y_Wc_line b_Wc_line 2 none (Cond.code y_Wc_line b_Wc_line 2 none :: WS) rm_Wc_line 0 0 1 := kwV 1 hts hl q_538 q_539 q_67 q_540 rfl rfl ⟨rfl, by decide +kernel, by decide +kernel, by decide +kernel⟩ hR
theorem kw_Wc_touches {R : Room} {s : State} {args : Array Value} {own : String} {index : Nat} (hts : ∀ x ∈ WS, x.before args s = true) (hl : Cond.methodLink own index y_Wc_touches ∈ WS) (hR : rm_Wc_touches.frames + 1 ≤ R.frames ∧ 8 + (1 + 11) + rm_Wc_touches.locals ≤ R.locals) : CallW R s args own R_Wc index y_Wc_touches b_Wc_touches 1 (some .int) (Cond.code y_Wc_touches b_Wc_touches 1 (some .int) :: WS) rm_Wc_touches 0 0 0 := kwV 0 hts hl q_542 q_543 q_67 q_544 rfl rfl ⟨rfl, by decide +kernel, by decide +kernel, by decide +kernel⟩ hR
theorem kw_Bus_latestTouch {R : Room} {s : State} {args : Array Value} {own : String} {index : Nat} (hts : ∀ x ∈ WS, x.before args s = true) (hl : Cond.methodLink own index y_Bus_latestTouch ∈ WS) (hR : rm_Bus_latestTouch.frames + 1 ≤ R.frames ∧ 8 + (2 + 11) + rm_Bus_latestTouch.locals ≤ R.locals) : CallW R s args own R_Bus index y_Bus_latestTouch b_Bus_latestTouch 2 (some .int) (Cond.code y_Bus_latestTouch b_Bus_latestTouch 2 (some .int) :: WS) rm_Bus_latestTouch 0 0 1 := kwV 1 hts hl q_550 q_551 q_68 q_552 rfl rfl ⟨rfl, by decide +kernel, by decide +kernel, by decide +kernel⟩ hR
theorem kw_Wc_touched {R : Room} {s : State} {args : Array Value} {own : String} {index : Nat} (hts : ∀ x ∈ WS, x.before args s = true) (hl : Cond.methodLink own index y_Wc_touched ∈ WS) (hR : rm_Wc_touched.frames + 1 ≤ R.frames ∧ 8 + (2 + 11) + rm_Wc_touched.locals ≤ R.locals) : CallW R s args own R_Wc index y_Wc_touched b_Wc_touched 2 (some .int) (Cond.code y_Wc_touched b_Wc_touched 2 (some .int) :: WS) rm_Wc_touched 0 0 1 := kwV 1 hts hl q_546 q_547 q_67 q_548 rfl rfl ⟨rfl, by decide +kernel, by decide +kernel, by decide +kernel⟩ hR
theorem kw_Wc_steps {R : Room} {s : State} {args : Array Value} {own : String} {index : Nat} (hts : ∀ x ∈ WS, x.before args s = true) (hl : Cond.methodLink own index y_Wc_steps ∈ WS) (hR : rm_Wc_steps.frames + 1 ≤ R.frames ∧ 8 + (1 + 11) + rm_Wc_steps.locals ≤ R.locals) : CallW R s args own R_Wc index y_Wc_steps b_Wc_steps 1 (some .int) (Cond.code y_Wc_steps b_Wc_steps 1 (some .int) :: WS) rm_Wc_steps 0 0 0 := kwV 0 hts hl q_554 q_555 q_67 q_556 rfl rfl ⟨rfl, by decide +kernel, by decide +kernel, by decide +kernel⟩ hR
theorem kw_Mdl_is {R : Room} {s : State} {args : Array Value} {own : String} {index : Nat} (hts : ∀ x ∈ WS, x.before args s = true) (hl : Cond.methodLink own index y_Mdl_is ∈ WS) (hR : rm_Mdl_is.frames + 1 ≤ R.frames ∧ 8 + (2 + 11) + rm_Mdl_is.locals ≤ R.locals) : CallW R s args own R_Mdl index y_Mdl_is b_Mdl_is 2 (some .boolean) (Cond.code y_Mdl_is b_Mdl_is 2 (some .boolean) :: WS) rm_Mdl_is 0 0 1 := kwV 1 hts hl q_637 q_19 q_73 q_638 rfl rfl ⟨rfl, by decide +kernel, by decide +kernel, by decide +kernel⟩ hR
theorem kw_Mdl_flag {R : Room} {s : State} {args : Array Value} {own : String} {index : Nat} (hts : ∀ x ∈ WS, x.before args s = true) (hl : Cond.methodLink own index y_Mdl_flag ∈ WS) (hR : rm_Mdl_flag.frames + 1 ≤ R.frames ∧ 8 + (3 + 11) + rm_Mdl_flag.locals ≤ R.locals) : CallW R s args own R_Mdl index y_Mdl_flag b_Mdl_flag 3 none (Cond.code y_Mdl_flag b_Mdl_flag 3 none :: WS) rm_Mdl_flag 0 0 2 := kwV 2 hts hl q_684 q_28 q_73 q_685 rfl rfl ⟨rfl, by decide +kernel, by decide +kernel, by decide +kernel⟩ hR
theorem kw_Mdl_cell {R : Room} {s : State} {args : Array Value} {own : String} {index : Nat} (hts : ∀ x ∈ WS, x.before args s = true) (hl : Cond.methodLink own index y_Mdl_cell ∈ WS) (hR : rm_Mdl_cell.frames + 1 ≤ R.frames ∧ 8 + (1 + 11) + rm_Mdl_cell.locals ≤ R.locals) : CallB R s args own index y_Mdl_cell b_Mdl_cell 1 (some .int) (Cond.code y_Mdl_cell b_Mdl_cell 1 (some .int) :: WS) rm_Mdl_cell 0 0 1 ∧ (Cond.static y_Mdl_cell).before args s = true := kwS 1 hts hl q_672 q_73 q_673 rfl rfl ⟨by decide +kernel, by decide +kernel, by decide +kernel⟩ hR
theorem kw_Mdl_touch {R : Room} {s : State} {args : Array Value} {own : String} {index : Nat} (hts : ∀ x ∈ WS, x.before args s = true) (hl : Cond.methodLink own index y_Mdl_touch ∈ WS) (hR : rm_Mdl_touch.frames + 1 ≤ R.frames ∧ 8 + (3 + 11) + rm_Mdl_touch.locals ≤ R.locals) : CallW R s args own R_Mdl index y_Mdl_touch b_Mdl_touch 3 none (Cond.code y_Mdl_touch b_Mdl_touch 3 none :: WS) rm_Mdl_touch 0 0 1 := kwV 1 hts hl q_676 q_26 q_73 q_677 rfl rfl ⟨rfl, by decide +kernel, by decide +kernel, by decide +kernel⟩ hR
theorem kw_Mdl_read {R : Room} {s : State} {args : Array Value} {own : String} {index : Nat} (hts : ∀ x ∈ WS, x.before args s = true) (hl : Cond.methodLink own index y_Mdl_read ∈ WS) (hR : rm_Mdl_read.frames + 1 ≤ R.frames ∧ 8 + (2 + 11) + rm_Mdl_read.locals ≤ R.locals) : CallW R s args own R_Mdl index y_Mdl_read b_Mdl_read 2 (some .int) (Cond.code y_Mdl_read b_Mdl_read 2 (some .int) :: WS) rm_Mdl_read 0 0 1 := kwV 1 hts hl q_692 q_30 q_73 q_693 rfl rfl ⟨rfl, by decide +kernel, by decide +kernel, by decide +kernel⟩ hR
theorem kw_Mdl_write {R : Room} {s : State} {args : Array Value} {own : String} {index : Nat} (hts : ∀ x ∈ WS, x.before args s = true) (hl : Cond.methodLink own index y_Mdl_write ∈ WS) (hR : rm_Mdl_write.frames + 1 ≤ R.frames ∧ 8 + (3 + 11) + rm_Mdl_write.locals ≤ R.locals) : CallW R s args own R_Mdl index y_Mdl_write b_Mdl_write 3 none (Cond.code y_Mdl_write b_Mdl_write 3 none :: WS) rm_Mdl_write 0 0 2 := kwV 2 hts hl q_669 q_25 q_73 q_670 rfl rfl ⟨rfl, by decide +kernel, by decide +kernel, by decide +kernel⟩ hR
theorem kw_Mdl_after {R : Room} {s : State} {args : Array Value} {own : String} {index : Nat} (hts : ∀ x ∈ WS, x.before args s = true) (hl : Cond.methodLink own index y_Mdl_after ∈ WS) (hR : rm_Mdl_after.frames + 1 ≤ R.frames ∧ 8 + (3 + 11) + rm_Mdl_after.locals ≤ R.locals) : CallW R s args own R_Mdl index y_Mdl_after b_Mdl_after 3 (some .int) (Cond.code y_Mdl_after b_Mdl_after 3 (some .int) :: WS) rm_Mdl_after 0 0 2 := kwV 2 hts hl q_696 q_31 q_73 q_697 rfl rfl ⟨rfl, by decide +kernel, by decide +kernel, by decide +kernel⟩ hR
theorem kw_Mdl_readWord {R : Room} {s : State} {args : Array Value} {own : String} {index : Nat} (hts : ∀ x ∈ WS, x.before args s = true) (hl : Cond.methodLink own index y_Mdl_readWord ∈ WS) (hR : rm_Mdl_readWord.frames + 1 ≤ R.frames ∧ 8 + (4 + 11) + rm_Mdl_readWord.locals ≤ R.locals) : CallW R s args own R_Mdl index y_Mdl_readWord b_Mdl_readWord 4 (some .int) (Cond.code y_Mdl_readWord b_Mdl_readWord 4 (some .int) :: WS) rm_Mdl_readWord 0 0 2 := kwV 2 hts hl q_688 q_29 q_73 q_689 rfl rfl ⟨rfl, by decide +kernel, by decide +kernel, by decide +kernel⟩ hR
theorem kw_Mdl_push {R : Room} {s : State} {args : Array Value} {own : String} {index : Nat} (hts : ∀ x ∈ WS, x.before args s = true) (hl : Cond.methodLink own index y_Mdl_push ∈ WS) (hR : rm_Mdl_push.frames + 1 ≤ R.frames ∧ 8 + (2 + 11) + rm_Mdl_push.locals ≤ R.locals) : CallW R s args own R_Mdl index y_Mdl_push b_Mdl_push 2 none (Cond.code y_Mdl_push b_Mdl_push 2 none :: WS) rm_Mdl_push 0 0 1 := kwV 1 hts hl q_665 q_24 q_73 q_666 rfl rfl ⟨rfl, by decide +kernel, by decide +kernel, by decide +kernel⟩ hR
theorem kw_Mdl_pushWord {R : Room} {s : State} {args : Array Value} {own : String} {index : Nat} (hts : ∀ x ∈ WS, x.before args s = true) (hl : Cond.methodLink own index y_Mdl_pushWord ∈ WS) (hR : rm_Mdl_pushWord.frames + 1 ≤ R.frames ∧ 8 + (2 + 11) + rm_Mdl_pushWord.locals ≤ R.locals) : CallW R s args own R_Mdl index y_Mdl_pushWord b_Mdl_pushWord 2 none (Cond.code y_Mdl_pushWord b_Mdl_pushWord 2 none :: WS) rm_Mdl_pushWord 0 0 1 := kwV 1 hts hl q_680 q_27 q_73 q_681 rfl rfl ⟨rfl, by decide +kernel, by decide +kernel, by decide +kernel⟩ hR
theorem kw_Mdl_pull {R : Room} {s : State} {args : Array Value} {own : String} {index : Nat} (hts : ∀ x ∈ WS, x.before args s = true) (hl : Cond.methodLink own index y_Mdl_pull ∈ WS) (hR : rm_Mdl_pull.frames + 1 ≤ R.frames ∧ 8 + (1 + 11) + rm_Mdl_pull.locals ≤ R.locals) : CallW R s args own R_Mdl index y_Mdl_pull b_Mdl_pull 1 (some .int) (Cond.code y_Mdl_pull b_Mdl_pull 1 (some .int) :: WS) rm_Mdl_pull 0 0 0 := kwV 0 hts hl q_808 q_58 q_73 q_809 rfl rfl ⟨rfl, by decide +kernel, by decide +kernel, by decide +kernel⟩ hR
theorem kw_Mdl_pullWord {R : Room} {s : State} {args : Array Value} {own : String} {index : Nat} (hts : ∀ x ∈ WS, x.before args s = true) (hl : Cond.methodLink own index y_Mdl_pullWord ∈ WS) (hR : rm_Mdl_pullWord.frames + 1 ≤ R.frames ∧ 8 + (2 + 11) + rm_Mdl_pullWord.locals ≤ R.locals) : CallW R s args own R_Mdl index y_Mdl_pullWord b_Mdl_pullWord 2 (some .int) (Cond.code y_Mdl_pullWord b_Mdl_pullWord 2 (some .int) :: WS) rm_Mdl_pullWord 0 0 0 := kwV 0 hts hl q_812 q_59 q_73 q_813 rfl rfl ⟨rfl, by decide +kernel, by decide +kernel, by decide +kernel⟩ hR
theorem kw_Mdl_next {R : Room} {s : State} {args : Array Value} {own : String} {index : Nat} (hts : ∀ x ∈ WS, x.before args s = true) (hl : Cond.methodLink own index y_Mdl_next ∈ WS) (hR : rm_Mdl_next.frames + 1 ≤ R.frames ∧ 8 + (2 + 11) + rm_Mdl_next.locals ≤ R.locals) : CallW R s args own R_Mdl index y_Mdl_next b_Mdl_next 2 (some .int) (Cond.code y_Mdl_next b_Mdl_next 2 (some .int) :: WS) rm_Mdl_next 0 0 0 := kwV 0 hts hl q_702 q_32 q_73 q_703 rfl rfl ⟨rfl, by decide +kernel, by decide +kernel, by decide +kernel⟩ hR
theorem kw_Mdl_nextWord {R : Room} {s : State} {args : Array Value} {own : String} {index : Nat} (hts : ∀ x ∈ WS, x.before args s = true) (hl : Cond.methodLink own index y_Mdl_nextWord ∈ WS) (hR : rm_Mdl_nextWord.frames + 1 ≤ R.frames ∧ 8 + (2 + 11) + rm_Mdl_nextWord.locals ≤ R.locals) : CallW R s args own R_Mdl index y_Mdl_nextWord b_Mdl_nextWord 2 (some .int) (Cond.code y_Mdl_nextWord b_Mdl_nextWord 2 (some .int) :: WS) rm_Mdl_nextWord 0 0 0 := kwV 0 hts hl q_718 q_36 q_73 q_719 rfl rfl ⟨rfl, by decide +kernel, by decide +kernel, by decide +kernel⟩ hR
theorem kw_Mdl_nextLong {R : Room} {s : State} {args : Array Value} {own : String} {index : Nat} (hts : ∀ x ∈ WS, x.before args s = true) (hl : Cond.methodLink own index y_Mdl_nextLong ∈ WS) (hR : rm_Mdl_nextLong.frames + 1 ≤ R.frames ∧ 8 + (2 + 11) + rm_Mdl_nextLong.locals ≤ R.locals) : CallW R s args own R_Mdl index y_Mdl_nextLong b_Mdl_nextLong 2 (some .int) (Cond.code y_Mdl_nextLong b_Mdl_nextLong 2 (some .int) :: WS) rm_Mdl_nextLong 0 0 0 := kwV 0 hts hl q_726 q_38 q_73 q_727 rfl rfl ⟨rfl, by decide +kernel, by decide +kernel, by decide +kernel⟩ hR
theorem kw_Mdl_accumulator {R : Room} {s : State} {args : Array Value} {own : String} {index : Nat} (hts : ∀ x ∈ WS, x.before args s = true) (hl : Cond.methodLink own index y_Mdl_accumulator ∈ WS) (hR : rm_Mdl_accumulator.frames + 1 ≤ R.frames ∧ 8 + (1 + 11) + rm_Mdl_accumulator.locals ≤ R.locals) : CallW R s args own R_Mdl index y_Mdl_accumulator b_Mdl_accumulator 1 (some .int) (Cond.code y_Mdl_accumulator b_Mdl_accumulator 1 (some .int) :: WS) rm_Mdl_accumulator 0 0 0 := kwV 0 hts hl q_730 q_39 q_73 q_731 rfl rfl ⟨rfl, by decide +kernel, by decide +kernel, by decide +kernel⟩ hR
theorem kw_Mdl_setAccumulator {R : Room} {s : State} {args : Array Value} {own : String} {index : Nat} (hts : ∀ x ∈ WS, x.before args s = true) (hl : Cond.methodLink own index y_Mdl_setAccumulator ∈ WS) (hR : rm_Mdl_setAccumulator.frames + 1 ≤ R.frames ∧ 8 + (2 + 11) + rm_Mdl_setAccumulator.locals ≤ R.locals) : CallW R s args own R_Mdl index y_Mdl_setAccumulator b_Mdl_setAccumulator 2 none (Cond.code y_Mdl_setAccumulator b_Mdl_setAccumulator 2 none :: WS) rm_Mdl_setAccumulator 0 0 1 := kwV 1 hts hl q_755 q_45 q_73 q_756 rfl rfl ⟨rfl, by decide +kernel, by decide +kernel, by decide +kernel⟩ hR
theorem kw_Mdl_cut {R : Room} {s : State} {args : Array Value} {own : String} {index : Nat} (hts : ∀ x ∈ WS, x.before args s = true) (hl : Cond.methodLink own index y_Mdl_cut ∈ WS) (hR : rm_Mdl_cut.frames + 1 ≤ R.frames ∧ 8 + (3 + 11) + rm_Mdl_cut.locals ≤ R.locals) : CallW R s args own R_Mdl index y_Mdl_cut b_Mdl_cut 3 (some .int) (Cond.code y_Mdl_cut b_Mdl_cut 3 (some .int) :: WS) rm_Mdl_cut 0 0 2 := kwV 2 hts hl q_641 q_20 q_73 q_642 rfl rfl ⟨rfl, by decide +kernel, by decide +kernel, by decide +kernel⟩ hR
theorem kw_Mdl_result {R : Room} {s : State} {args : Array Value} {own : String} {index : Nat} (hts : ∀ x ∈ WS, x.before args s = true) (hl : Cond.methodLink own index y_Mdl_result ∈ WS) (hR : rm_Mdl_result.frames + 1 ≤ R.frames ∧ 8 + (4 + 11) + rm_Mdl_result.locals ≤ R.locals) : CallW R s args own R_Mdl index y_Mdl_result b_Mdl_result 4 (some .int) (Cond.code y_Mdl_result b_Mdl_result 4 (some .int) :: WS) rm_Mdl_result 0 0 2 := kwV 2 hts hl q_751 q_44 q_73 q_752 rfl rfl ⟨rfl, by decide +kernel, by decide +kernel, by decide +kernel⟩ hR
theorem kw_Mdl_setFlags {R : Room} {s : State} {args : Array Value} {own : String} {index : Nat} (hts : ∀ x ∈ WS, x.before args s = true) (hl : Cond.methodLink own index y_Mdl_setFlags ∈ WS) (hR : rm_Mdl_setFlags.frames + 1 ≤ R.frames ∧ 8 + (2 + 11) + rm_Mdl_setFlags.locals ≤ R.locals) : CallW R s args own R_Mdl index y_Mdl_setFlags b_Mdl_setFlags 2 none (Cond.code y_Mdl_setFlags b_Mdl_setFlags 2 none :: WS) rm_Mdl_setFlags 0 0 1 := kwV 1 hts hl q_645 q_21 q_73 q_646 rfl rfl ⟨rfl, by decide +kernel, by decide +kernel, by decide +kernel⟩ hR
theorem kw_Mdl_direct {R : Room} {s : State} {args : Array Value} {own : String} {index : Nat} (hts : ∀ x ∈ WS, x.before args s = true) (hl : Cond.methodLink own index y_Mdl_direct ∈ WS) (hR : rm_Mdl_direct.frames + 1 ≤ R.frames ∧ 8 + (2 + 11) + rm_Mdl_direct.locals ≤ R.locals) : CallW R s args own R_Mdl index y_Mdl_direct b_Mdl_direct 2 none (Cond.code y_Mdl_direct b_Mdl_direct 2 none :: WS) rm_Mdl_direct 0 0 1 := kwV 1 hts hl q_714 q_35 q_73 q_715 rfl rfl ⟨rfl, by decide +kernel, by decide +kernel, by decide +kernel⟩ hR
theorem kw_Mdl_far {R : Room} {s : State} {args : Array Value} {own : String} {index : Nat} (hts : ∀ x ∈ WS, x.before args s = true) (hl : Cond.methodLink own index y_Mdl_far ∈ WS) (hR : rm_Mdl_far.frames + 1 ≤ R.frames ∧ 8 + (2 + 11) + rm_Mdl_far.locals ≤ R.locals) : CallW R s args own R_Mdl index y_Mdl_far b_Mdl_far 2 none (Cond.code y_Mdl_far b_Mdl_far 2 none :: WS) rm_Mdl_far 0 0 1 := kwV 1 hts hl q_722 q_37 q_73 q_723 rfl rfl ⟨rfl, by decide +kernel, by decide +kernel, by decide +kernel⟩ hR
theorem kw_Mdl_find {R : Room} {s : State} {args : Array Value} {own : String} {index : Nat} (hts : ∀ x ∈ WS, x.before args s = true) (hl : Cond.methodLink own index y_Mdl_find ∈ WS) (hR : rm_Mdl_find.frames + 1 ≤ R.frames ∧ 8 + (4 + 11) + rm_Mdl_find.locals ≤ R.locals) : CallW R s args own R_Mdl index y_Mdl_find b_Mdl_find 4 (some .boolean) (Cond.code y_Mdl_find b_Mdl_find 4 (some .boolean) :: WS) rm_Mdl_find 0 0 1 := kwV 1 hts hl q_710 q_34 q_73 q_711 rfl rfl ⟨rfl, by decide +kernel, by decide +kernel, by decide +kernel⟩ hR
theorem kw_Mdl_load {R : Room} {s : State} {args : Array Value} {own : String} {index : Nat} (hts : ∀ x ∈ WS, x.before args s = true) (hl : Cond.methodLink own index y_Mdl_load ∈ WS) (hR : rm_Mdl_load.frames + 1 ≤ R.frames ∧ 8 + (2 + 11) + rm_Mdl_load.locals ≤ R.locals) : CallW R s args own R_Mdl index y_Mdl_load b_Mdl_load 2 (some .int) (Cond.code y_Mdl_load b_Mdl_load 2 (some .int) :: WS) rm_Mdl_load 0 0 1 := kwV 1 hts hl q_742 q_42 q_73 q_743 rfl rfl ⟨rfl, by decide +kernel, by decide +kernel, by decide +kernel⟩ hR
theorem kw_Mdl_store {R : Room} {s : State} {args : Array Value} {own : String} {index : Nat} (hts : ∀ x ∈ WS, x.before args s = true) (hl : Cond.methodLink own index y_Mdl_store ∈ WS) (hR : rm_Mdl_store.frames + 1 ≤ R.frames ∧ 8 + (3 + 11) + rm_Mdl_store.locals ≤ R.locals) : CallW R s args own R_Mdl index y_Mdl_store b_Mdl_store 3 none (Cond.code y_Mdl_store b_Mdl_store 3 none :: WS) rm_Mdl_store 0 0 2 := kwV 2 hts hl q_734 q_40 q_73 q_735 rfl rfl ⟨rfl, by decide +kernel, by decide +kernel, by decide +kernel⟩ hR
theorem kw_Mdl_immediate {R : Room} {s : State} {args : Array Value} {own : String} {index : Nat} (hts : ∀ x ∈ WS, x.before args s = true) (hl : Cond.methodLink own index y_Mdl_immediate ∈ WS) (hR : rm_Mdl_immediate.frames + 1 ≤ R.frames ∧ 8 + (2 + 11) + rm_Mdl_immediate.locals ≤ R.locals) : CallW R s args own R_Mdl index y_Mdl_immediate b_Mdl_immediate 2 (some .int) (Cond.code y_Mdl_immediate b_Mdl_immediate 2 (some .int) :: WS) rm_Mdl_immediate 0 0 1 := kwV 1 hts hl q_738 q_41 q_73 q_739 rfl rfl ⟨rfl, by decide +kernel, by decide +kernel, by decide +kernel⟩ hR
theorem kw_Mdl_add {R : Room} {s : State} {args : Array Value} {own : String} {index : Nat} (hts : ∀ x ∈ WS, x.before args s = true) (hl : Cond.methodLink own index y_Mdl_add ∈ WS) (hR : rm_Mdl_add.frames + 1 ≤ R.frames ∧ 8 + (6 + 11) + rm_Mdl_add.locals ≤ R.locals) : CallW R s args own R_Mdl index y_Mdl_add b_Mdl_add 6 none (Cond.code y_Mdl_add b_Mdl_add 6 none :: WS) rm_Mdl_add 0 0 1 := kwV 1 hts hl q_746 q_43 q_73 q_747 rfl rfl ⟨rfl, by decide +kernel, by decide +kernel, by decide +kernel⟩ hR
theorem kw_Mdl_compare {R : Room} {s : State} {args : Array Value} {own : String} {index : Nat} (hts : ∀ x ∈ WS, x.before args s = true) (hl : Cond.methodLink own index y_Mdl_compare ∈ WS) (hR : rm_Mdl_compare.frames + 1 ≤ R.frames ∧ 8 + (5 + 11) + rm_Mdl_compare.locals ≤ R.locals) : CallW R s args own R_Mdl index y_Mdl_compare b_Mdl_compare 5 none (Cond.code y_Mdl_compare b_Mdl_compare 5 none :: WS) rm_Mdl_compare 0 0 3 := kwV 3 hts hl q_760 q_46 q_73 q_761 rfl rfl ⟨rfl, by decide +kernel, by decide +kernel, by decide +kernel⟩ hR
theorem kw_Mdl_arithmetic {R : Room} {s : State} {args : Array Value} {own : String} {index : Nat} (hts : ∀ x ∈ WS, x.before args s = true) (hl : Cond.methodLink own index y_Mdl_arithmetic ∈ WS) (hR : rm_Mdl_arithmetic.frames + 1 ≤ R.frames ∧ 8 + (8 + 11) + rm_Mdl_arithmetic.locals ≤ R.locals) : CallW R s args own R_Mdl index y_Mdl_arithmetic b_Mdl_arithmetic 8 (some .boolean) (Cond.code y_Mdl_arithmetic b_Mdl_arithmetic 8 (some .boolean) :: WS) rm_Mdl_arithmetic 0 0 1 := kwV 1 hts hl q_706 q_33 q_73 q_707 rfl rfl ⟨rfl, by decide +kernel, by decide +kernel, by decide +kernel⟩ hR
theorem kw_Mdl_changed {R : Room} {s : State} {args : Array Value} {own : String} {index : Nat} (hts : ∀ x ∈ WS, x.before args s = true) (hl : Cond.methodLink own index y_Mdl_changed ∈ WS) (hR : rm_Mdl_changed.frames + 1 ≤ R.frames ∧ 8 + (6 + 11) + rm_Mdl_changed.locals ≤ R.locals) : CallW R s args own R_Mdl index y_Mdl_changed b_Mdl_changed 6 (some .int) (Cond.code y_Mdl_changed b_Mdl_changed 6 (some .int) :: WS) rm_Mdl_changed 0 0 3 := kwV 3 hts hl q_772 q_49 q_73 q_773 rfl rfl ⟨rfl, by decide +kernel, by decide +kernel, by decide +kernel⟩ hR
theorem kw_Mdl_changeMemory {R : Room} {s : State} {args : Array Value} {own : String} {index : Nat} (hts : ∀ x ∈ WS, x.before args s = true) (hl : Cond.methodLink own index y_Mdl_changeMemory ∈ WS) (hR : rm_Mdl_changeMemory.frames + 1 ≤ R.frames ∧ 8 + (4 + 11) + rm_Mdl_changeMemory.locals ≤ R.locals) : CallW R s args own R_Mdl index y_Mdl_changeMemory b_Mdl_changeMemory 4 none (Cond.code y_Mdl_changeMemory b_Mdl_changeMemory 4 none :: WS) rm_Mdl_changeMemory 0 0 2 := kwV 2 hts hl q_768 q_48 q_73 q_769 rfl rfl ⟨rfl, by decide +kernel, by decide +kernel, by decide +kernel⟩ hR
theorem kw_Mdl_change {R : Room} {s : State} {args : Array Value} {own : String} {index : Nat} (hts : ∀ x ∈ WS, x.before args s = true) (hl : Cond.methodLink own index y_Mdl_change ∈ WS) (hR : rm_Mdl_change.frames + 1 ≤ R.frames ∧ 8 + (2 + 11) + rm_Mdl_change.locals ≤ R.locals) : CallW R s args own R_Mdl index y_Mdl_change b_Mdl_change 2 (some .boolean) (Cond.code y_Mdl_change b_Mdl_change 2 (some .boolean) :: WS) rm_Mdl_change 0 0 1 := kwV 1 hts hl q_764 q_47 q_73 q_765 rfl rfl ⟨rfl, by decide +kernel, by decide +kernel, by decide +kernel⟩ hR
theorem kw_Mdl_findIndex {R : Room} {s : State} {args : Array Value} {own : String} {index : Nat} (hts : ∀ x ∈ WS, x.before args s = true) (hl : Cond.methodLink own index y_Mdl_findIndex ∈ WS) (hR : rm_Mdl_findIndex.frames + 1 ≤ R.frames ∧ 8 + (2 + 11) + rm_Mdl_findIndex.locals ≤ R.locals) : CallW R s args own R_Mdl index y_Mdl_findIndex b_Mdl_findIndex 2 none (Cond.code y_Mdl_findIndex b_Mdl_findIndex 2 none :: WS) rm_Mdl_findIndex 0 0 1 := kwV 1 hts hl q_784 q_52 q_73 q_785 rfl rfl ⟨rfl, by decide +kernel, by decide +kernel, by decide +kernel⟩ hR
theorem kw_Mdl_indexOperand {R : Room} {s : State} {args : Array Value} {own : String} {index : Nat} (hts : ∀ x ∈ WS, x.before args s = true) (hl : Cond.methodLink own index y_Mdl_indexOperand ∈ WS) (hR : rm_Mdl_indexOperand.frames + 1 ≤ R.frames ∧ 8 + (2 + 11) + rm_Mdl_indexOperand.locals ≤ R.locals) : CallW R s args own R_Mdl index y_Mdl_indexOperand b_Mdl_indexOperand 2 (some .int) (Cond.code y_Mdl_indexOperand b_Mdl_indexOperand 2 (some .int) :: WS) rm_Mdl_indexOperand 0 0 1 := kwV 1 hts hl q_780 q_51 q_73 q_781 rfl rfl ⟨rfl, by decide +kernel, by decide +kernel, by decide +kernel⟩ hR
theorem kw_Mdl_storeAt {R : Room} {s : State} {args : Array Value} {own : String} {index : Nat} (hts : ∀ x ∈ WS, x.before args s = true) (hl : Cond.methodLink own index y_Mdl_storeAt ∈ WS) (hR : rm_Mdl_storeAt.frames + 1 ≤ R.frames ∧ 8 + (4 + 11) + rm_Mdl_storeAt.locals ≤ R.locals) : CallW R s args own R_Mdl index y_Mdl_storeAt b_Mdl_storeAt 4 none (Cond.code y_Mdl_storeAt b_Mdl_storeAt 4 none :: WS) rm_Mdl_storeAt 0 0 3 := kwV 3 hts hl q_788 q_53 q_73 q_789 rfl rfl ⟨rfl, by decide +kernel, by decide +kernel, by decide +kernel⟩ hR
theorem kw_Mdl_index {R : Room} {s : State} {args : Array Value} {own : String} {index : Nat} (hts : ∀ x ∈ WS, x.before args s = true) (hl : Cond.methodLink own index y_Mdl_index ∈ WS) (hR : rm_Mdl_index.frames + 1 ≤ R.frames ∧ 8 + (3 + 11) + rm_Mdl_index.locals ≤ R.locals) : CallW R s args own R_Mdl index y_Mdl_index b_Mdl_index 3 (some .boolean) (Cond.code y_Mdl_index b_Mdl_index 3 (some .boolean) :: WS) rm_Mdl_index 0 0 1 := kwV 1 hts hl q_776 q_50 q_73 q_777 rfl rfl ⟨rfl, by decide +kernel, by decide +kernel, by decide +kernel⟩ hR
theorem kw_Mdl_transfer {R : Room} {s : State} {args : Array Value} {own : String} {index : Nat} (hts : ∀ x ∈ WS, x.before args s = true) (hl : Cond.methodLink own index y_Mdl_transfer ∈ WS) (hR : rm_Mdl_transfer.frames + 1 ≤ R.frames ∧ 8 + (4 + 11) + rm_Mdl_transfer.locals ≤ R.locals) : CallW R s args own R_Mdl index y_Mdl_transfer b_Mdl_transfer 4 (some .boolean) (Cond.code y_Mdl_transfer b_Mdl_transfer 4 (some .boolean) :: WS) rm_Mdl_transfer 0 0 1 := kwV 1 hts hl q_792 q_54 q_73 q_793 rfl rfl ⟨rfl, by decide +kernel, by decide +kernel, by decide +kernel⟩ hR
theorem kw_Mdl_pushOf {R : Room} {s : State} {args : Array Value} {own : String} {index : Nat} (hts : ∀ x ∈ WS, x.before args s = true) (hl : Cond.methodLink own index y_Mdl_pushOf ∈ WS) (hR : rm_Mdl_pushOf.frames + 1 ≤ R.frames ∧ 8 + (3 + 11) + rm_Mdl_pushOf.locals ≤ R.locals) : CallW R s args own R_Mdl index y_Mdl_pushOf b_Mdl_pushOf 3 none (Cond.code y_Mdl_pushOf b_Mdl_pushOf 3 none :: WS) rm_Mdl_pushOf 0 0 2 := kwV 2 hts hl q_800 q_56 q_73 q_801 rfl rfl ⟨rfl, by decide +kernel, by decide +kernel, by decide +kernel⟩ hR
theorem kw_Mdl_pullOf {R : Room} {s : State} {args : Array Value} {own : String} {index : Nat} (hts : ∀ x ∈ WS, x.before args s = true) (hl : Cond.methodLink own index y_Mdl_pullOf ∈ WS) (hR : rm_Mdl_pullOf.frames + 1 ≤ R.frames ∧ 8 + (2 + 11) + rm_Mdl_pullOf.locals ≤ R.locals) : CallW R s args own R_Mdl index y_Mdl_pullOf b_Mdl_pullOf 2 (some .int) (Cond.code y_Mdl_pullOf b_Mdl_pullOf 2 (some .int) :: WS) rm_Mdl_pullOf 0 0 1 := kwV 1 hts hl q_804 q_57 q_73 q_805 rfl rfl ⟨rfl, by decide +kernel, by decide +kernel, by decide +kernel⟩ hR
theorem kw_Mdl_stack {R : Room} {s : State} {args : Array Value} {own : String} {index : Nat} (hts : ∀ x ∈ WS, x.before args s = true) (hl : Cond.methodLink own index y_Mdl_stack ∈ WS) (hR : rm_Mdl_stack.frames + 1 ≤ R.frames ∧ 8 + (2 + 11) + rm_Mdl_stack.locals ≤ R.locals) : CallW R s args own R_Mdl index y_Mdl_stack b_Mdl_stack 2 (some .boolean) (Cond.code y_Mdl_stack b_Mdl_stack 2 (some .boolean) :: WS) rm_Mdl_stack 0 0 1 := kwV 1 hts hl q_796 q_55 q_73 q_797 rfl rfl ⟨rfl, by decide +kernel, by decide +kernel, by decide +kernel⟩ hR
theorem kw_Mdl_branch {R : Room} {s : State} {args : Array Value} {own : String} {index : Nat} (hts : ∀ x ∈ WS, x.before args s = true) (hl : Cond.methodLink own index y_Mdl_branch ∈ WS) (hR : rm_Mdl_branch.frames + 1 ≤ R.frames ∧ 8 + (3 + 11) + rm_Mdl_branch.locals ≤ R.locals) : CallW R s args own R_Mdl index y_Mdl_branch b_Mdl_branch 3 none (Cond.code y_Mdl_branch b_Mdl_branch 3 none :: WS) rm_Mdl_branch 0 0 1 := kwV 1 hts hl q_820 q_61 q_73 q_821 rfl rfl ⟨rfl, by decide +kernel, by decide +kernel, by decide +kernel⟩ hR
theorem kw_Mdl_call {R : Room} {s : State} {args : Array Value} {own : String} {index : Nat} (hts : ∀ x ∈ WS, x.before args s = true) (hl : Cond.methodLink own index y_Mdl_call ∈ WS) (hR : rm_Mdl_call.frames + 1 ≤ R.frames ∧ 8 + (2 + 11) + rm_Mdl_call.locals ≤ R.locals) : CallW R s args own R_Mdl index y_Mdl_call b_Mdl_call 2 none (Cond.code y_Mdl_call b_Mdl_call 2 none :: WS) rm_Mdl_call 0 0 1 := kwV 1 hts hl q_824 q_62 q_73 q_825 rfl rfl ⟨rfl, by decide +kernel, by decide +kernel, by decide +kernel⟩ hR
theorem kw_Mdl_interruptFrom {R : Room} {s : State} {args : Array Value} {own : String} {index : Nat} (hts : ∀ x ∈ WS, x.before args s = true) (hl : Cond.methodLink own index y_Mdl_interruptFrom ∈ WS) (hR : rm_Mdl_interruptFrom.frames + 1 ≤ R.frames ∧ 8 + (2 + 11) + rm_Mdl_interruptFrom.locals ≤ R.locals) : CallW R s args own R_Mdl index y_Mdl_interruptFrom b_Mdl_interruptFrom 2 none (Cond.code y_Mdl_interruptFrom b_Mdl_interruptFrom 2 none :: WS) rm_Mdl_interruptFrom 0 0 1 := kwV 1 hts hl q_661 q_23 q_73 q_662 rfl rfl ⟨rfl, by decide +kernel, by decide +kernel, by decide +kernel⟩ hR
theorem kw_Mdl_longJump {R : Room} {s : State} {args : Array Value} {own : String} {index : Nat} (hts : ∀ x ∈ WS, x.before args s = true) (hl : Cond.methodLink own index y_Mdl_longJump ∈ WS) (hR : rm_Mdl_longJump.frames + 1 ≤ R.frames ∧ 8 + (3 + 11) + rm_Mdl_longJump.locals ≤ R.locals) : CallW R s args own R_Mdl index y_Mdl_longJump b_Mdl_longJump 3 (some .boolean) (Cond.code y_Mdl_longJump b_Mdl_longJump 3 (some .boolean) :: WS) rm_Mdl_longJump 0 0 1 := kwV 1 hts hl q_828 q_63 q_73 q_829 rfl rfl ⟨rfl, by decide +kernel, by decide +kernel, by decide +kernel⟩ hR
theorem kw_Mdl_jump {R : Room} {s : State} {args : Array Value} {own : String} {index : Nat} (hts : ∀ x ∈ WS, x.before args s = true) (hl : Cond.methodLink own index y_Mdl_jump ∈ WS) (hR : rm_Mdl_jump.frames + 1 ≤ R.frames ∧ 8 + (3 + 11) + rm_Mdl_jump.locals ≤ R.locals) : CallW R s args own R_Mdl index y_Mdl_jump b_Mdl_jump 3 (some .boolean) (Cond.code y_Mdl_jump b_Mdl_jump 3 (some .boolean) :: WS) rm_Mdl_jump 0 0 1 := kwV 1 hts hl q_816 q_60 q_73 q_817 rfl rfl ⟨rfl, by decide +kernel, by decide +kernel, by decide +kernel⟩ hR
theorem kw_Mdl_moveBlock {R : Room} {s : State} {args : Array Value} {own : String} {index : Nat} (hts : ∀ x ∈ WS, x.before args s = true) (hl : Cond.methodLink own index y_Mdl_moveBlock ∈ WS) (hR : rm_Mdl_moveBlock.frames + 1 ≤ R.frames ∧ 8 + (6 + 11) + rm_Mdl_moveBlock.locals ≤ R.locals) : CallW R s args own R_Mdl index y_Mdl_moveBlock b_Mdl_moveBlock 6 none (Cond.code y_Mdl_moveBlock b_Mdl_moveBlock 6 none :: WS) rm_Mdl_moveBlock 0 0 1 := kwV 1 hts hl q_836 q_65 q_73 q_837 rfl rfl ⟨rfl, by decide +kernel, by decide +kernel, by decide +kernel⟩ hR
theorem kw_Mdl_other {R : Room} {s : State} {args : Array Value} {own : String} {index : Nat} (hts : ∀ x ∈ WS, x.before args s = true) (hl : Cond.methodLink own index y_Mdl_other ∈ WS) (hR : rm_Mdl_other.frames + 1 ≤ R.frames ∧ 8 + (2 + 11) + rm_Mdl_other.locals ≤ R.locals) : CallW R s args own R_Mdl index y_Mdl_other b_Mdl_other 2 (some .boolean) (Cond.code y_Mdl_other b_Mdl_other 2 (some .boolean) :: WS) rm_Mdl_other 0 0 1 := kwV 1 hts hl q_832 q_64 q_73 q_833 rfl rfl ⟨rfl, by decide +kernel, by decide +kernel, by decide +kernel⟩ hR
theorem kw_Mdl_step {R : Room} {s : State} {args : Array Value} {own : String} {index : Nat} (hts : ∀ x ∈ WS, x.before args s = true) (hl : Cond.methodLink own index y_Mdl_step ∈ WS) (hR : rm_Mdl_step.frames + 1 ≤ R.frames ∧ 8 + (5 + 11) + rm_Mdl_step.locals ≤ R.locals) : CallW R s args own R_Mdl index y_Mdl_step b_Mdl_step 5 none (Cond.code y_Mdl_step b_Mdl_step 5 none :: WS) rm_Mdl_step 0 0 0 := kwV 0 hts hl q_657 q_22 q_73 q_658 rfl rfl ⟨rfl, by decide +kernel, by decide +kernel, by decide +kernel⟩ hR
theorem kw_Mdl_poke {R : Room} {s : State} {args : Array Value} {own : String} {index : Nat} (hts : ∀ x ∈ WS, x.before args s = true) (hl : Cond.methodLink own index y_Mdl_poke ∈ WS) (hR : rm_Mdl_poke.frames + 1 ≤ R.frames ∧ 8 + (5 + 11) + rm_Mdl_poke.locals ≤ R.locals) : CallW R s args own R_Mdl index y_Mdl_poke b_Mdl_poke 5 (some .boolean) (Cond.code y_Mdl_poke b_Mdl_poke 5 (some .boolean) :: WS) rm_Mdl_poke 0 0 3 := kwV 3 hts hl q_619 q_620 q_73 q_621 rfl rfl ⟨rfl, by decide +kernel, by decide +kernel, by decide +kernel⟩ hR
theorem kw_Mdl_peek {R : Room} {s : State} {args : Array Value} {own : String} {index : Nat} (hts : ∀ x ∈ WS, x.before args s = true) (hl : Cond.methodLink own index y_Mdl_peek ∈ WS) (hR : rm_Mdl_peek.frames + 1 ≤ R.frames ∧ 8 + (2 + 11) + rm_Mdl_peek.locals ≤ R.locals) : CallW R s args own R_Mdl index y_Mdl_peek b_Mdl_peek 2 (some .int) (Cond.code y_Mdl_peek b_Mdl_peek 2 (some .int) :: WS) rm_Mdl_peek 0 0 1 := kwV 1 hts hl q_623 q_624 q_73 q_625 rfl rfl ⟨rfl, by decide +kernel, by decide +kernel, by decide +kernel⟩ hR
theorem kw_Mdl_start {R : Room} {s : State} {args : Array Value} {own : String} {index : Nat} (hts : ∀ x ∈ WS, x.before args s = true) (hl : Cond.methodLink own index y_Mdl_start ∈ WS) (hR : rm_Mdl_start.frames + 1 ≤ R.frames ∧ 8 + (3 + 11) + rm_Mdl_start.locals ≤ R.locals) : CallW R s args own R_Mdl index y_Mdl_start b_Mdl_start 3 (some .boolean) (Cond.code y_Mdl_start b_Mdl_start 3 (some .boolean) :: WS) rm_Mdl_start 0 0 2 := kwV 2 hts hl q_627 q_628 q_73 q_629 rfl rfl ⟨rfl, by decide +kernel, by decide +kernel, by decide +kernel⟩ hR
theorem kw_Mdl_set {R : Room} {s : State} {args : Array Value} {own : String} {index : Nat} (hts : ∀ x ∈ WS, x.before args s = true) (hl : Cond.methodLink own index y_Mdl_set ∈ WS) (hR : rm_Mdl_set.frames + 1 ≤ R.frames ∧ 8 + (3 + 11) + rm_Mdl_set.locals ≤ R.locals) : CallW R s args own R_Mdl index y_Mdl_set b_Mdl_set 3 (some .boolean) (Cond.code y_Mdl_set b_Mdl_set 3 (some .boolean) :: WS) rm_Mdl_set 0 0 2 := kwV 2 hts hl q_632 q_633 q_73 q_634 rfl rfl ⟨rfl, by decide +kernel, by decide +kernel, by decide +kernel⟩ hR
theorem kw_Mdl_register {R : Room} {s : State} {args : Array Value} {own : String} {index : Nat} (hts : ∀ x ∈ WS, x.before args s = true) (hl : Cond.methodLink own index y_Mdl_register ∈ WS) (hR : rm_Mdl_register.frames + 1 ≤ R.frames ∧ 8 + (2 + 11) + rm_Mdl_register.locals ≤ R.locals) : CallW R s args own R_Mdl index y_Mdl_register b_Mdl_register 2 (some .int) (Cond.code y_Mdl_register b_Mdl_register 2 (some .int) :: WS) rm_Mdl_register 0 0 1 := kwV 1 hts hl q_648 q_649 q_73 q_650 rfl rfl ⟨rfl, by decide +kernel, by decide +kernel, by decide +kernel⟩ hR
theorem kw_Mdl_stopped {R : Room} {s : State} {args : Array Value} {own : String} {index : Nat} (hts : ∀ x ∈ WS, x.before args s = true) (hl : Cond.methodLink own index y_Mdl_stopped ∈ WS) (hR : rm_Mdl_stopped.frames + 1 ≤ R.frames ∧ 8 + (1 + 11) + rm_Mdl_stopped.locals ≤ R.locals) : CallW R s args own R_Mdl index y_Mdl_stopped b_Mdl_stopped 1 (some .boolean) (Cond.code y_Mdl_stopped b_Mdl_stopped 1 (some .boolean) :: WS) rm_Mdl_stopped 0 0 0 := kwV 0 hts hl q_839 q_840 q_73 q_841 rfl rfl ⟨rfl, by decide +kernel, by decide +kernel, by decide +kernel⟩ hR
theorem kw_Mdl_interrupt {R : Room} {s : State} {args : Array Value} {own : String} {index : Nat} (hts : ∀ x ∈ WS, x.before args s = true) (hl : Cond.methodLink own index y_Mdl_interrupt ∈ WS) (hR : rm_Mdl_interrupt.frames + 1 ≤ R.frames ∧ 8 + (2 + 11) + rm_Mdl_interrupt.locals ≤ R.locals) : CallW R s args own R_Mdl index y_Mdl_interrupt b_Mdl_interrupt 2 (some .boolean) (Cond.code y_Mdl_interrupt b_Mdl_interrupt 2 (some .boolean) :: WS) rm_Mdl_interrupt 0 0 0 := kwV 0 hts hl q_843 q_844 q_73 q_845 rfl rfl ⟨rfl, by decide +kernel, by decide +kernel, by decide +kernel⟩ hR
theorem kw_Mdl_line {R : Room} {s : State} {args : Array Value} {own : String} {index : Nat} (hts : ∀ x ∈ WS, x.before args s = true) (hl : Cond.methodLink own index y_Mdl_line ∈ WS) (hR : rm_Mdl_line.frames + 1 ≤ R.frames ∧ 8 + (2 + 11) + rm_Mdl_line.locals ≤ R.locals) : CallW R s args own R_Mdl index y_Mdl_line b_Mdl_line 2 none (Cond.code y_Mdl_line b_Mdl_line 2 none :: WS) rm_Mdl_line 0 0 1 := kwV 1 hts hl q_847 q_848 q_73 q_849 rfl rfl ⟨rfl, by decide +kernel, by decide +kernel, by decide +kernel⟩ hR
theorem kw_Mdl_touches {R : Room} {s : State} {args : Array Value} {own : String} {index : Nat} (hts : ∀ x ∈ WS, x.before args s = true) (hl : Cond.methodLink own index y_Mdl_touches ∈ WS) (hR : rm_Mdl_touches.frames + 1 ≤ R.frames ∧ 8 + (1 + 11) + rm_Mdl_touches.locals ≤ R.locals) : CallW R s args own R_Mdl index y_Mdl_touches b_Mdl_touches 1 (some .int) (Cond.code y_Mdl_touches b_Mdl_touches 1 (some .int) :: WS) rm_Mdl_touches 0 0 0 := kwV 0 hts hl q_851 q_852 q_73 q_853 rfl rfl ⟨rfl, by decide +kernel, by decide +kernel, by decide +kernel⟩ hR
theorem kw_Mdl_touched {R : Room} {s : State} {args : Array Value} {own : String} {index : Nat} (hts : ∀ x ∈ WS, x.before args s = true) (hl : Cond.methodLink own index y_Mdl_touched ∈ WS) (hR : rm_Mdl_touched.frames + 1 ≤ R.frames ∧ 8 + (2 + 11) + rm_Mdl_touched.locals ≤ R.locals) : CallW R s args own R_Mdl index y_Mdl_touched b_Mdl_touched 2 (some .int) (Cond.code y_Mdl_touched b_Mdl_touched 2 (some .int) :: WS) rm_Mdl_touched 0 0 1 := kwV 1 hts hl q_855 q_856 q_73 q_857 rfl rfl ⟨rfl, by decide +kernel, by decide +kernel, by decide +kernel⟩ hR
theorem kw_Mdl_steps {R : Room} {s : State} {args : Array Value} {own : String} {index : Nat} (hts : ∀ x ∈ WS, x.before args s = true) (hl : Cond.methodLink own index y_Mdl_steps ∈ WS) (hR : rm_Mdl_steps.frames + 1 ≤ R.frames ∧ 8 + (1 + 11) + rm_Mdl_steps.locals ≤ R.locals) : CallW R s args own R_Mdl index y_Mdl_steps b_Mdl_steps 1 (some .int) (Cond.code y_Mdl_steps b_Mdl_steps 1 (some .int) :: WS) rm_Mdl_steps 0 0 0 := kwV 0 hts hl q_859 q_860 q_73 q_861 rfl rfl ⟨rfl, by decide +kernel, by decide +kernel, by decide +kernel⟩ hR
end
section
def bt (x : Int32) (i : Nat) : Bool := x.toBitVec.getLsbD i
theorem b_ext {x y : Int32} (h : ∀ i, i < 32 → bt x i = bt y i) : x = y := Int32.toBitVec_inj.mp (BitVec.eq_of_getLsbD_eq (fun i hi => h i hi))
theorem b_or (x y : Int32) (i : Nat) : bt (x ||| y) i = (bt x i || bt y i) := by unfold bt; rw [Int32.toBitVec_or, BitVec.getLsbD_or]
theorem b_and (x y : Int32) (i : Nat) : bt (x &&& y) i = (bt x i && bt y i) := by unfold bt; rw [Int32.toBitVec_and, BitVec.getLsbD_and]
theorem b_xor (x y : Int32) (i : Nat) : bt (x ^^^ y) i = (bt x i ^^ bt y i) := by unfold bt; rw [Int32.toBitVec_xor, BitVec.getLsbD_xor]
theorem b_big {x : Int32} {i : Nat} (h : 32 ≤ i) : bt x i = false := BitVec.getLsbD_of_ge _ _ h
theorem b_255 (i : Nat) : bt 255 i = decide (i < 8) := by
  rcases Nat.lt_or_ge i 32 with h | h
  · exact (by decide +kernel : ∀ i, i < 32 → bt 255 i = decide (i < 8)) i h
  · rw [b_big h, decide_eq_false (by omega)]
theorem b_65535 (i : Nat) : bt 65535 i = decide (i < 16) := by
  rcases Nat.lt_or_ge i 32 with h | h
  · exact (by decide +kernel : ∀ i, i < 32 → bt 65535 i = decide (i < 16)) i h
  · rw [b_big h, decide_eq_false (by omega)]
theorem b_m1 : ∀ i, i < 32 → bt (-1) i = true := by decide +kernel
theorem b_0 (i : Nat) : bt 0 i = false := BitVec.getLsbD_zero
theorem s_l : ∀ n, n < 32 → ((nI n &&& 31).toBitVec.smod 32).toNat = n := by decide +kernel
theorem s_u : ∀ n, n < 32 → (((nI n).toUInt32 &&& Int32.toUInt32 31).toBitVec % 32).toNat = n := by decide +kernel
theorem b_shl (n : Nat) (hn : n < 32) (x : Int32) {i : Nat} (hi : i < 32) : bt (x <<< (nI n &&& 31)) i = (decide (n ≤ i) && bt x (i - n)) := by
  unfold bt
  rw [Int32.toBitVec_shiftLeft]
  show (x.toBitVec <<< ((nI n &&& 31).toBitVec.smod 32).toNat).getLsbD i = _
  rw [s_l n hn, BitVec.getLsbD_shiftLeft]
  rcases Nat.lt_or_ge i n with h | h
  · simp [h, Nat.not_le.mpr h]
  · simp [hi, h, Nat.not_lt.mpr h]
theorem b_ushr (n : Nat) (hn : n < 32) (x : Int32) (i : Nat) : bt ((x.toUInt32 >>> ((nI n).toUInt32 &&& Int32.toUInt32 31)).toInt32) i = bt x (n + i) := by
  show (x.toUInt32 >>> ((nI n).toUInt32 &&& Int32.toUInt32 31)).toBitVec.getLsbD i = x.toUInt32.toBitVec.getLsbD (n + i)
  rw [UInt32.toBitVec_shiftRight]
  show (x.toUInt32.toBitVec >>> (((nI n).toUInt32 &&& Int32.toUInt32 31).toBitVec % 32).toNat).getLsbD i = _
  rw [s_u n hn, BitVec.getLsbD_ushiftRight]
theorem b_sshr (n : Nat) (hn : n < 32) (x : Int32) {i : Nat} (hi : i < 32) : bt (x >>> (nI n &&& 31)) i = if n + i < 32 then bt x (n + i) else bt x 31 := by
  unfold bt
  rw [Int32.toBitVec_shiftRight]
  show (x.toBitVec.sshiftRight ((nI n &&& 31).toBitVec.smod 32).toNat).getLsbD i = _
  rw [s_l n hn, BitVec.getLsbD_sshiftRight, BitVec.msb_eq_getLsbD_last]
  simp [hi]
theorem b_shl8 (x : Int32) {i : Nat} (hi : i < 32) : bt (x <<< ((8 : Int32) &&& 31)) i = (decide (8 ≤ i) && bt x (i - 8)) := b_shl 8 (by omega) x hi
theorem b_shl16 (x : Int32) {i : Nat} (hi : i < 32) : bt (x <<< ((16 : Int32) &&& 31)) i = (decide (16 ≤ i) && bt x (i - 16)) := b_shl 16 (by omega) x hi
theorem b_shl24 (x : Int32) {i : Nat} (hi : i < 32) : bt (x <<< ((24 : Int32) &&& 31)) i = (decide (24 ≤ i) && bt x (i - 24)) := b_shl 24 (by omega) x hi
theorem b_sshr8 (x : Int32) {i : Nat} (hi : i < 32) : bt (x >>> ((8 : Int32) &&& 31)) i = if 8 + i < 32 then bt x (8 + i) else bt x 31 := b_sshr 8 (by omega) x hi
theorem nx_and (a b : Nat) : nI a &&& nI b = nI (a &&& b) := by
  apply Int32.toBitVec_inj.1
  show BitVec.ofNat 32 a &&& BitVec.ofNat 32 b = BitVec.ofNat 32 (a &&& b)
  apply BitVec.eq_of_getLsbD_eq
  intro i hi
  simp [hi]
theorem nx_mod (k : Nat) : nI k &&& 65535 = nI (k % 65536) := by
  show nI k &&& nI 65535 = _
  rw [nx_and, show (65535 : Nat) = 2 ^ 16 - 1 from rfl, Nat.and_two_pow_sub_one_eq_mod]
theorem nx_m16 {k : Nat} (h : k < 65536) : nI k &&& 65535 = nI k := by rw [nx_mod, Nat.mod_eq_of_lt h]
theorem nx_mask (x : Int32) : ∃ k, k < 65536 ∧ x &&& 65535 = nI k := by
  have e : x = nI x.toBitVec.toNat := by
    apply Int32.toBitVec_inj.1
    show x.toBitVec = BitVec.ofNat 32 x.toBitVec.toNat
    simp
  refine ⟨x.toBitVec.toNat % 65536, Nat.mod_lt _ (by omega), ?_⟩
  rw [← nx_mod, ← e]
theorem bp_b (x : Int32) : x.toInt8.toInt32 &&& 255 = x &&& 255 := by
  apply Int32.toBitVec_inj.mp
  rw [Int32.toBitVec_and, Int32.toBitVec_and, Int8.toBitVec_toInt32, Int32.toBitVec_toInt8]
  apply BitVec.eq_of_getLsbD_eq
  intro i hi
  rw [BitVec.getLsbD_and, BitVec.getLsbD_and]
  have hm : ∀ i < 32, 8 ≤ i → (255 : Int32).toBitVec.getLsbD i = false := by decide
  rcases Nat.lt_or_ge i 8 with z | z
  · rw [BitVec.getLsbD_signExtend, BitVec.getLsbD_signExtend, if_pos z, if_pos hi]
    simp only [z, hi, decide_true, Bool.true_and]
  · rw [hm i hi z]; simp
theorem b_sshr7 (x : Int32) {i : Nat} (hi : i < 32) : bt (x >>> ((7 : Int32) &&& 31)) i = if 7 + i < 32 then bt x (7 + i) else bt x 31 := b_sshr 7 (by omega) x hi
theorem b_sshr16 (x : Int32) {i : Nat} (hi : i < 32) : bt (x >>> ((16 : Int32) &&& 31)) i = if 16 + i < 32 then bt x (16 + i) else bt x 31 := b_sshr 16 (by omega) x hi
theorem b_sshr1 (x : Int32) {i : Nat} (hi : i < 32) : bt (x >>> ((1 : Int32) &&& 31)) i = if 1 + i < 32 then bt x (1 + i) else bt x 31 := b_sshr 1 (by omega) x hi
theorem b_sshr6 (x : Int32) {i : Nat} (hi : i < 32) : bt (x >>> ((6 : Int32) &&& 31)) i = if 6 + i < 32 then bt x (6 + i) else bt x 31 := b_sshr 6 (by omega) x hi
theorem b_sshr5 (x : Int32) {i : Nat} (hi : i < 32) : bt (x >>> ((5 : Int32) &&& 31)) i = if 5 + i < 32 then bt x (5 + i) else bt x 31 := b_sshr 5 (by omega) x hi
theorem b_shl1 (x : Int32) {i : Nat} (hi : i < 32) : bt (x <<< ((1 : Int32) &&& 31)) i = (decide (1 ≤ i) && bt x (i - 1)) := b_shl 1 (by omega) x hi
theorem b_512 : ∀ i, i < 32 → bt 512 i = decide (i = 9) := by decide +kernel
theorem b_511 : ∀ i, i < 32 → bt 511 i = decide (i < 9) := by decide +kernel
theorem b_1 : ∀ i, i < 32 → bt 1 i = decide (i = 0) := by decide +kernel
theorem b_24 : ∀ i, i < 32 → bt 16777215 i = decide (i < 24) := by decide +kernel
theorem b_mk : ∀ i, i < 32 → bt 16777216 i = decide (i = 24) := by decide +kernel
theorem b_3 : ∀ i, i < 32 → bt 3 i = decide (i < 2) := by decide +kernel
abbrev r8 (x : Int32) : Prop := x &&& 255 = x
abbrev r16 (x : Int32) : Prop := x &&& 65535 = x
abbrev r24 (x : Int32) : Prop := x &&& 16777215 = x
theorem r8_bt {x : Int32} (h : r8 x) {i : Nat} (hi : 8 ≤ i) : bt x i = false := by
  rw [← h, b_and, b_255, decide_eq_false (by omega), Bool.and_false]
theorem r16_bt {x : Int32} (h : r16 x) {i : Nat} (hi : 16 ≤ i) : bt x i = false := by
  rw [← h, b_and, b_65535, decide_eq_false (by omega), Bool.and_false]
theorem r24_bt {x : Int32} (h : r24 x) {i : Nat} (hi : 24 ≤ i) : bt x i = false := by
  rcases Nat.lt_or_ge i 32 with h2 | h2
  · rw [← h, b_and, b_24 i h2, decide_eq_false (by omega), Bool.and_false]
  · exact b_big h2
theorem bt_r8 {x : Int32} (h : ∀ i, i < 32 → 8 ≤ i → bt x i = false) : r8 x := by
  apply b_ext
  intro i hi
  rw [b_and, b_255]
  by_cases z : i < 8
  · simp [z]
  · rw [h i hi (by omega)]; rfl
theorem bt_r16 {x : Int32} (h : ∀ i, i < 32 → 16 ≤ i → bt x i = false) : r16 x := by
  apply b_ext
  intro i hi
  rw [b_and, b_65535]
  by_cases z : i < 16
  · simp [z]
  · rw [h i hi (by omega)]; rfl
theorem bt_r24 {x : Int32} (h : ∀ i, i < 32 → 24 ≤ i → bt x i = false) : r24 x := by
  apply b_ext
  intro i hi
  rw [b_and, b_24 i hi]
  by_cases z : i < 24
  · simp [z]
  · rw [h i hi (by omega)]; rfl
theorem r8_16 {x : Int32} (h : r8 x) : r16 x := bt_r16 fun _ _ hi => r8_bt h (by omega)
theorem r16_24 {x : Int32} (h : r16 x) : r24 x := bt_r24 fun _ _ hi => r16_bt h (by omega)
theorem and_or_r (x y z : Int32) : (x ||| y) &&& z = (x &&& z) ||| (y &&& z) := by
  apply b_ext
  intro i _
  rw [b_and, b_or, b_or, b_and, b_and, Bool.and_or_distrib_right]
theorem m8 (x : Int32) : r8 (x &&& 255) := by
  show (x &&& 255) &&& 255 = x &&& 255
  rw [Int32.and_assoc]; rfl
theorem m16 (x : Int32) : r16 (x &&& 65535) := by
  show (x &&& 65535) &&& 65535 = x &&& 65535
  rw [Int32.and_assoc]; rfl
theorem m24 (x : Int32) : r24 (x &&& 16777215) := by
  show (x &&& 16777215) &&& 16777215 = x &&& 16777215
  rw [Int32.and_assoc]; rfl
theorem x32 (x : Int32) : x = nI x.toBitVec.toNat := by
  apply Int32.toBitVec_inj.1
  show x.toBitVec = BitVec.ofNat 32 x.toBitVec.toNat
  simp
theorem nx_pm (j k : Nat) : nI k &&& nI (2 ^ j - 1) = nI (k % 2 ^ j) := by rw [nx_and, Nat.and_two_pow_sub_one_eq_mod]
theorem m_lt (j : Nat) (x : Int32) : ∃ k, k < 2 ^ j ∧ x &&& nI (2 ^ j - 1) = nI k :=
  ⟨x.toBitVec.toNat % 2 ^ j, Nat.mod_lt _ (Nat.two_pow_pos j), by rw [← nx_pm, ← x32 x]⟩
theorem r8_nI {x : Int32} (h : r8 x) : ∃ k, k < 256 ∧ x = nI k := by
  obtain ⟨k, hk, e⟩ := m_lt 8 x
  exact ⟨k, hk, h.symm.trans e⟩
theorem r16_nI {x : Int32} (h : r16 x) : ∃ k, k < 65536 ∧ x = nI k := by
  obtain ⟨k, hk, e⟩ := m_lt 16 x
  exact ⟨k, hk, h.symm.trans e⟩
theorem vp_mask {x : Int32} (j : Nat) (hj : j < 31) (h : x &&& nI (2 ^ j - 1) = x) : vp_in x (2 ^ j) := by
  obtain ⟨k, hk, e⟩ := m_lt j x
  rw [← h, e]
  exact vp_in_nI hk (Nat.pow_lt_pow_right (by decide) hj)
theorem in_lit {i : Int32} {n : Nat} (h : decide (¬ (i < 0 ∨ n ≤ i.toNatClampNeg)) = true) : vp_in i n := by
  unfold vp_in
  exact of_decide_eq_true h
theorem in_and7 (x : Int32) : vp_in (x &&& 7) 8 := vp_mask 3 (by decide) (by
  show (x &&& 7) &&& 7 = x &&& 7
  rw [Int32.and_assoc]; rfl)
theorem sub512 (x y : Int32) : ((x &&& 512) ||| (y &&& 511)) &&& 1023 = (x &&& 512) ||| (y &&& 511) := by
  rw [and_or_r, Int32.and_assoc, Int32.and_assoc]; rfl
theorem add_or {x y : Int32} (h : x &&& y = 0) : x + y = x ||| y := by
  apply Int32.toBitVec_inj.mp
  rw [Int32.toBitVec_add, Int32.toBitVec_or]
  apply BitVec.add_eq_or_of_and_eq_zero
  rw [← Int32.toBitVec_and, h]; rfl
theorem t_512 (x : Int32) : (x >>> ((7 : Int32) &&& 31)) &&& 512 = if bt x 16 = true then 512 else 0 := by
  apply b_ext
  intro i hi
  rw [b_and, b_sshr7 x hi, b_512 i hi]
  by_cases h : i = 9
  · subst h
    cases hb : bt x 16
    · simp [hb, b_0]
    · simp [hb, b_512]
  · rw [decide_eq_false h, Bool.and_false]
    split
    · rw [b_512 i hi, decide_eq_false h]
    · rw [b_0]
theorem t_1 (x : Int32) : (x >>> ((16 : Int32) &&& 31)) &&& 1 = if bt x 16 = true then 1 else 0 := by
  apply b_ext
  intro i hi
  rw [b_and, b_sshr16 x hi, b_1 i hi]
  by_cases h : i = 0
  · subst h
    cases hb : bt x 16
    · simp [hb, b_0]
    · simp [hb, b_1]
  · rw [decide_eq_false h, Bool.and_false]
    split
    · rw [b_1 i hi, decide_eq_false h]
    · rw [b_0]
theorem t_b1 (x : Int32) : x &&& 1 = if bt x 0 = true then 1 else 0 := by
  apply b_ext
  intro i hi
  rw [b_and, b_1 i hi]
  by_cases h : i = 0
  · subst h
    cases hb : bt x 0
    · simp [b_0]
    · simp [b_1]
  · rw [decide_eq_false h, Bool.and_false]
    split
    · rw [b_1 i hi, decide_eq_false h]
    · rw [b_0]
theorem d_511 (x : Int32) : (512 : Int32) &&& (x &&& 511) = 0 := by
  rw [Int32.and_comm, Int32.and_assoc]
  show x &&& 0 = 0
  exact Int32.and_zero
theorem cell_c (x : Int32) : (((x >>> ((7 : Int32) &&& 31)) &&& 512) ||| (x &&& 511)) = (512 * ((x >>> ((16 : Int32) &&& 31)) &&& 1)) + (x &&& 511) := by
  rw [t_512, t_1]
  cases bt x 16
  · show (0 : Int32) ||| (x &&& 511) = 512 * 0 + (x &&& 511)
    rw [Int32.zero_or, Int32.mul_zero, Int32.zero_add]
  · show (512 : Int32) ||| (x &&& 511) = 512 * 1 + (x &&& 511)
    rw [Int32.mul_one, add_or (d_511 x)]
theorem mk_16 (x : Int32) : bt (16777216 ||| (x &&& 65535)) 16 = false := by
  rw [b_or, b_and, b_65535, b_mk 16 (by decide)]
  simp
theorem mk_511 (x : Int32) : (16777216 ||| (x &&& 65535)) &&& 511 = x &&& 511 := by
  rw [and_or_r, Int32.and_assoc]
  show (0 : Int32) ||| (x &&& 511) = _
  exact Int32.zero_or
theorem mk_24 (x : Int32) : ¬ (16777216 ||| (x &&& 65535)) &&& 16777216 = 0 := by
  intro h
  have h2 := congrArg (fun z => bt z 24) h
  simp only [b_and, b_or, b_65535, b_mk 24 (by decide), b_0] at h2
  simp at h2
theorem w16 {x y : Int32} (hx : r8 x) (hy : r8 y) : r16 (x ||| (y <<< ((8 : Int32) &&& 31))) := bt_r16 fun i hi h => by
  rw [b_or, b_shl8 y hi, r8_bt hx (by omega), r8_bt hy (by omega)]
  simp
theorem w24 {x y : Int32} (hx : r16 x) (hy : r8 y) : r24 (x ||| (y <<< ((16 : Int32) &&& 31))) := bt_r24 fun i hi h => by
  rw [b_or, b_shl16 y hi, r16_bt hx (by omega), r8_bt hy (by omega)]
  simp
theorem w24_add {x y : Int32} (hx : r16 x) : (y <<< ((16 : Int32) &&& 31)) + x = x ||| (y <<< ((16 : Int32) &&& 31)) := by
  rw [add_or, Int32.or_comm]
  apply b_ext
  intro i hi
  rw [b_and, b_shl16 y hi, b_0]
  by_cases z : i < 16
  · simp [Nat.not_le.mpr z]
  · rw [r16_bt hx (by omega), Bool.and_false]
theorem sh16_8 {x : Int32} (h : r24 x) : r8 (x >>> ((16 : Int32) &&& 31)) := bt_r8 fun i hi h8 => by
  rw [b_sshr16 x hi]
  split
  · exact r24_bt h (by omega)
  · exact r24_bt h (by omega)
theorem bt_pb {x y : Int32} (hy : r16 y) : bt ((x <<< ((16 : Int32) &&& 31)) ||| y) 16 = bt x 0 := by
  rw [b_or, b_shl16 x (by decide), r16_bt hy (by omega)]
  simp
theorem pb_511 (x y : Int32) : ((x <<< ((16 : Int32) &&& 31)) ||| y) &&& 511 = y &&& 511 := by
  apply b_ext
  intro i hi
  rw [b_and, b_or, b_and, b_shl16 x hi, b_511 i hi]
  by_cases z : i < 9
  · simp [z, show ¬ 16 ≤ i by omega]
  · simp [z]
def f_Wc_poke (S : Sc) (x1 x2 x3 : Int32) : Int32 × Sc := if x3 < (1 : Int32) then (((0 : Int32), S)) else (if (4 : Int32) < x3 then (((0 : Int32), S)) else (if x1 < (0 : Int32) then (((0 : Int32), S)) else (if x1 ≤ ((1024 : Int32) - x3) then (if x3 ≤ (0 : Int32) then (((1 : Int32), S)) else (if x3 ≤ (1 : Int32) then (((1 : Int32), (pm S (((x1 + (0 : Int32))).toNatClampNeg) (vp_nar .byte (((x2 >>> (((8 : Int32) * (0 : Int32)) &&& 31))).toInt8.toInt32))))) else (if x3 ≤ (2 : Int32) then (((1 : Int32), (pm (pm S (((x1 + (0 : Int32))).toNatClampNeg) (vp_nar .byte (((x2 >>> (((8 : Int32) * (0 : Int32)) &&& 31))).toInt8.toInt32))) (((x1 + (1 : Int32))).toNatClampNeg) (vp_nar .byte (((x2 >>> (((8 : Int32) * (1 : Int32)) &&& 31))).toInt8.toInt32))))) else (if x3 ≤ (3 : Int32) then (((1 : Int32), (pm (pm (pm S (((x1 + (0 : Int32))).toNatClampNeg) (vp_nar .byte (((x2 >>> (((8 : Int32) * (0 : Int32)) &&& 31))).toInt8.toInt32))) (((x1 + (1 : Int32))).toNatClampNeg) (vp_nar .byte (((x2 >>> (((8 : Int32) * (1 : Int32)) &&& 31))).toInt8.toInt32))) (((x1 + (2 : Int32))).toNatClampNeg) (vp_nar .byte (((x2 >>> (((8 : Int32) * (2 : Int32)) &&& 31))).toInt8.toInt32))))) else (((1 : Int32), (pm (pm (pm (pm S (((x1 + (0 : Int32))).toNatClampNeg) (vp_nar .byte (((x2 >>> (((8 : Int32) * (0 : Int32)) &&& 31))).toInt8.toInt32))) (((x1 + (1 : Int32))).toNatClampNeg) (vp_nar .byte (((x2 >>> (((8 : Int32) * (1 : Int32)) &&& 31))).toInt8.toInt32))) (((x1 + (2 : Int32))).toNatClampNeg) (vp_nar .byte (((x2 >>> (((8 : Int32) * (2 : Int32)) &&& 31))).toInt8.toInt32))) (((x1 + (3 : Int32))).toNatClampNeg) (vp_nar .byte (((x2 >>> (((8 : Int32) * (3 : Int32)) &&& 31))).toInt8.toInt32))))))))) else (((0 : Int32), S)))))
def f_Wc_peek (S : Sc) (x1 : Int32) : Int32 := if x1 < (0 : Int32) then ((-1 : Int32)) else (if x1 < (1024 : Int32) then (((S.2.1 (x1).toNatClampNeg) &&& (255 : Int32))) else ((-1 : Int32)))
def f_Wc_start (S : Sc) (x1 x2 : Int32) : Int32 × Sc := if x1 < (0 : Int32) then (((0 : Int32), S)) else (if (255 : Int32) < x1 then (((0 : Int32), S)) else (if x2 < (0 : Int32) then (((0 : Int32), S)) else (if x2 ≤ (65535 : Int32) then (((1 : Int32), (pr (pr (pr S 6 (x1)) 7 (x2)) 12 ((0 : Int32))))) else (((0 : Int32), S)))))
def f_Reg_wideIndex (S : Sc) : Int32 := if ((S.1 8) &&& (16 : Int32)) = (0 : Int32) then ((1 : Int32)) else ((0 : Int32))
def f_Reg_maskOf (x0 : Int32) : Int32 := if x0 = (0 : Int32) then ((255 : Int32)) else ((65535 : Int32))
def f_Reg_indexMask (S : Sc) : Int32 := (f_Reg_maskOf (f_Reg_wideIndex S))
def f_Reg_replaceP (S : Sc) (x1 : Int32) : Sc := (pr (pr (pr S 8 (x1)) 1 (((S.1 1) &&& (f_Reg_indexMask (pr S 8 (x1)))))) 2 (((S.1 2) &&& (f_Reg_indexMask (pr (pr S 8 (x1)) 1 (((S.1 1) &&& (f_Reg_indexMask (pr S 8 (x1))))))))))
def f_Wc_set (S : Sc) (x1 x2 : Int32) : Int32 × Sc := if x1 = (0 : Int32) then (((1 : Int32), (pr S 0 ((x2 &&& (65535 : Int32)))))) else (if x1 = (1 : Int32) then (((1 : Int32), (pr S 1 ((x2 &&& (f_Reg_indexMask S)))))) else (if x1 = (2 : Int32) then (((1 : Int32), (pr S 2 ((x2 &&& (f_Reg_indexMask S)))))) else (if x1 = (3 : Int32) then (((1 : Int32), (pr S 3 ((x2 &&& (65535 : Int32)))))) else (if x1 = (4 : Int32) then (((1 : Int32), (pr S 4 ((x2 &&& (65535 : Int32)))))) else (if x1 = (5 : Int32) then (((1 : Int32), (pr S 5 ((x2 &&& (255 : Int32)))))) else (if x1 = (6 : Int32) then (bs (f_Reg_replaceP S (x2 &&& (255 : Int32))) (fun S8 => ((1 : Int32), S8))) else (((0 : Int32), S))))))))
def f_Wc_register (S : Sc) (x1 : Int32) : Int32 := if x1 = (0 : Int32) then (S.1 0) else (if x1 = (1 : Int32) then (S.1 1) else (if x1 = (2 : Int32) then (S.1 2) else (if x1 = (3 : Int32) then (S.1 3) else (if x1 = (4 : Int32) then (S.1 4) else (if x1 = (5 : Int32) then (S.1 5) else (if x1 = (6 : Int32) then (S.1 8) else (if x1 = (7 : Int32) then (S.1 6) else (if x1 = (8 : Int32) then (S.1 7) else ((-1 : Int32))))))))))
def f_Bus_bank0Place (x0 : Int32) : Int32 := ((16777216 : Int32) ||| (x0 &&& (65535 : Int32)))
def f_Bus_cellOf (x0 : Int32) : Int32 := (((x0 >>> ((7 : Int32) &&& 31)) &&& (512 : Int32)) ||| (x0 &&& (511 : Int32)))
def f_Bus_writeByte (S : Sc) (x1 x2 : Int32) : Sc := (pm (pr (pl S ((((S.1 9) &&& (7 : Int32))).toNatClampNeg) (((f_Bus_cellOf x1) + (1024 : Int32)))) 9 (((S.1 9) + (1 : Int32)))) (((f_Bus_cellOf x1)).toNatClampNeg) (vp_nar .byte ((x2).toInt8.toInt32)))
def f_Stk_pushByte (S : Sc) (x1 : Int32) : Sc := bs (f_Bus_writeByte S (f_Bus_bank0Place (S.1 3)) x1) (fun S1 => (pr S1 3 ((((S1.1 3) - (1 : Int32)) &&& (65535 : Int32)))))
def f_Stk_pushWord (S : Sc) (x1 : Int32) : Sc := bs (f_Stk_pushByte S (x1 >>> ((8 : Int32) &&& 31))) (fun S1 => bs (f_Stk_pushByte S1 x1) (fun S3 => S3))
def f_Reg_putFlag (S : Sc) (x1 x2 : Int32) : Sc := if x2 = (0 : Int32) then ((pr S 8 (((S.1 8) &&& (x1 ^^^ (-1 : Int32)))))) else ((pr S 8 (((S.1 8) ||| x1))))
def f_Bus_readByte (S : Sc) (x1 : Int32) : Int32 × Sc := (((S.2.1 ((f_Bus_cellOf x1)).toNatClampNeg) &&& (255 : Int32)), (pr (pl S ((((S.1 9) &&& (7 : Int32))).toNatClampNeg) ((f_Bus_cellOf x1))) 9 (((S.1 9) + (1 : Int32)))))
def f_Bus_longPlace (x0 : Int32) : Int32 := (x0 &&& (16777215 : Int32))
def f_Bus_placeAfter (x0 : Int32) : Int32 := if (x0 &&& (16777216 : Int32)) = (0 : Int32) then ((f_Bus_longPlace (x0 + (1 : Int32)))) else ((f_Bus_bank0Place (x0 + (1 : Int32))))
def f_Bus_readWord (S : Sc) (x1 : Int32) : Int32 × Sc := bn (f_Bus_readByte S x1) (fun r1 S2 => bn (f_Bus_readByte S2 (f_Bus_placeAfter x1)) (fun r4 S5 => ((r1 ||| (r4 <<< ((8 : Int32) &&& 31))), S5)))
def f_Prc_enterInterrupt (S : Sc) (x1 : Int32) : Sc := bs (f_Stk_pushByte S (S.1 6)) (fun S1 => bs (f_Stk_pushWord S1 (S1.1 7)) (fun S3 => bs (f_Stk_pushByte S3 (S3.1 8)) (fun S5 => bs (f_Reg_putFlag S5 (4 : Int32) (1 : Int32)) (fun S7 => bs (f_Reg_putFlag S7 (8 : Int32) (0 : Int32)) (fun S9 => bn (f_Bus_readWord (pr S9 6 ((0 : Int32))) (f_Bus_bank0Place x1)) (fun r11 S12 => (pr S12 7 (r11))))))))
def f_Reg_has (S : Sc) (x1 : Int32) : Int32 := if ((S.1 8) &&& x1) = (0 : Int32) then ((0 : Int32)) else ((1 : Int32))
def f_Bus_programByte (S : Sc) (x1 x2 : Int32) : Int32 := ((S.2.1 ((((512 : Int32) * (x1 &&& (1 : Int32))) + (x2 &&& (511 : Int32)))).toNatClampNeg) &&& (255 : Int32))
def f_Opd_nextByte (S : Sc) : Int32 × Sc := ((f_Bus_programByte S (S.1 6) (S.1 7)), (pr S 7 ((((S.1 7) + (1 : Int32)) &&& (65535 : Int32)))))
def f_Opd_isMode (x0 : Int32) : Int32 := if x0 = (18 : Int32) then ((1 : Int32)) else (if (x0 &&& (1 : Int32)) = (1 : Int32) then (if (x0 &&& (15 : Int32)) = (11 : Int32) then ((0 : Int32)) else ((1 : Int32))) else ((0 : Int32)))
def f_Reg_wideA (S : Sc) : Int32 := if ((S.1 8) &&& (32 : Int32)) = (0 : Int32) then ((1 : Int32)) else ((0 : Int32))
def f_Opd_direct (S : Sc) (x1 : Int32) : Int32 × Sc := bn (f_Opd_nextByte S) (fun r1 S2 => ((f_Bus_bank0Place (((S.1 4) + r1) + x1)), S2))
def f_Opd_nextWord (S : Sc) : Int32 × Sc := bn (f_Opd_nextByte S) (fun r1 S2 => bn (f_Opd_nextByte S2) (fun r4 S5 => ((r1 ||| (r4 <<< ((8 : Int32) &&& 31))), S5)))
def f_Opd_inDataBank (S : Sc) (x1 x2 : Int32) : Int32 := (f_Bus_longPlace ((((S.1 5) <<< ((16 : Int32) &&& 31)) + x1) + x2))
def f_Opd_nextLong (S : Sc) : Int32 × Sc := bn (f_Opd_nextByte S) (fun r1 S2 => bn (f_Opd_nextByte S2) (fun r4 S5 => bn (f_Opd_nextByte S5) (fun r7 S8 => (((r1 ||| (r4 <<< ((8 : Int32) &&& 31))) ||| (r7 <<< ((16 : Int32) &&& 31))), S8))))
def f_Bus_readLong (S : Sc) (x1 : Int32) : Int32 × Sc := bn (f_Bus_readByte S x1) (fun r1 S2 => bn (f_Bus_readByte S2 (f_Bus_placeAfter x1)) (fun r4 S5 => bn (f_Bus_readByte S5 (f_Bus_placeAfter (f_Bus_placeAfter x1))) (fun r7 S8 => (((r1 ||| (r4 <<< ((8 : Int32) &&& 31))) ||| (r7 <<< ((16 : Int32) &&& 31))), S8))))
def f_Opd_onStack (S : Sc) : Int32 × Sc := bn (f_Opd_nextByte S) (fun r1 S2 => ((f_Bus_bank0Place ((S.1 3) + r1)), S2))
def f_Opd_place (S : Sc) (x1 : Int32) : Int32 × Sc := if x1 = (1 : Int32) then (bn (f_Opd_direct S (S.1 1)) (fun r2 S3 => bn (f_Bus_readWord S3 r2) (fun r5 S6 => ((f_Opd_inDataBank S6 r5 (0 : Int32)), S6)))) else (if x1 = (2 : Int32) then (((0 : Int32), S)) else (if x1 = (3 : Int32) then (bn (f_Opd_onStack S) (fun r10 S11 => (r10, S11))) else (if x1 = (4 : Int32) then (((0 : Int32), S)) else (if x1 = (5 : Int32) then (bn (f_Opd_direct S (0 : Int32)) (fun r15 S16 => (r15, S16))) else (if x1 = (6 : Int32) then (((0 : Int32), S)) else (if x1 = (7 : Int32) then (bn (f_Opd_direct S (0 : Int32)) (fun r20 S21 => bn (f_Bus_readLong S21 r20) (fun r23 S24 => (r23, S24)))) else (if x1 = (8 : Int32) then (((0 : Int32), S)) else (if x1 = (9 : Int32) then (((0 : Int32), S)) else (if x1 = (10 : Int32) then (((0 : Int32), S)) else (if x1 = (11 : Int32) then (((0 : Int32), S)) else (if x1 = (12 : Int32) then (((0 : Int32), S)) else (if x1 = (13 : Int32) then (bn (f_Opd_nextWord S) (fun r32 S33 => ((f_Opd_inDataBank S33 r32 (0 : Int32)), S33))) else (if x1 = (14 : Int32) then (((0 : Int32), S)) else (if x1 = (15 : Int32) then (bn (f_Opd_nextLong S) (fun r37 S38 => (r37, S38))) else (if x1 = (16 : Int32) then (((0 : Int32), S)) else (if x1 = (17 : Int32) then (bn (f_Opd_direct S (0 : Int32)) (fun r42 S43 => bn (f_Bus_readWord S43 r42) (fun r45 S46 => ((f_Opd_inDataBank S46 r45 (S46.1 2)), S46)))) else (if x1 = (18 : Int32) then (bn (f_Opd_direct S (0 : Int32)) (fun r49 S50 => bn (f_Bus_readWord S50 r49) (fun r52 S53 => ((f_Opd_inDataBank S53 r52 (0 : Int32)), S53)))) else (if x1 = (19 : Int32) then (bn (f_Opd_onStack S) (fun r56 S57 => bn (f_Bus_readWord S57 r56) (fun r59 S60 => ((f_Opd_inDataBank S60 r59 (S60.1 2)), S60)))) else (if x1 = (20 : Int32) then (((0 : Int32), S)) else (if x1 = (21 : Int32) then (bn (f_Opd_direct S (S.1 1)) (fun r64 S65 => (r64, S65))) else (if x1 = (22 : Int32) then (((0 : Int32), S)) else (if x1 = (23 : Int32) then (bn (f_Opd_direct S (0 : Int32)) (fun r69 S70 => bn (f_Bus_readLong S70 r69) (fun r72 S73 => ((f_Bus_longPlace (r72 + (S73.1 2))), S73)))) else (if x1 = (24 : Int32) then (((0 : Int32), S)) else (if x1 = (25 : Int32) then (bn (f_Opd_nextWord S) (fun r77 S78 => ((f_Opd_inDataBank S78 r77 (S78.1 2)), S78))) else (if x1 = (26 : Int32) then (((0 : Int32), S)) else (if x1 = (27 : Int32) then (((0 : Int32), S)) else (if x1 = (28 : Int32) then (((0 : Int32), S)) else (if x1 = (29 : Int32) then (bn (f_Opd_nextWord S) (fun r84 S85 => ((f_Opd_inDataBank S85 r84 (S85.1 1)), S85))) else (if x1 = (30 : Int32) then (((0 : Int32), S)) else (if x1 = (31 : Int32) then (bn (f_Opd_nextLong S) (fun r89 S90 => ((f_Bus_longPlace (r89 + (S90.1 1))), S90))) else (((0 : Int32), S))))))))))))))))))))))))))))))))
def f_Bus_writeValue (S : Sc) (x1 x2 x3 : Int32) : Sc := bs (f_Bus_writeByte S x1 x2) (fun S1 => if x3 = (0 : Int32) then (S1) else (bs (f_Bus_writeByte S1 (f_Bus_placeAfter x1) (x2 >>> ((8 : Int32) &&& 31))) (fun S4 => S4)))
def f_Opd_nextValue (S : Sc) (x1 : Int32) : Int32 × Sc := if x1 = (0 : Int32) then (bn (f_Opd_nextByte S) (fun r2 S3 => (r2, S3))) else (bn (f_Opd_nextWord S) (fun r5 S6 => (r5, S6)))
def f_Bus_readValue (S : Sc) (x1 x2 : Int32) : Int32 × Sc := if x2 = (0 : Int32) then (bn (f_Bus_readByte S x1) (fun r2 S3 => (r2, S3))) else (bn (f_Bus_readWord S x1) (fun r5 S6 => (r5, S6)))
def f_Reg_a (S : Sc) : Int32 := ((S.1 0) &&& (f_Reg_maskOf (f_Reg_wideA S)))
def f_Reg_signOf (x0 : Int32) : Int32 := if x0 = (0 : Int32) then ((128 : Int32)) else ((32768 : Int32))
def f_Reg_showResult (S : Sc) (x1 x2 : Int32) : Sc := if (x1 &&& (f_Reg_signOf x2)) = (0 : Int32) then (if x1 = (0 : Int32) then ((pr S 8 (((((S.1 8) &&& (-131 : Int32)) ||| (0 : Int32)) ||| (2 : Int32))))) else ((pr S 8 (((((S.1 8) &&& (-131 : Int32)) ||| (0 : Int32)) ||| (0 : Int32)))))) else (if x1 = (0 : Int32) then ((pr S 8 (((((S.1 8) &&& (-131 : Int32)) ||| (128 : Int32)) ||| (2 : Int32))))) else ((pr S 8 (((((S.1 8) &&& (-131 : Int32)) ||| (128 : Int32)) ||| (0 : Int32))))))
def f_Reg_loadA (S : Sc) (x1 : Int32) : Sc := bs (f_Reg_showResult (pr S 0 ((((S.1 0) &&& ((f_Reg_maskOf (f_Reg_wideA S)) ^^^ (-1 : Int32))) ||| (x1 &&& (f_Reg_maskOf (f_Reg_wideA S)))))) (x1 &&& (f_Reg_maskOf (f_Reg_wideA S))) (f_Reg_wideA (pr S 0 ((((S.1 0) &&& ((f_Reg_maskOf (f_Reg_wideA S)) ^^^ (-1 : Int32))) ||| (x1 &&& (f_Reg_maskOf (f_Reg_wideA S)))))))) (fun S1 => S1)
def f_Prc_addToA (S : Sc) (x1 : Int32) : Sc := if (((((f_Reg_a S) ^^^ x1) ^^^ (-1 : Int32)) &&& ((f_Reg_a S) ^^^ (((f_Reg_a S) + x1) + ((S.1 8) &&& (1 : Int32))))) &&& (f_Reg_signOf (f_Reg_wideA S))) = (0 : Int32) then (bs (f_Reg_putFlag S (64 : Int32) (0 : Int32)) (fun S2 => if (((f_Reg_a S) + x1) + ((S.1 8) &&& (1 : Int32))) ≤ (f_Reg_maskOf (f_Reg_wideA S)) then (bs (f_Reg_putFlag S2 (1 : Int32) (0 : Int32)) (fun S5 => bs (f_Reg_loadA S5 (((f_Reg_a S) + x1) + ((S.1 8) &&& (1 : Int32)))) (fun S7 => S7))) else (bs (f_Reg_putFlag S2 (1 : Int32) (1 : Int32)) (fun S9 => bs (f_Reg_loadA S9 (((f_Reg_a S) + x1) + ((S.1 8) &&& (1 : Int32)))) (fun S11 => S11))))) else (bs (f_Reg_putFlag S (64 : Int32) (1 : Int32)) (fun S13 => if (((f_Reg_a S) + x1) + ((S.1 8) &&& (1 : Int32))) ≤ (f_Reg_maskOf (f_Reg_wideA S)) then (bs (f_Reg_putFlag S13 (1 : Int32) (0 : Int32)) (fun S16 => bs (f_Reg_loadA S16 (((f_Reg_a S) + x1) + ((S.1 8) &&& (1 : Int32)))) (fun S18 => S18))) else (bs (f_Reg_putFlag S13 (1 : Int32) (1 : Int32)) (fun S20 => bs (f_Reg_loadA S20 (((f_Reg_a S) + x1) + ((S.1 8) &&& (1 : Int32)))) (fun S22 => S22)))))
def f_Prc_compare (S : Sc) (x1 x2 x3 : Int32) : Sc := if x1 < x2 then (bs (f_Reg_putFlag S (1 : Int32) (0 : Int32)) (fun S2 => bs (f_Reg_showResult S2 ((x1 - x2) &&& (f_Reg_maskOf x3)) x3) (fun S4 => S4))) else (bs (f_Reg_putFlag S (1 : Int32) (1 : Int32)) (fun S6 => bs (f_Reg_showResult S6 ((x1 - x2) &&& (f_Reg_maskOf x3)) x3) (fun S8 => S8)))
def f_Prc_useAccumulator (S : Sc) (x1 : Int32) : Int32 × Sc := if (f_Opd_isMode (x1 &&& (31 : Int32))) = (0 : Int32) then (((0 : Int32), S)) else (if x1 = (137 : Int32) then (((0 : Int32), S)) else (if (x1 >>> ((5 : Int32) &&& 31)) = (4 : Int32) then (bn (f_Opd_place S (x1 &&& (31 : Int32))) (fun r56 S57 => bs (f_Bus_writeValue S57 r56 (S57.1 0) (f_Reg_wideA S)) (fun S59 => ((1 : Int32), S59)))) else (if (x1 &&& (31 : Int32)) = (9 : Int32) then (bn (f_Opd_nextValue S (f_Reg_wideA S)) (fun r32 S33 => if (x1 >>> ((5 : Int32) &&& 31)) = (0 : Int32) then (bs (f_Reg_loadA S33 ((f_Reg_a S33) ||| r32)) (fun S36 => ((1 : Int32), S36))) else (if (x1 >>> ((5 : Int32) &&& 31)) = (1 : Int32) then (bs (f_Reg_loadA S33 ((f_Reg_a S33) &&& r32)) (fun S39 => ((1 : Int32), S39))) else (if (x1 >>> ((5 : Int32) &&& 31)) = (2 : Int32) then (bs (f_Reg_loadA S33 ((f_Reg_a S33) ^^^ r32)) (fun S42 => ((1 : Int32), S42))) else (if (x1 >>> ((5 : Int32) &&& 31)) = (3 : Int32) then (bs (f_Prc_addToA S33 r32) (fun S45 => ((1 : Int32), S45))) else (if (x1 >>> ((5 : Int32) &&& 31)) = (5 : Int32) then (bs (f_Reg_loadA S33 r32) (fun S48 => ((1 : Int32), S48))) else (if (x1 >>> ((5 : Int32) &&& 31)) = (6 : Int32) then (bs (f_Prc_compare S33 (f_Reg_a S33) r32 (f_Reg_wideA S)) (fun S51 => ((1 : Int32), S51))) else (if (x1 >>> ((5 : Int32) &&& 31)) = (7 : Int32) then (bs (f_Prc_addToA S33 ((r32 ^^^ (-1 : Int32)) &&& (f_Reg_maskOf (f_Reg_wideA S)))) (fun S54 => ((1 : Int32), S54))) else (((0 : Int32), S33)))))))))) else (bn (f_Opd_place S (x1 &&& (31 : Int32))) (fun r5 S6 => bn (f_Bus_readValue S6 r5 (f_Reg_wideA S)) (fun r8 S9 => if (x1 >>> ((5 : Int32) &&& 31)) = (0 : Int32) then (bs (f_Reg_loadA S9 ((f_Reg_a S9) ||| r8)) (fun S12 => ((1 : Int32), S12))) else (if (x1 >>> ((5 : Int32) &&& 31)) = (1 : Int32) then (bs (f_Reg_loadA S9 ((f_Reg_a S9) &&& r8)) (fun S15 => ((1 : Int32), S15))) else (if (x1 >>> ((5 : Int32) &&& 31)) = (2 : Int32) then (bs (f_Reg_loadA S9 ((f_Reg_a S9) ^^^ r8)) (fun S18 => ((1 : Int32), S18))) else (if (x1 >>> ((5 : Int32) &&& 31)) = (3 : Int32) then (bs (f_Prc_addToA S9 r8) (fun S21 => ((1 : Int32), S21))) else (if (x1 >>> ((5 : Int32) &&& 31)) = (5 : Int32) then (bs (f_Reg_loadA S9 r8) (fun S24 => ((1 : Int32), S24))) else (if (x1 >>> ((5 : Int32) &&& 31)) = (6 : Int32) then (bs (f_Prc_compare S9 (f_Reg_a S9) r8 (f_Reg_wideA S)) (fun S27 => ((1 : Int32), S27))) else (if (x1 >>> ((5 : Int32) &&& 31)) = (7 : Int32) then (bs (f_Prc_addToA S9 ((r8 ^^^ (-1 : Int32)) &&& (f_Reg_maskOf (f_Reg_wideA S)))) (fun S30 => ((1 : Int32), S30))) else (((0 : Int32), S9))))))))))))))
def f_Reg_loadX (S : Sc) (x1 : Int32) : Sc := bs (f_Reg_showResult (pr S 1 ((x1 &&& (f_Reg_indexMask S)))) (x1 &&& (f_Reg_indexMask S)) (f_Reg_wideIndex (pr S 1 ((x1 &&& (f_Reg_indexMask S)))))) (fun S1 => S1)
def f_Reg_loadY (S : Sc) (x1 : Int32) : Sc := bs (f_Reg_showResult (pr S 2 ((x1 &&& (f_Reg_indexMask S)))) (x1 &&& (f_Reg_indexMask S)) (f_Reg_wideIndex (pr S 2 ((x1 &&& (f_Reg_indexMask S)))))) (fun S1 => S1)
def f_Prc_useIndex (S : Sc) (x1 : Int32) : Int32 × Sc := if x1 = (132 : Int32) then (bn (f_Opd_place S (5 : Int32)) (fun r2 S3 => bs (f_Bus_writeValue S3 r2 (S3.1 2) (f_Reg_wideIndex S)) (fun S5 => ((1 : Int32), S5)))) else (if x1 = (134 : Int32) then (bn (f_Opd_place S (5 : Int32)) (fun r8 S9 => bs (f_Bus_writeValue S9 r8 (S9.1 1) (f_Reg_wideIndex S)) (fun S11 => ((1 : Int32), S11)))) else (if x1 = (140 : Int32) then (bn (f_Opd_place S (13 : Int32)) (fun r14 S15 => bs (f_Bus_writeValue S15 r14 (S15.1 2) (f_Reg_wideIndex S)) (fun S17 => ((1 : Int32), S17)))) else (if x1 = (142 : Int32) then (bn (f_Opd_place S (13 : Int32)) (fun r20 S21 => bs (f_Bus_writeValue S21 r20 (S21.1 1) (f_Reg_wideIndex S)) (fun S23 => ((1 : Int32), S23)))) else (if x1 = (160 : Int32) then (bn (f_Opd_nextValue S (f_Reg_wideIndex S)) (fun r26 S27 => bs (f_Reg_loadY S27 r26) (fun S29 => ((1 : Int32), S29)))) else (if x1 = (162 : Int32) then (bn (f_Opd_nextValue S (f_Reg_wideIndex S)) (fun r32 S33 => bs (f_Reg_loadX S33 r32) (fun S35 => ((1 : Int32), S35)))) else (if x1 = (164 : Int32) then (bn (f_Opd_place S (5 : Int32)) (fun r38 S39 => bn (f_Bus_readValue S39 r38 (f_Reg_wideIndex S)) (fun r41 S42 => bs (f_Reg_loadY S42 r41) (fun S44 => ((1 : Int32), S44))))) else (if x1 = (166 : Int32) then (bn (f_Opd_place S (5 : Int32)) (fun r47 S48 => bn (f_Bus_readValue S48 r47 (f_Reg_wideIndex S)) (fun r50 S51 => bs (f_Reg_loadX S51 r50) (fun S53 => ((1 : Int32), S53))))) else (if x1 = (172 : Int32) then (bn (f_Opd_place S (13 : Int32)) (fun r56 S57 => bn (f_Bus_readValue S57 r56 (f_Reg_wideIndex S)) (fun r59 S60 => bs (f_Reg_loadY S60 r59) (fun S62 => ((1 : Int32), S62))))) else (if x1 = (174 : Int32) then (bn (f_Opd_place S (13 : Int32)) (fun r65 S66 => bn (f_Bus_readValue S66 r65 (f_Reg_wideIndex S)) (fun r68 S69 => bs (f_Reg_loadX S69 r68) (fun S71 => ((1 : Int32), S71))))) else (if x1 = (192 : Int32) then (bn (f_Opd_nextValue S (f_Reg_wideIndex S)) (fun r74 S75 => bs (f_Prc_compare S75 (S.1 2) r74 (f_Reg_wideIndex S)) (fun S77 => ((1 : Int32), S77)))) else (if x1 = (224 : Int32) then (bn (f_Opd_nextValue S (f_Reg_wideIndex S)) (fun r80 S81 => bs (f_Prc_compare S81 (S.1 1) r80 (f_Reg_wideIndex S)) (fun S83 => ((1 : Int32), S83)))) else (((0 : Int32), S)))))))))))))
def f_Prc_storeZero (S : Sc) (x1 : Int32) : Int32 × Sc := if x1 = (100 : Int32) then (bn (f_Opd_place S (5 : Int32)) (fun r2 S3 => bs (f_Bus_writeValue S3 r2 (0 : Int32) (f_Reg_wideA S3)) (fun S5 => ((1 : Int32), S5)))) else (if x1 = (156 : Int32) then (bn (f_Opd_place S (13 : Int32)) (fun r8 S9 => bs (f_Bus_writeValue S9 r8 (0 : Int32) (f_Reg_wideA S9)) (fun S11 => ((1 : Int32), S11)))) else (((0 : Int32), S)))
def f_Prc_changed (S : Sc) (x1 x2 x3 : Int32) : Int32 × Sc := if x1 = (0 : Int32) then (if (x2 &&& (f_Reg_signOf x3)) = (0 : Int32) then (bs (f_Reg_putFlag S (1 : Int32) (0 : Int32)) (fun S3 => (((x2 <<< ((1 : Int32) &&& 31)) &&& (f_Reg_maskOf x3)), S3))) else (bs (f_Reg_putFlag S (1 : Int32) (1 : Int32)) (fun S5 => (((x2 <<< ((1 : Int32) &&& 31)) &&& (f_Reg_maskOf x3)), S5)))) else (if x1 = (1 : Int32) then (if (x2 &&& (f_Reg_signOf x3)) = (0 : Int32) then (bs (f_Reg_putFlag S (1 : Int32) (0 : Int32)) (fun S9 => if (f_Reg_has S (1 : Int32)) = (0 : Int32) then (((((x2 <<< ((1 : Int32) &&& 31)) &&& (f_Reg_maskOf x3)) ||| (0 : Int32)), S9)) else (((((x2 <<< ((1 : Int32) &&& 31)) &&& (f_Reg_maskOf x3)) ||| (1 : Int32)), S9)))) else (bs (f_Reg_putFlag S (1 : Int32) (1 : Int32)) (fun S12 => if (f_Reg_has S (1 : Int32)) = (0 : Int32) then (((((x2 <<< ((1 : Int32) &&& 31)) &&& (f_Reg_maskOf x3)) ||| (0 : Int32)), S12)) else (((((x2 <<< ((1 : Int32) &&& 31)) &&& (f_Reg_maskOf x3)) ||| (1 : Int32)), S12))))) else (if x1 = (2 : Int32) then (if (x2 &&& (1 : Int32)) = (0 : Int32) then (bs (f_Reg_putFlag S (1 : Int32) (0 : Int32)) (fun S17 => ((x2 >>> ((1 : Int32) &&& 31)), S17))) else (bs (f_Reg_putFlag S (1 : Int32) (1 : Int32)) (fun S19 => ((x2 >>> ((1 : Int32) &&& 31)), S19)))) else (if x1 = (3 : Int32) then (if (x2 &&& (1 : Int32)) = (0 : Int32) then (bs (f_Reg_putFlag S (1 : Int32) (0 : Int32)) (fun S23 => if (f_Reg_has S (1 : Int32)) = (0 : Int32) then ((((x2 >>> ((1 : Int32) &&& 31)) ||| (0 : Int32)), S23)) else ((((x2 >>> ((1 : Int32) &&& 31)) ||| (f_Reg_signOf x3)), S23)))) else (bs (f_Reg_putFlag S (1 : Int32) (1 : Int32)) (fun S26 => if (f_Reg_has S (1 : Int32)) = (0 : Int32) then ((((x2 >>> ((1 : Int32) &&& 31)) ||| (0 : Int32)), S26)) else ((((x2 >>> ((1 : Int32) &&& 31)) ||| (f_Reg_signOf x3)), S26))))) else (if x1 = (4 : Int32) then ((x2, S)) else (if x1 = (5 : Int32) then ((x2, S)) else (if x1 = (6 : Int32) then ((((x2 - (1 : Int32)) &&& (f_Reg_maskOf x3)), S)) else (if x1 = (7 : Int32) then ((((x2 + (1 : Int32)) &&& (f_Reg_maskOf x3)), S)) else ((x2, S)))))))))
def f_Prc_changeMemory (S : Sc) (x1 : Int32) : Int32 × Sc := if x1 = (6 : Int32) then (bn (f_Opd_place S (5 : Int32)) (fun r2 S3 => bn (f_Bus_readValue S3 r2 (f_Reg_wideA S)) (fun r5 S6 => bn (f_Prc_changed S6 (x1 >>> ((5 : Int32) &&& 31)) r5 (f_Reg_wideA S)) (fun r8 S9 => bs (f_Reg_showResult S9 r8 (f_Reg_wideA S)) (fun S11 => bs (f_Bus_writeValue S11 r2 r8 (f_Reg_wideA S)) (fun S13 => ((1 : Int32), S13))))))) else (if x1 = (38 : Int32) then (bn (f_Opd_place S (5 : Int32)) (fun r16 S17 => bn (f_Bus_readValue S17 r16 (f_Reg_wideA S)) (fun r19 S20 => bn (f_Prc_changed S20 (x1 >>> ((5 : Int32) &&& 31)) r19 (f_Reg_wideA S)) (fun r22 S23 => bs (f_Reg_showResult S23 r22 (f_Reg_wideA S)) (fun S25 => bs (f_Bus_writeValue S25 r16 r22 (f_Reg_wideA S)) (fun S27 => ((1 : Int32), S27))))))) else (if x1 = (70 : Int32) then (bn (f_Opd_place S (5 : Int32)) (fun r30 S31 => bn (f_Bus_readValue S31 r30 (f_Reg_wideA S)) (fun r33 S34 => bn (f_Prc_changed S34 (x1 >>> ((5 : Int32) &&& 31)) r33 (f_Reg_wideA S)) (fun r36 S37 => bs (f_Reg_showResult S37 r36 (f_Reg_wideA S)) (fun S39 => bs (f_Bus_writeValue S39 r30 r36 (f_Reg_wideA S)) (fun S41 => ((1 : Int32), S41))))))) else (if x1 = (102 : Int32) then (bn (f_Opd_place S (5 : Int32)) (fun r44 S45 => bn (f_Bus_readValue S45 r44 (f_Reg_wideA S)) (fun r47 S48 => bn (f_Prc_changed S48 (x1 >>> ((5 : Int32) &&& 31)) r47 (f_Reg_wideA S)) (fun r50 S51 => bs (f_Reg_showResult S51 r50 (f_Reg_wideA S)) (fun S53 => bs (f_Bus_writeValue S53 r44 r50 (f_Reg_wideA S)) (fun S55 => ((1 : Int32), S55))))))) else (if x1 = (198 : Int32) then (bn (f_Opd_place S (5 : Int32)) (fun r58 S59 => bn (f_Bus_readValue S59 r58 (f_Reg_wideA S)) (fun r61 S62 => bn (f_Prc_changed S62 (x1 >>> ((5 : Int32) &&& 31)) r61 (f_Reg_wideA S)) (fun r64 S65 => bs (f_Reg_showResult S65 r64 (f_Reg_wideA S)) (fun S67 => bs (f_Bus_writeValue S67 r58 r64 (f_Reg_wideA S)) (fun S69 => ((1 : Int32), S69))))))) else (if x1 = (206 : Int32) then (bn (f_Opd_place S (13 : Int32)) (fun r72 S73 => bn (f_Bus_readValue S73 r72 (f_Reg_wideA S)) (fun r75 S76 => bn (f_Prc_changed S76 (x1 >>> ((5 : Int32) &&& 31)) r75 (f_Reg_wideA S)) (fun r78 S79 => bs (f_Reg_showResult S79 r78 (f_Reg_wideA S)) (fun S81 => bs (f_Bus_writeValue S81 r72 r78 (f_Reg_wideA S)) (fun S83 => ((1 : Int32), S83))))))) else (if x1 = (230 : Int32) then (bn (f_Opd_place S (5 : Int32)) (fun r86 S87 => bn (f_Bus_readValue S87 r86 (f_Reg_wideA S)) (fun r89 S90 => bn (f_Prc_changed S90 (x1 >>> ((5 : Int32) &&& 31)) r89 (f_Reg_wideA S)) (fun r92 S93 => bs (f_Reg_showResult S93 r92 (f_Reg_wideA S)) (fun S95 => bs (f_Bus_writeValue S95 r86 r92 (f_Reg_wideA S)) (fun S97 => ((1 : Int32), S97))))))) else (if x1 = (238 : Int32) then (bn (f_Opd_place S (13 : Int32)) (fun r100 S101 => bn (f_Bus_readValue S101 r100 (f_Reg_wideA S)) (fun r103 S104 => bn (f_Prc_changed S104 (x1 >>> ((5 : Int32) &&& 31)) r103 (f_Reg_wideA S)) (fun r106 S107 => bs (f_Reg_showResult S107 r106 (f_Reg_wideA S)) (fun S109 => bs (f_Bus_writeValue S109 r100 r106 (f_Reg_wideA S)) (fun S111 => ((1 : Int32), S111))))))) else (((0 : Int32), S)))))))))
def f_Prc_changeRegister (S : Sc) (x1 : Int32) : Int32 × Sc := if x1 = (10 : Int32) then (bn (f_Prc_changed S (x1 >>> ((5 : Int32) &&& 31)) (f_Reg_a S) (f_Reg_wideA S)) (fun r2 S3 => bs (f_Reg_loadA S3 r2) (fun S5 => ((1 : Int32), S5)))) else (if x1 = (26 : Int32) then (bn (f_Prc_changed S (7 : Int32) (f_Reg_a S) (f_Reg_wideA S)) (fun r8 S9 => bs (f_Reg_loadA S9 r8) (fun S11 => ((1 : Int32), S11)))) else (if x1 = (42 : Int32) then (bn (f_Prc_changed S (x1 >>> ((5 : Int32) &&& 31)) (f_Reg_a S) (f_Reg_wideA S)) (fun r14 S15 => bs (f_Reg_loadA S15 r14) (fun S17 => ((1 : Int32), S17)))) else (if x1 = (58 : Int32) then (bn (f_Prc_changed S (6 : Int32) (f_Reg_a S) (f_Reg_wideA S)) (fun r20 S21 => bs (f_Reg_loadA S21 r20) (fun S23 => ((1 : Int32), S23)))) else (if x1 = (74 : Int32) then (bn (f_Prc_changed S (x1 >>> ((5 : Int32) &&& 31)) (f_Reg_a S) (f_Reg_wideA S)) (fun r26 S27 => bs (f_Reg_loadA S27 r26) (fun S29 => ((1 : Int32), S29)))) else (if x1 = (106 : Int32) then (bn (f_Prc_changed S (x1 >>> ((5 : Int32) &&& 31)) (f_Reg_a S) (f_Reg_wideA S)) (fun r32 S33 => bs (f_Reg_loadA S33 r32) (fun S35 => ((1 : Int32), S35)))) else (if x1 = (136 : Int32) then (bs (f_Reg_loadY S ((S.1 2) - (1 : Int32))) (fun S38 => ((1 : Int32), S38))) else (if x1 = (200 : Int32) then (bs (f_Reg_loadY S ((S.1 2) + (1 : Int32))) (fun S41 => ((1 : Int32), S41))) else (if x1 = (202 : Int32) then (bs (f_Reg_loadX S ((S.1 1) - (1 : Int32))) (fun S44 => ((1 : Int32), S44))) else (if x1 = (232 : Int32) then (bs (f_Reg_loadX S ((S.1 1) + (1 : Int32))) (fun S47 => ((1 : Int32), S47))) else (((0 : Int32), S)))))))))))
def f_Reg_loadD (S : Sc) (x1 : Int32) : Sc := bs (f_Reg_showResult (pr S 4 (x1)) x1 (1 : Int32)) (fun S1 => S1)
def f_Reg_loadC (S : Sc) (x1 : Int32) : Sc := bs (f_Reg_showResult (pr S 0 (x1)) x1 (1 : Int32)) (fun S1 => S1)
def f_Prc_transfer (S : Sc) (x1 : Int32) : Int32 × Sc := if x1 = (27 : Int32) then (((1 : Int32), (pr S 3 (S.1 0)))) else (if x1 = (59 : Int32) then (bs (f_Reg_loadC S (S.1 3)) (fun S3 => ((1 : Int32), S3))) else (if x1 = (91 : Int32) then (bs (f_Reg_loadD S (S.1 0)) (fun S6 => ((1 : Int32), S6))) else (if x1 = (123 : Int32) then (bs (f_Reg_loadC S (S.1 4)) (fun S9 => ((1 : Int32), S9))) else (if x1 = (138 : Int32) then (bs (f_Reg_loadA S (S.1 1)) (fun S12 => ((1 : Int32), S12))) else (if x1 = (152 : Int32) then (bs (f_Reg_loadA S (S.1 2)) (fun S15 => ((1 : Int32), S15))) else (if x1 = (154 : Int32) then (((1 : Int32), (pr S 3 (S.1 1)))) else (if x1 = (155 : Int32) then (bs (f_Reg_loadY S (S.1 1)) (fun S19 => ((1 : Int32), S19))) else (if x1 = (168 : Int32) then (bs (f_Reg_loadY S (S.1 0)) (fun S22 => ((1 : Int32), S22))) else (if x1 = (170 : Int32) then (bs (f_Reg_loadX S (S.1 0)) (fun S25 => ((1 : Int32), S25))) else (if x1 = (186 : Int32) then (bs (f_Reg_loadX S (S.1 3)) (fun S28 => ((1 : Int32), S28))) else (if x1 = (187 : Int32) then (bs (f_Reg_loadX S (S.1 2)) (fun S31 => ((1 : Int32), S31))) else (if x1 = (235 : Int32) then (bs (f_Reg_showResult (pr S 0 ((((S.1 0) >>> ((8 : Int32) &&& 31)) ||| (((S.1 0) &&& (255 : Int32)) <<< ((8 : Int32) &&& 31))))) ((((S.1 0) >>> ((8 : Int32) &&& 31)) ||| (((S.1 0) &&& (255 : Int32)) <<< ((8 : Int32) &&& 31))) &&& (255 : Int32)) (0 : Int32)) (fun S34 => ((1 : Int32), S34))) else (((0 : Int32), S))))))))))))))
def f_Stk_pushValue (S : Sc) (x1 x2 : Int32) : Sc := if x2 = (0 : Int32) then (bs (f_Stk_pushByte S x1) (fun S2 => S2)) else (bs (f_Stk_pushByte S (x1 >>> ((8 : Int32) &&& 31))) (fun S4 => bs (f_Stk_pushByte S4 x1) (fun S6 => S6)))
def f_Prc_push (S : Sc) (x1 : Int32) : Int32 × Sc := if x1 = (8 : Int32) then (bs (f_Stk_pushByte S (S.1 8)) (fun S2 => ((1 : Int32), S2))) else (if x1 = (11 : Int32) then (bs (f_Stk_pushWord S (S.1 4)) (fun S5 => ((1 : Int32), S5))) else (if x1 = (72 : Int32) then (bs (f_Stk_pushValue S (S.1 0) (f_Reg_wideA S)) (fun S8 => ((1 : Int32), S8))) else (if x1 = (75 : Int32) then (bs (f_Stk_pushByte S (S.1 6)) (fun S11 => ((1 : Int32), S11))) else (if x1 = (90 : Int32) then (bs (f_Stk_pushValue S (S.1 2) (f_Reg_wideIndex S)) (fun S14 => ((1 : Int32), S14))) else (if x1 = (139 : Int32) then (bs (f_Stk_pushByte S (S.1 5)) (fun S17 => ((1 : Int32), S17))) else (if x1 = (218 : Int32) then (bs (f_Stk_pushValue S (S.1 1) (f_Reg_wideIndex S)) (fun S20 => ((1 : Int32), S20))) else (if x1 = (244 : Int32) then (bn (f_Opd_nextWord S) (fun r23 S24 => bs (f_Stk_pushWord S24 r23) (fun S26 => ((1 : Int32), S26)))) else (((0 : Int32), S)))))))))
def f_Stk_pullByte (S : Sc) : Int32 × Sc := bn (f_Bus_readByte (pr S 3 ((((S.1 3) + (1 : Int32)) &&& (65535 : Int32)))) (f_Bus_bank0Place (((S.1 3) + (1 : Int32)) &&& (65535 : Int32)))) (fun r1 S2 => (r1, S2))
def f_Stk_pullWord (S : Sc) : Int32 × Sc := bn (f_Stk_pullByte S) (fun r1 S2 => bn (f_Stk_pullByte S2) (fun r4 S5 => ((r1 ||| (r4 <<< ((8 : Int32) &&& 31))), S5)))
def f_Stk_pullValue (S : Sc) (x1 : Int32) : Int32 × Sc := if x1 = (0 : Int32) then (bn (f_Stk_pullByte S) (fun r2 S3 => (r2, S3))) else (bn (f_Stk_pullWord S) (fun r5 S6 => (r5, S6)))
def f_Reg_loadDataBank (S : Sc) (x1 : Int32) : Sc := bs (f_Reg_showResult (pr S 5 (x1)) x1 (0 : Int32)) (fun S1 => S1)
def f_Prc_pull (S : Sc) (x1 : Int32) : Int32 × Sc := if x1 = (40 : Int32) then (bn (f_Stk_pullByte S) (fun r2 S3 => bs (f_Reg_replaceP S3 r2) (fun S5 => ((1 : Int32), S5)))) else (if x1 = (43 : Int32) then (bn (f_Stk_pullWord S) (fun r8 S9 => bs (f_Reg_loadD S9 r8) (fun S11 => ((1 : Int32), S11)))) else (if x1 = (104 : Int32) then (bn (f_Stk_pullValue S (f_Reg_wideA S)) (fun r14 S15 => bs (f_Reg_loadA S15 r14) (fun S17 => ((1 : Int32), S17)))) else (if x1 = (122 : Int32) then (bn (f_Stk_pullValue S (f_Reg_wideIndex S)) (fun r20 S21 => bs (f_Reg_loadY S21 r20) (fun S23 => ((1 : Int32), S23)))) else (if x1 = (171 : Int32) then (bn (f_Stk_pullByte S) (fun r26 S27 => bs (f_Reg_loadDataBank S27 r26) (fun S29 => ((1 : Int32), S29)))) else (if x1 = (250 : Int32) then (bn (f_Stk_pullValue S (f_Reg_wideIndex S)) (fun r32 S33 => bs (f_Reg_loadX S33 r32) (fun S35 => ((1 : Int32), S35)))) else (((0 : Int32), S)))))))
def f_Reg_jumpTo (S : Sc) (x1 : Int32) : Sc := (pr S 7 ((x1 &&& (65535 : Int32))))
def f_Prc_branch (S : Sc) (x1 : Int32) : Int32 × Sc := if x1 = (130 : Int32) then (bn (f_Opd_nextWord S) (fun r19 S20 => bs (f_Reg_jumpTo S20 ((S20.1 7) + r19)) (fun S22 => ((1 : Int32), S22)))) else (if x1 = (128 : Int32) then (bn (f_Opd_nextByte S) (fun r14 S15 => bs (f_Reg_jumpTo S15 ((S15.1 7) + ((r14).toInt8.toInt32))) (fun S17 => ((1 : Int32), S17)))) else (if (x1 &&& (31 : Int32)) = (16 : Int32) then (bn (f_Opd_nextByte S) (fun r4 S5 => if (x1 &&& (32 : Int32)) = (0 : Int32) then (if (f_Reg_has S5 (bf ((x1 >>> ((6 : Int32) &&& 31))).toNatClampNeg)) = (0 : Int32) then (bs (f_Reg_jumpTo S5 ((S5.1 7) + ((r4).toInt8.toInt32))) (fun S9 => ((1 : Int32), S9))) else (((1 : Int32), S5))) else (if (f_Reg_has S5 (bf ((x1 >>> ((6 : Int32) &&& 31))).toNatClampNeg)) = (1 : Int32) then (bs (f_Reg_jumpTo S5 ((S5.1 7) + ((r4).toInt8.toInt32))) (fun S12 => ((1 : Int32), S12))) else (((1 : Int32), S5))))) else (((0 : Int32), S))))
def f_Reg_jumpLong (S : Sc) (x1 : Int32) : Sc := (pr (pr S 6 ((x1 >>> ((16 : Int32) &&& 31)))) 7 ((x1 &&& (65535 : Int32))))
def f_Prc_jump (S : Sc) (x1 : Int32) : Int32 × Sc := if x1 = (32 : Int32) then (bn (f_Opd_nextWord S) (fun r2 S3 => bs (f_Stk_pushWord S3 (((S3.1 7) - (1 : Int32)) &&& (65535 : Int32))) (fun S5 => bs (f_Reg_jumpTo S5 r2) (fun S7 => ((1 : Int32), S7))))) else (if x1 = (34 : Int32) then (bn (f_Opd_nextLong S) (fun r10 S11 => bs (f_Stk_pushByte S11 (S11.1 6)) (fun S13 => bs (f_Stk_pushWord S13 (((S13.1 7) - (1 : Int32)) &&& (65535 : Int32))) (fun S15 => bs (f_Reg_jumpLong S15 r10) (fun S17 => ((1 : Int32), S17)))))) else (if x1 = (64 : Int32) then (bn (f_Stk_pullByte S) (fun r20 S21 => bs (f_Reg_replaceP S21 r20) (fun S23 => bn (f_Stk_pullWord S23) (fun r25 S26 => bs (f_Reg_jumpTo S26 r25) (fun S28 => bn (f_Stk_pullByte S28) (fun r30 S31 => ((1 : Int32), (pr S31 6 (r30))))))))) else (if x1 = (76 : Int32) then (bn (f_Opd_nextWord S) (fun r34 S35 => bs (f_Reg_jumpTo S35 r34) (fun S37 => ((1 : Int32), S37)))) else (if x1 = (92 : Int32) then (bn (f_Opd_nextLong S) (fun r40 S41 => bs (f_Reg_jumpLong S41 r40) (fun S43 => ((1 : Int32), S43)))) else (if x1 = (96 : Int32) then (bn (f_Stk_pullWord S) (fun r46 S47 => bs (f_Reg_jumpTo S47 (r46 + (1 : Int32))) (fun S49 => ((1 : Int32), S49)))) else (if x1 = (107 : Int32) then (bn (f_Stk_pullWord S) (fun r52 S53 => bs (f_Reg_jumpTo S53 (r52 + (1 : Int32))) (fun S55 => bn (f_Stk_pullByte S55) (fun r57 S58 => ((1 : Int32), (pr S58 6 (r57))))))) else (((0 : Int32), S))))))))
def f_Prc_changeFlags (S : Sc) (x1 : Int32) : Int32 × Sc := if x1 = (24 : Int32) then (bs (f_Reg_putFlag S (1 : Int32) (0 : Int32)) (fun S2 => ((1 : Int32), S2))) else (if x1 = (56 : Int32) then (bs (f_Reg_putFlag S (1 : Int32) (1 : Int32)) (fun S5 => ((1 : Int32), S5))) else (if x1 = (88 : Int32) then (bs (f_Reg_putFlag S (4 : Int32) (0 : Int32)) (fun S8 => ((1 : Int32), S8))) else (if x1 = (120 : Int32) then (bs (f_Reg_putFlag S (4 : Int32) (1 : Int32)) (fun S11 => ((1 : Int32), S11))) else (if x1 = (184 : Int32) then (bs (f_Reg_putFlag S (64 : Int32) (0 : Int32)) (fun S14 => ((1 : Int32), S14))) else (if x1 = (194 : Int32) then (bn (f_Opd_nextByte S) (fun r17 S18 => bs (f_Reg_replaceP S18 ((S.1 8) &&& (r17 ^^^ (-1 : Int32)))) (fun S20 => ((1 : Int32), S20)))) else (if x1 = (216 : Int32) then (bs (f_Reg_putFlag S (8 : Int32) (0 : Int32)) (fun S23 => ((1 : Int32), S23))) else (if x1 = (226 : Int32) then (bn (f_Opd_nextByte S) (fun r26 S27 => bs (f_Reg_replaceP S27 ((S.1 8) ||| r26)) (fun S29 => ((1 : Int32), S29)))) else (if x1 = (234 : Int32) then (((1 : Int32), S)) else (if x1 = (248 : Int32) then (bs (f_Reg_putFlag S (8 : Int32) (1 : Int32)) (fun S33 => ((1 : Int32), S33))) else (((0 : Int32), S)))))))))))
def f_Prc_moveBlock (S : Sc) (x1 : Int32) : Int32 × Sc := if x1 = (84 : Int32) then (bn (f_Opd_nextByte S) (fun r2 S3 => bn (f_Opd_nextByte S3) (fun r5 S6 => bn (f_Bus_readByte (pr S6 5 (r2)) ((r5 <<< ((16 : Int32) &&& 31)) ||| (S6.1 1))) (fun r8 S9 => bs (f_Bus_writeByte S9 ((r2 <<< ((16 : Int32) &&& 31)) ||| (S6.1 2)) r8) (fun S11 => if S11.1 0 = (0 : Int32) then (((1 : Int32), (pr (pr (pr S11 1 ((((S11.1 1) + (1 : Int32)) &&& (f_Reg_indexMask S11)))) 2 ((((S11.1 2) + (1 : Int32)) &&& (f_Reg_indexMask (pr S11 1 ((((S11.1 1) + (1 : Int32)) &&& (f_Reg_indexMask S11)))))))) 0 ((((S11.1 0) - (1 : Int32)) &&& (65535 : Int32)))))) else (bs (f_Reg_jumpTo (pr (pr S11 1 ((((S11.1 1) + (1 : Int32)) &&& (f_Reg_indexMask S11)))) 2 ((((S11.1 2) + (1 : Int32)) &&& (f_Reg_indexMask (pr S11 1 ((((S11.1 1) + (1 : Int32)) &&& (f_Reg_indexMask S11)))))))) ((S.1 7) - (1 : Int32))) (fun S14 => ((1 : Int32), (pr S14 0 ((((S14.1 0) - (1 : Int32)) &&& (65535 : Int32)))))))))))) else (if x1 = (68 : Int32) then (bn (f_Opd_nextByte S) (fun r17 S18 => bn (f_Opd_nextByte S18) (fun r20 S21 => bn (f_Bus_readByte (pr S21 5 (r17)) ((r20 <<< ((16 : Int32) &&& 31)) ||| (S21.1 1))) (fun r23 S24 => bs (f_Bus_writeByte S24 ((r17 <<< ((16 : Int32) &&& 31)) ||| (S21.1 2)) r23) (fun S26 => if S26.1 0 = (0 : Int32) then (((1 : Int32), (pr (pr (pr S26 1 ((((S26.1 1) + (-1 : Int32)) &&& (f_Reg_indexMask S26)))) 2 ((((S26.1 2) + (-1 : Int32)) &&& (f_Reg_indexMask (pr S26 1 ((((S26.1 1) + (-1 : Int32)) &&& (f_Reg_indexMask S26)))))))) 0 ((((S26.1 0) - (1 : Int32)) &&& (65535 : Int32)))))) else (bs (f_Reg_jumpTo (pr (pr S26 1 ((((S26.1 1) + (-1 : Int32)) &&& (f_Reg_indexMask S26)))) 2 ((((S26.1 2) + (-1 : Int32)) &&& (f_Reg_indexMask (pr S26 1 ((((S26.1 1) + (-1 : Int32)) &&& (f_Reg_indexMask S26)))))))) ((S.1 7) - (1 : Int32))) (fun S29 => ((1 : Int32), (pr S29 0 ((((S29.1 0) - (1 : Int32)) &&& (65535 : Int32)))))))))))) else (((0 : Int32), S)))
def f_Prc_makeStep (S : Sc) : Sc := if S.1 10 = (0 : Int32) then (if S.1 11 = (0 : Int32) then (bn (f_Opd_nextByte (pr S 13 (((S.1 13) + (1 : Int32))))) (fun r3 S4 => if r3 = (0 : Int32) then (bn (f_Opd_nextByte S4) (fun r55 S56 => bs (f_Prc_enterInterrupt S56 (486 : Int32)) (fun S58 => S58))) else (bn (f_Prc_useAccumulator S4 r3) (fun r7 S8 => if r7 = (0 : Int32) then (bn (f_Prc_useIndex S8 r3) (fun r11 S12 => if r11 = (0 : Int32) then (bn (f_Prc_storeZero S12 r3) (fun r15 S16 => if r15 = (0 : Int32) then (bn (f_Prc_changeMemory S16 r3) (fun r19 S20 => if r19 = (0 : Int32) then (bn (f_Prc_changeRegister S20 r3) (fun r23 S24 => if r23 = (0 : Int32) then (bn (f_Prc_transfer S24 r3) (fun r27 S28 => if r27 = (0 : Int32) then (bn (f_Prc_push S28 r3) (fun r31 S32 => if r31 = (0 : Int32) then (bn (f_Prc_pull S32 r3) (fun r35 S36 => if r35 = (0 : Int32) then (bn (f_Prc_branch S36 r3) (fun r39 S40 => if r39 = (0 : Int32) then (bn (f_Prc_jump S40 r3) (fun r43 S44 => if r43 = (0 : Int32) then (bn (f_Prc_changeFlags S44 r3) (fun r47 S48 => if r47 = (0 : Int32) then (bn (f_Prc_moveBlock S48 r3) (fun r51 S52 => if r51 = (0 : Int32) then ((pr S52 12 ((1 : Int32)))) else ((pr S52 12 ((0 : Int32)))))) else ((pr S48 12 ((0 : Int32)))))) else ((pr S44 12 ((0 : Int32)))))) else ((pr S40 12 ((0 : Int32)))))) else ((pr S36 12 ((0 : Int32)))))) else ((pr S32 12 ((0 : Int32)))))) else ((pr S28 12 ((0 : Int32)))))) else ((pr S24 12 ((0 : Int32)))))) else ((pr S20 12 ((0 : Int32)))))) else ((pr S16 12 ((0 : Int32)))))) else ((pr S12 12 ((0 : Int32)))))) else ((pr S8 12 ((0 : Int32)))))))) else (if (f_Reg_has (pr S 13 (((S.1 13) + (1 : Int32)))) (4 : Int32)) = (0 : Int32) then (bs (f_Prc_enterInterrupt (pr S 13 (((S.1 13) + (1 : Int32)))) (494 : Int32)) (fun S118 => S118)) else (bn (f_Opd_nextByte (pr S 13 (((S.1 13) + (1 : Int32))))) (fun r61 S62 => if r61 = (0 : Int32) then (bn (f_Opd_nextByte S62) (fun r113 S114 => bs (f_Prc_enterInterrupt S114 (486 : Int32)) (fun S116 => S116))) else (bn (f_Prc_useAccumulator S62 r61) (fun r65 S66 => if r65 = (0 : Int32) then (bn (f_Prc_useIndex S66 r61) (fun r69 S70 => if r69 = (0 : Int32) then (bn (f_Prc_storeZero S70 r61) (fun r73 S74 => if r73 = (0 : Int32) then (bn (f_Prc_changeMemory S74 r61) (fun r77 S78 => if r77 = (0 : Int32) then (bn (f_Prc_changeRegister S78 r61) (fun r81 S82 => if r81 = (0 : Int32) then (bn (f_Prc_transfer S82 r61) (fun r85 S86 => if r85 = (0 : Int32) then (bn (f_Prc_push S86 r61) (fun r89 S90 => if r89 = (0 : Int32) then (bn (f_Prc_pull S90 r61) (fun r93 S94 => if r93 = (0 : Int32) then (bn (f_Prc_branch S94 r61) (fun r97 S98 => if r97 = (0 : Int32) then (bn (f_Prc_jump S98 r61) (fun r101 S102 => if r101 = (0 : Int32) then (bn (f_Prc_changeFlags S102 r61) (fun r105 S106 => if r105 = (0 : Int32) then (bn (f_Prc_moveBlock S106 r61) (fun r109 S110 => if r109 = (0 : Int32) then ((pr S110 12 ((1 : Int32)))) else ((pr S110 12 ((0 : Int32)))))) else ((pr S106 12 ((0 : Int32)))))) else ((pr S102 12 ((0 : Int32)))))) else ((pr S98 12 ((0 : Int32)))))) else ((pr S94 12 ((0 : Int32)))))) else ((pr S90 12 ((0 : Int32)))))) else ((pr S86 12 ((0 : Int32)))))) else ((pr S82 12 ((0 : Int32)))))) else ((pr S78 12 ((0 : Int32)))))) else ((pr S74 12 ((0 : Int32)))))) else ((pr S70 12 ((0 : Int32)))))) else ((pr S66 12 ((0 : Int32)))))))))) else (bs (f_Prc_enterInterrupt (pr (pr S 13 (((S.1 13) + (1 : Int32)))) 10 ((0 : Int32))) (490 : Int32)) (fun S120 => S120))
def f_Wc_stopped (S : Sc) : Int32 := S.1 12
def f_Wc_interrupt (S : Sc) : Int32 × Sc := if S.1 10 = (0 : Int32) then (((1 : Int32), (pr S 10 ((1 : Int32))))) else (((0 : Int32), S))
def f_Wc_line (S : Sc) (x1 : Int32) : Sc := (pr S 11 (x1))
def f_Wc_touches (S : Sc) : Int32 := S.1 9
def f_Bus_latestTouch (S : Sc) (x1 : Int32) : Int32 := (S.2.2 (((((S.1 9) - (1 : Int32)) - x1) &&& (7 : Int32))).toNatClampNeg)
def f_Wc_touched (S : Sc) (x1 : Int32) : Int32 := if x1 < (0 : Int32) then ((-1 : Int32)) else (if (8 : Int32) ≤ x1 then ((-1 : Int32)) else (if x1 < S.1 9 then ((f_Bus_latestTouch S x1)) else ((-1 : Int32))))
def f_Wc_steps (S : Sc) : Int32 := S.1 13
def f_Mdl_is (S : Sc) (x1 : Int32) : Int32 := if ((S.1 6) &&& x1) = (0 : Int32) then ((0 : Int32)) else ((1 : Int32))
def f_Mdl_flag (S : Sc) (x1 x2 : Int32) : Sc := if x2 = (0 : Int32) then ((pr S 6 (((S.1 6) &&& (x1 ^^^ (-1 : Int32)))))) else ((pr S 6 (((S.1 6) ||| x1))))
def f_Mdl_cell (x0 : Int32) : Int32 := (((512 : Int32) * ((x0 >>> ((16 : Int32) &&& 31)) &&& (1 : Int32))) + (x0 &&& (511 : Int32)))
def f_Mdl_touch (S : Sc) (x1 : Int32) : Sc := (pr (pl (pl (pl (pl (pl (pl (pl (pl S (((7 : Int32)).toNatClampNeg) ((S.2.2 (((7 : Int32) - (1 : Int32))).toNatClampNeg))) (((6 : Int32)).toNatClampNeg) ((S.2.2 5))) (((5 : Int32)).toNatClampNeg) ((S.2.2 4))) (((4 : Int32)).toNatClampNeg) ((S.2.2 3))) (((3 : Int32)).toNatClampNeg) ((S.2.2 2))) (((2 : Int32)).toNatClampNeg) ((S.2.2 1))) (((1 : Int32)).toNatClampNeg) ((S.2.2 0))) (((0 : Int32)).toNatClampNeg) (x1)) 13 (((S.1 13) + (1 : Int32))))
def f_Mdl_read (S : Sc) (x1 : Int32) : Int32 × Sc := bs (f_Mdl_touch S (f_Mdl_cell x1)) (fun S1 => ((S1.2.1 ((f_Mdl_cell x1)).toNatClampNeg), S1))
def f_Mdl_write (S : Sc) (x1 x2 : Int32) : Sc := bs (f_Mdl_touch S ((f_Mdl_cell x1) + (1024 : Int32))) (fun S1 => (pm S1 (((f_Mdl_cell x1)).toNatClampNeg) ((x2 &&& (255 : Int32)))))
def f_Mdl_after (x1 x2 : Int32) : Int32 := if x2 = (0 : Int32) then (((x1 + (1 : Int32)) &&& (16777215 : Int32))) else (((x1 &&& (16711680 : Int32)) ||| ((x1 + (1 : Int32)) &&& (65535 : Int32))))
def f_Mdl_readWord (S : Sc) (x1 x2 : Int32) : Int32 × Sc := bn (f_Mdl_read S x1) (fun r1 S2 => bn (f_Mdl_read S2 (f_Mdl_after x1 x2)) (fun r4 S5 => ((r1 ||| (r4 <<< ((8 : Int32) &&& 31))), S5)))
def f_Mdl_push (S : Sc) (x1 : Int32) : Sc := bs (f_Mdl_write S (S.1 3) x1) (fun S1 => (pr S1 3 ((((S1.1 3) - (1 : Int32)) &&& (65535 : Int32)))))
def f_Mdl_pushWord (S : Sc) (x1 : Int32) : Sc := bs (f_Mdl_push S (x1 >>> ((8 : Int32) &&& 31))) (fun S1 => bs (f_Mdl_push S1 x1) (fun S3 => S3))
def f_Mdl_pull (S : Sc) : Int32 × Sc := bn (f_Mdl_read (pr S 3 ((((S.1 3) + (1 : Int32)) &&& (65535 : Int32)))) (((S.1 3) + (1 : Int32)) &&& (65535 : Int32))) (fun r1 S2 => (r1, S2))
def f_Mdl_pullWord (S : Sc) : Int32 × Sc := bn (f_Mdl_pull S) (fun r1 S2 => bn (f_Mdl_pull S2) (fun r4 S5 => ((r1 ||| (r4 <<< ((8 : Int32) &&& 31))), S5)))
def f_Mdl_next (S : Sc) : Int32 × Sc := ((S.2.1 ((f_Mdl_cell (((S.1 7) <<< ((16 : Int32) &&& 31)) ||| (S.1 8)))).toNatClampNeg), (pr S 8 ((((S.1 8) + (1 : Int32)) &&& (65535 : Int32)))))
def f_Mdl_nextWord (S : Sc) : Int32 × Sc := bn (f_Mdl_next S) (fun r1 S2 => bn (f_Mdl_next S2) (fun r4 S5 => ((r1 ||| (r4 <<< ((8 : Int32) &&& 31))), S5)))
def f_Mdl_nextLong (S : Sc) : Int32 × Sc := bn (f_Mdl_nextWord S) (fun r1 S2 => bn (f_Mdl_next S2) (fun r4 S5 => ((r1 ||| (r4 <<< ((16 : Int32) &&& 31))), S5)))
def f_Mdl_accumulator (S : Sc) : Int32 := if (f_Mdl_is S (32 : Int32)) = (0 : Int32) then (S.1 0) else (((S.1 0) &&& (255 : Int32)))
def f_Mdl_setAccumulator (S : Sc) (x1 : Int32) : Sc := if (f_Mdl_is S (32 : Int32)) = (0 : Int32) then ((pr S 0 ((x1 &&& (65535 : Int32))))) else ((pr S 0 ((((S.1 0) &&& (65280 : Int32)) ||| (x1 &&& (255 : Int32))))))
def f_Mdl_cut (x1 x2 : Int32) : Int32 := if x2 = (0 : Int32) then ((x1 &&& (65535 : Int32))) else ((x1 &&& (255 : Int32)))
def f_Mdl_result (S : Sc) (x1 x2 : Int32) : Int32 × Sc := if x2 = (0 : Int32) then (if ((f_Mdl_cut x1 x2) &&& (32768 : Int32)) = (0 : Int32) then (bs (f_Mdl_flag S (128 : Int32) (0 : Int32)) (fun S3 => if (f_Mdl_cut x1 x2) = (0 : Int32) then (bs (f_Mdl_flag S3 (2 : Int32) (1 : Int32)) (fun S8 => ((f_Mdl_cut x1 x2), S8))) else (bs (f_Mdl_flag S3 (2 : Int32) (0 : Int32)) (fun S6 => ((f_Mdl_cut x1 x2), S6))))) else (bs (f_Mdl_flag S (128 : Int32) (1 : Int32)) (fun S10 => if (f_Mdl_cut x1 x2) = (0 : Int32) then (bs (f_Mdl_flag S10 (2 : Int32) (1 : Int32)) (fun S15 => ((f_Mdl_cut x1 x2), S15))) else (bs (f_Mdl_flag S10 (2 : Int32) (0 : Int32)) (fun S13 => ((f_Mdl_cut x1 x2), S13)))))) else (if ((f_Mdl_cut x1 x2) &&& (128 : Int32)) = (0 : Int32) then (bs (f_Mdl_flag S (128 : Int32) (0 : Int32)) (fun S18 => if (f_Mdl_cut x1 x2) = (0 : Int32) then (bs (f_Mdl_flag S18 (2 : Int32) (1 : Int32)) (fun S23 => ((f_Mdl_cut x1 x2), S23))) else (bs (f_Mdl_flag S18 (2 : Int32) (0 : Int32)) (fun S21 => ((f_Mdl_cut x1 x2), S21))))) else (bs (f_Mdl_flag S (128 : Int32) (1 : Int32)) (fun S25 => if (f_Mdl_cut x1 x2) = (0 : Int32) then (bs (f_Mdl_flag S25 (2 : Int32) (1 : Int32)) (fun S30 => ((f_Mdl_cut x1 x2), S30))) else (bs (f_Mdl_flag S25 (2 : Int32) (0 : Int32)) (fun S28 => ((f_Mdl_cut x1 x2), S28))))))
def f_Mdl_setFlags (S : Sc) (x1 : Int32) : Sc := if (f_Mdl_is (pr S 6 ((x1 &&& (255 : Int32)))) (16 : Int32)) = (0 : Int32) then ((pr S 6 ((x1 &&& (255 : Int32))))) else ((pr (pr (pr S 6 ((x1 &&& (255 : Int32)))) 1 (((S.1 1) &&& (255 : Int32)))) 2 (((S.1 2) &&& (255 : Int32)))))
def f_Mdl_direct (S : Sc) (x1 : Int32) : Sc := bn (f_Mdl_next S) (fun r1 S2 => (pr (pr S2 14 (((((S.1 4) + r1) + x1) &&& (65535 : Int32)))) 15 ((1 : Int32))))
def f_Mdl_far (S : Sc) (x1 : Int32) : Sc := (pr (pr S 14 ((x1 &&& (16777215 : Int32)))) 15 ((0 : Int32)))
def f_Mdl_find (S : Sc) (x1 : Int32) : Int32 × Sc := if x1 = (5 : Int32) then (bs (f_Mdl_direct S (0 : Int32)) (fun S2 => ((1 : Int32), S2))) else (if x1 = (21 : Int32) then (bs (f_Mdl_direct S (S.1 1)) (fun S94 => ((1 : Int32), S94))) else (if x1 = (3 : Int32) then (bn (f_Mdl_next S) (fun r91 S92 => ((1 : Int32), (pr (pr S92 14 ((((S.1 3) + r91) &&& (65535 : Int32)))) 15 ((1 : Int32)))))) else (if x1 = (13 : Int32) then (bn (f_Mdl_nextWord S) (fun r7 S8 => bs (f_Mdl_far S8 ((((S.1 5) <<< ((16 : Int32) &&& 31)) + r7) + (0 : Int32))) (fun S10 => ((1 : Int32), S10)))) else (if x1 = (25 : Int32) then (bn (f_Mdl_nextWord S) (fun r13 S14 => bs (f_Mdl_far S14 ((((S.1 5) <<< ((16 : Int32) &&& 31)) + r13) + (S14.1 2))) (fun S16 => ((1 : Int32), S16)))) else (if x1 = (29 : Int32) then (bn (f_Mdl_nextWord S) (fun r86 S87 => bs (f_Mdl_far S87 ((((S.1 5) <<< ((16 : Int32) &&& 31)) + r86) + (S87.1 1))) (fun S89 => ((1 : Int32), S89)))) else (if x1 = (15 : Int32) then (bn (f_Mdl_nextLong S) (fun r20 S21 => bs (f_Mdl_far S21 (r20 + (0 : Int32))) (fun S23 => ((1 : Int32), S23)))) else (if x1 = (31 : Int32) then (bn (f_Mdl_nextLong S) (fun r81 S82 => bs (f_Mdl_far S82 (r81 + (S82.1 1))) (fun S84 => ((1 : Int32), S84)))) else (if x1 = (1 : Int32) then (bs (f_Mdl_direct S (S.1 1)) (fun S27 => bn (f_Mdl_readWord S27 (S27.1 14) (1 : Int32)) (fun r29 S30 => bs (f_Mdl_far S30 ((((S27.1 5) <<< ((16 : Int32) &&& 31)) + r29) + (0 : Int32))) (fun S32 => ((1 : Int32), S32))))) else (if x1 = (17 : Int32) then (bs (f_Mdl_direct S (0 : Int32)) (fun S35 => bn (f_Mdl_readWord S35 (S35.1 14) (1 : Int32)) (fun r37 S38 => bs (f_Mdl_far S38 ((((S35.1 5) <<< ((16 : Int32) &&& 31)) + r37) + (S38.1 2))) (fun S40 => ((1 : Int32), S40))))) else (if x1 = (18 : Int32) then (bs (f_Mdl_direct S (0 : Int32)) (fun S74 => bn (f_Mdl_readWord S74 (S74.1 14) (1 : Int32)) (fun r76 S77 => bs (f_Mdl_far S77 ((((S74.1 5) <<< ((16 : Int32) &&& 31)) + r76) + (0 : Int32))) (fun S79 => ((1 : Int32), S79))))) else (if x1 = (7 : Int32) then (bs (f_Mdl_direct S (0 : Int32)) (fun S44 => bn (f_Mdl_readWord S44 (S44.1 14) (1 : Int32)) (fun r46 S47 => bn (f_Mdl_read S47 (((S47.1 14) + (2 : Int32)) &&& (65535 : Int32))) (fun r49 S50 => bs (f_Mdl_far S50 (((r49 <<< ((16 : Int32) &&& 31)) + r46) + (0 : Int32))) (fun S52 => ((1 : Int32), S52)))))) else (if x1 = (23 : Int32) then (bs (f_Mdl_direct S (0 : Int32)) (fun S64 => bn (f_Mdl_readWord S64 (S64.1 14) (1 : Int32)) (fun r66 S67 => bn (f_Mdl_read S67 (((S67.1 14) + (2 : Int32)) &&& (65535 : Int32))) (fun r69 S70 => bs (f_Mdl_far S70 (((r69 <<< ((16 : Int32) &&& 31)) + r66) + (S70.1 2))) (fun S72 => ((1 : Int32), S72)))))) else (if x1 = (19 : Int32) then (bn (f_Mdl_next S) (fun r56 S57 => bn (f_Mdl_readWord (pr S57 14 ((((S.1 3) + r56) &&& (65535 : Int32)))) (((S.1 3) + r56) &&& (65535 : Int32)) (1 : Int32)) (fun r59 S60 => bs (f_Mdl_far S60 ((((S57.1 5) <<< ((16 : Int32) &&& 31)) + r59) + (S60.1 2))) (fun S62 => ((1 : Int32), S62))))) else (((0 : Int32), S)))))))))))))))
def f_Mdl_load (S : Sc) (x1 : Int32) : Int32 × Sc := if x1 = (0 : Int32) then (bn (f_Mdl_readWord S (S.1 14) (S.1 15)) (fun r2 S3 => (r2, S3))) else (bn (f_Mdl_read S (S.1 14)) (fun r5 S6 => (r5, S6)))
def f_Mdl_store (S : Sc) (x1 x2 : Int32) : Sc := bs (f_Mdl_write S (S.1 14) x1) (fun S1 => if x2 = (0 : Int32) then (bs (f_Mdl_write S1 (f_Mdl_after (S1.1 14) (S1.1 15)) (x1 >>> ((8 : Int32) &&& 31))) (fun S4 => S4)) else (S1))
def f_Mdl_immediate (S : Sc) (x1 : Int32) : Int32 × Sc := if x1 = (0 : Int32) then (bn (f_Mdl_nextWord S) (fun r2 S3 => (r2, S3))) else (bn (f_Mdl_next S) (fun r5 S6 => (r5, S6)))
def f_Mdl_add (S : Sc) (x1 : Int32) : Sc := if (f_Mdl_is S (1 : Int32)) = (0 : Int32) then (if (f_Mdl_is S (32 : Int32)) = (0 : Int32) then (if (((f_Mdl_accumulator S) + x1) + (0 : Int32)) ≤ (65535 : Int32) then (bs (f_Mdl_flag S (1 : Int32) (0 : Int32)) (fun S4 => if ((((f_Mdl_accumulator S) ^^^ (((f_Mdl_accumulator S) + x1) + (0 : Int32))) &&& (x1 ^^^ (((f_Mdl_accumulator S) + x1) + (0 : Int32)))) &&& (32768 : Int32)) = (0 : Int32) then (bs (f_Mdl_flag S4 (64 : Int32) (0 : Int32)) (fun S7 => bn (f_Mdl_result S7 (((f_Mdl_accumulator S) + x1) + (0 : Int32)) (f_Mdl_is S (32 : Int32))) (fun r9 S10 => bs (f_Mdl_setAccumulator S10 r9) (fun S12 => S12)))) else (bs (f_Mdl_flag S4 (64 : Int32) (1 : Int32)) (fun S14 => bn (f_Mdl_result S14 (((f_Mdl_accumulator S) + x1) + (0 : Int32)) (f_Mdl_is S (32 : Int32))) (fun r16 S17 => bs (f_Mdl_setAccumulator S17 r16) (fun S19 => S19)))))) else (bs (f_Mdl_flag S (1 : Int32) (1 : Int32)) (fun S21 => if ((((f_Mdl_accumulator S) ^^^ (((f_Mdl_accumulator S) + x1) + (0 : Int32))) &&& (x1 ^^^ (((f_Mdl_accumulator S) + x1) + (0 : Int32)))) &&& (32768 : Int32)) = (0 : Int32) then (bs (f_Mdl_flag S21 (64 : Int32) (0 : Int32)) (fun S24 => bn (f_Mdl_result S24 (((f_Mdl_accumulator S) + x1) + (0 : Int32)) (f_Mdl_is S (32 : Int32))) (fun r26 S27 => bs (f_Mdl_setAccumulator S27 r26) (fun S29 => S29)))) else (bs (f_Mdl_flag S21 (64 : Int32) (1 : Int32)) (fun S31 => bn (f_Mdl_result S31 (((f_Mdl_accumulator S) + x1) + (0 : Int32)) (f_Mdl_is S (32 : Int32))) (fun r33 S34 => bs (f_Mdl_setAccumulator S34 r33) (fun S36 => S36))))))) else (if (((f_Mdl_accumulator S) + x1) + (0 : Int32)) ≤ (255 : Int32) then (bs (f_Mdl_flag S (1 : Int32) (0 : Int32)) (fun S39 => if ((((f_Mdl_accumulator S) ^^^ (((f_Mdl_accumulator S) + x1) + (0 : Int32))) &&& (x1 ^^^ (((f_Mdl_accumulator S) + x1) + (0 : Int32)))) &&& (128 : Int32)) = (0 : Int32) then (bs (f_Mdl_flag S39 (64 : Int32) (0 : Int32)) (fun S42 => bn (f_Mdl_result S42 (((f_Mdl_accumulator S) + x1) + (0 : Int32)) (f_Mdl_is S (32 : Int32))) (fun r44 S45 => bs (f_Mdl_setAccumulator S45 r44) (fun S47 => S47)))) else (bs (f_Mdl_flag S39 (64 : Int32) (1 : Int32)) (fun S49 => bn (f_Mdl_result S49 (((f_Mdl_accumulator S) + x1) + (0 : Int32)) (f_Mdl_is S (32 : Int32))) (fun r51 S52 => bs (f_Mdl_setAccumulator S52 r51) (fun S54 => S54)))))) else (bs (f_Mdl_flag S (1 : Int32) (1 : Int32)) (fun S56 => if ((((f_Mdl_accumulator S) ^^^ (((f_Mdl_accumulator S) + x1) + (0 : Int32))) &&& (x1 ^^^ (((f_Mdl_accumulator S) + x1) + (0 : Int32)))) &&& (128 : Int32)) = (0 : Int32) then (bs (f_Mdl_flag S56 (64 : Int32) (0 : Int32)) (fun S59 => bn (f_Mdl_result S59 (((f_Mdl_accumulator S) + x1) + (0 : Int32)) (f_Mdl_is S (32 : Int32))) (fun r61 S62 => bs (f_Mdl_setAccumulator S62 r61) (fun S64 => S64)))) else (bs (f_Mdl_flag S56 (64 : Int32) (1 : Int32)) (fun S66 => bn (f_Mdl_result S66 (((f_Mdl_accumulator S) + x1) + (0 : Int32)) (f_Mdl_is S (32 : Int32))) (fun r68 S69 => bs (f_Mdl_setAccumulator S69 r68) (fun S71 => S71)))))))) else (if (f_Mdl_is S (32 : Int32)) = (0 : Int32) then (if (((f_Mdl_accumulator S) + x1) + (1 : Int32)) ≤ (65535 : Int32) then (bs (f_Mdl_flag S (1 : Int32) (0 : Int32)) (fun S75 => if ((((f_Mdl_accumulator S) ^^^ (((f_Mdl_accumulator S) + x1) + (1 : Int32))) &&& (x1 ^^^ (((f_Mdl_accumulator S) + x1) + (1 : Int32)))) &&& (32768 : Int32)) = (0 : Int32) then (bs (f_Mdl_flag S75 (64 : Int32) (0 : Int32)) (fun S78 => bn (f_Mdl_result S78 (((f_Mdl_accumulator S) + x1) + (1 : Int32)) (f_Mdl_is S (32 : Int32))) (fun r80 S81 => bs (f_Mdl_setAccumulator S81 r80) (fun S83 => S83)))) else (bs (f_Mdl_flag S75 (64 : Int32) (1 : Int32)) (fun S85 => bn (f_Mdl_result S85 (((f_Mdl_accumulator S) + x1) + (1 : Int32)) (f_Mdl_is S (32 : Int32))) (fun r87 S88 => bs (f_Mdl_setAccumulator S88 r87) (fun S90 => S90)))))) else (bs (f_Mdl_flag S (1 : Int32) (1 : Int32)) (fun S92 => if ((((f_Mdl_accumulator S) ^^^ (((f_Mdl_accumulator S) + x1) + (1 : Int32))) &&& (x1 ^^^ (((f_Mdl_accumulator S) + x1) + (1 : Int32)))) &&& (32768 : Int32)) = (0 : Int32) then (bs (f_Mdl_flag S92 (64 : Int32) (0 : Int32)) (fun S95 => bn (f_Mdl_result S95 (((f_Mdl_accumulator S) + x1) + (1 : Int32)) (f_Mdl_is S (32 : Int32))) (fun r97 S98 => bs (f_Mdl_setAccumulator S98 r97) (fun S100 => S100)))) else (bs (f_Mdl_flag S92 (64 : Int32) (1 : Int32)) (fun S102 => bn (f_Mdl_result S102 (((f_Mdl_accumulator S) + x1) + (1 : Int32)) (f_Mdl_is S (32 : Int32))) (fun r104 S105 => bs (f_Mdl_setAccumulator S105 r104) (fun S107 => S107))))))) else (if (((f_Mdl_accumulator S) + x1) + (1 : Int32)) ≤ (255 : Int32) then (bs (f_Mdl_flag S (1 : Int32) (0 : Int32)) (fun S110 => if ((((f_Mdl_accumulator S) ^^^ (((f_Mdl_accumulator S) + x1) + (1 : Int32))) &&& (x1 ^^^ (((f_Mdl_accumulator S) + x1) + (1 : Int32)))) &&& (128 : Int32)) = (0 : Int32) then (bs (f_Mdl_flag S110 (64 : Int32) (0 : Int32)) (fun S113 => bn (f_Mdl_result S113 (((f_Mdl_accumulator S) + x1) + (1 : Int32)) (f_Mdl_is S (32 : Int32))) (fun r115 S116 => bs (f_Mdl_setAccumulator S116 r115) (fun S118 => S118)))) else (bs (f_Mdl_flag S110 (64 : Int32) (1 : Int32)) (fun S120 => bn (f_Mdl_result S120 (((f_Mdl_accumulator S) + x1) + (1 : Int32)) (f_Mdl_is S (32 : Int32))) (fun r122 S123 => bs (f_Mdl_setAccumulator S123 r122) (fun S125 => S125)))))) else (bs (f_Mdl_flag S (1 : Int32) (1 : Int32)) (fun S127 => if ((((f_Mdl_accumulator S) ^^^ (((f_Mdl_accumulator S) + x1) + (1 : Int32))) &&& (x1 ^^^ (((f_Mdl_accumulator S) + x1) + (1 : Int32)))) &&& (128 : Int32)) = (0 : Int32) then (bs (f_Mdl_flag S127 (64 : Int32) (0 : Int32)) (fun S130 => bn (f_Mdl_result S130 (((f_Mdl_accumulator S) + x1) + (1 : Int32)) (f_Mdl_is S (32 : Int32))) (fun r132 S133 => bs (f_Mdl_setAccumulator S133 r132) (fun S135 => S135)))) else (bs (f_Mdl_flag S127 (64 : Int32) (1 : Int32)) (fun S137 => bn (f_Mdl_result S137 (((f_Mdl_accumulator S) + x1) + (1 : Int32)) (f_Mdl_is S (32 : Int32))) (fun r139 S140 => bs (f_Mdl_setAccumulator S140 r139) (fun S142 => S142))))))))
def f_Mdl_compare (S : Sc) (x1 x2 x3 : Int32) : Sc := bn (f_Mdl_result S (x1 - x2) x3) (fun r1 S2 => if x1 < x2 then (bs (f_Mdl_flag S2 (1 : Int32) (0 : Int32)) (fun S5 => S5)) else (bs (f_Mdl_flag S2 (1 : Int32) (1 : Int32)) (fun S7 => S7)))
def f_Mdl_arithmetic (S : Sc) (x1 : Int32) : Int32 × Sc := if (x1 &&& (31 : Int32)) = (9 : Int32) then (if (x1 >>> ((5 : Int32) &&& 31)) = (4 : Int32) then (((0 : Int32), S)) else (bn (f_Mdl_immediate S (f_Mdl_is S (32 : Int32))) (fun r45 S46 => if (x1 >>> ((5 : Int32) &&& 31)) = (3 : Int32) then (bs (f_Mdl_add S46 r45) (fun S78 => ((1 : Int32), S78))) else (if (x1 >>> ((5 : Int32) &&& 31)) = (7 : Int32) then (bs (f_Mdl_add S46 (f_Mdl_cut (r45 ^^^ (-1 : Int32)) (f_Mdl_is S (32 : Int32)))) (fun S76 => ((1 : Int32), S76))) else (if (x1 >>> ((5 : Int32) &&& 31)) = (6 : Int32) then (bs (f_Mdl_compare S46 (f_Mdl_accumulator S46) r45 (f_Mdl_is S (32 : Int32))) (fun S74 => ((1 : Int32), S74))) else (if (x1 >>> ((5 : Int32) &&& 31)) = (0 : Int32) then (bn (f_Mdl_result S46 ((f_Mdl_accumulator S46) ||| r45) (f_Mdl_is S (32 : Int32))) (fun r69 S70 => bs (f_Mdl_setAccumulator S70 r69) (fun S72 => ((1 : Int32), S72)))) else (if (x1 >>> ((5 : Int32) &&& 31)) = (1 : Int32) then (bn (f_Mdl_result S46 ((f_Mdl_accumulator S46) &&& r45) (f_Mdl_is S (32 : Int32))) (fun r64 S65 => bs (f_Mdl_setAccumulator S65 r64) (fun S67 => ((1 : Int32), S67)))) else (if (x1 >>> ((5 : Int32) &&& 31)) = (2 : Int32) then (bn (f_Mdl_result S46 ((f_Mdl_accumulator S46) ^^^ r45) (f_Mdl_is S (32 : Int32))) (fun r59 S60 => bs (f_Mdl_setAccumulator S60 r59) (fun S62 => ((1 : Int32), S62)))) else (bn (f_Mdl_result S46 r45 (f_Mdl_is S (32 : Int32))) (fun r54 S55 => bs (f_Mdl_setAccumulator S55 r54) (fun S57 => ((1 : Int32), S57)))))))))))) else (bn (f_Mdl_find S (x1 &&& (31 : Int32))) (fun r2 S3 => if r2 = (0 : Int32) then (((0 : Int32), S3)) else (if (x1 >>> ((5 : Int32) &&& 31)) = (4 : Int32) then (bs (f_Mdl_store S3 (f_Mdl_accumulator S3) (f_Mdl_is S (32 : Int32))) (fun S42 => ((1 : Int32), S42))) else (bn (f_Mdl_load S3 (f_Mdl_is S (32 : Int32))) (fun r7 S8 => if (x1 >>> ((5 : Int32) &&& 31)) = (3 : Int32) then (bs (f_Mdl_add S8 r7) (fun S40 => ((1 : Int32), S40))) else (if (x1 >>> ((5 : Int32) &&& 31)) = (7 : Int32) then (bs (f_Mdl_add S8 (f_Mdl_cut (r7 ^^^ (-1 : Int32)) (f_Mdl_is S (32 : Int32)))) (fun S38 => ((1 : Int32), S38))) else (if (x1 >>> ((5 : Int32) &&& 31)) = (6 : Int32) then (bs (f_Mdl_compare S8 (f_Mdl_accumulator S8) r7 (f_Mdl_is S (32 : Int32))) (fun S36 => ((1 : Int32), S36))) else (if (x1 >>> ((5 : Int32) &&& 31)) = (0 : Int32) then (bn (f_Mdl_result S8 ((f_Mdl_accumulator S8) ||| r7) (f_Mdl_is S (32 : Int32))) (fun r31 S32 => bs (f_Mdl_setAccumulator S32 r31) (fun S34 => ((1 : Int32), S34)))) else (if (x1 >>> ((5 : Int32) &&& 31)) = (1 : Int32) then (bn (f_Mdl_result S8 ((f_Mdl_accumulator S8) &&& r7) (f_Mdl_is S (32 : Int32))) (fun r26 S27 => bs (f_Mdl_setAccumulator S27 r26) (fun S29 => ((1 : Int32), S29)))) else (if (x1 >>> ((5 : Int32) &&& 31)) = (2 : Int32) then (bn (f_Mdl_result S8 ((f_Mdl_accumulator S8) ^^^ r7) (f_Mdl_is S (32 : Int32))) (fun r21 S22 => bs (f_Mdl_setAccumulator S22 r21) (fun S24 => ((1 : Int32), S24)))) else (bn (f_Mdl_result S8 r7 (f_Mdl_is S (32 : Int32))) (fun r16 S17 => bs (f_Mdl_setAccumulator S17 r16) (fun S19 => ((1 : Int32), S19))))))))))))))
def f_Mdl_changed (S : Sc) (x1 x2 x3 : Int32) : Int32 × Sc := if x3 = (0 : Int32) then (if (f_Mdl_is S (1 : Int32)) = (0 : Int32) then (if (2 : Int32) ≤ x1 then (if (4 : Int32) ≤ x1 then (if (x2 &&& (1 : Int32)) = (0 : Int32) then (bs (f_Mdl_flag S (1 : Int32) (0 : Int32)) (fun S6 => if x1 = (5 : Int32) then (bn (f_Mdl_result S6 ((x2 / (2 : Int32)) + ((0 : Int32) * (32768 : Int32))) x3) (fun r12 S13 => (r12, S13))) else (bn (f_Mdl_result S6 ((x2 / (2 : Int32)) + (0 : Int32)) x3) (fun r9 S10 => (r9, S10))))) else (bs (f_Mdl_flag S (1 : Int32) (1 : Int32)) (fun S15 => if x1 = (5 : Int32) then (bn (f_Mdl_result S15 ((x2 / (2 : Int32)) + ((0 : Int32) * (32768 : Int32))) x3) (fun r21 S22 => (r21, S22))) else (bn (f_Mdl_result S15 ((x2 / (2 : Int32)) + (0 : Int32)) x3) (fun r18 S19 => (r18, S19)))))) else (if (x2 &&& (32768 : Int32)) = (0 : Int32) then (bs (f_Mdl_flag S (1 : Int32) (0 : Int32)) (fun S25 => if x1 = (3 : Int32) then (bn (f_Mdl_result S25 (((2 : Int32) * x2) + (0 : Int32)) x3) (fun r31 S32 => (r31, S32))) else (bn (f_Mdl_result S25 (((2 : Int32) * x2) + (0 : Int32)) x3) (fun r28 S29 => (r28, S29))))) else (bs (f_Mdl_flag S (1 : Int32) (1 : Int32)) (fun S34 => if x1 = (3 : Int32) then (bn (f_Mdl_result S34 (((2 : Int32) * x2) + (0 : Int32)) x3) (fun r40 S41 => (r40, S41))) else (bn (f_Mdl_result S34 (((2 : Int32) * x2) + (0 : Int32)) x3) (fun r37 S38 => (r37, S38))))))) else (if x1 = (0 : Int32) then (bn (f_Mdl_result S (x2 + (1 : Int32)) x3) (fun r47 S48 => (r47, S48))) else (bn (f_Mdl_result S (x2 - (1 : Int32)) x3) (fun r44 S45 => (r44, S45))))) else (if (2 : Int32) ≤ x1 then (if (4 : Int32) ≤ x1 then (if (x2 &&& (1 : Int32)) = (0 : Int32) then (bs (f_Mdl_flag S (1 : Int32) (0 : Int32)) (fun S53 => if x1 = (5 : Int32) then (bn (f_Mdl_result S53 ((x2 / (2 : Int32)) + ((1 : Int32) * (32768 : Int32))) x3) (fun r59 S60 => (r59, S60))) else (bn (f_Mdl_result S53 ((x2 / (2 : Int32)) + (0 : Int32)) x3) (fun r56 S57 => (r56, S57))))) else (bs (f_Mdl_flag S (1 : Int32) (1 : Int32)) (fun S62 => if x1 = (5 : Int32) then (bn (f_Mdl_result S62 ((x2 / (2 : Int32)) + ((1 : Int32) * (32768 : Int32))) x3) (fun r68 S69 => (r68, S69))) else (bn (f_Mdl_result S62 ((x2 / (2 : Int32)) + (0 : Int32)) x3) (fun r65 S66 => (r65, S66)))))) else (if (x2 &&& (32768 : Int32)) = (0 : Int32) then (bs (f_Mdl_flag S (1 : Int32) (0 : Int32)) (fun S72 => if x1 = (3 : Int32) then (bn (f_Mdl_result S72 (((2 : Int32) * x2) + (1 : Int32)) x3) (fun r78 S79 => (r78, S79))) else (bn (f_Mdl_result S72 (((2 : Int32) * x2) + (0 : Int32)) x3) (fun r75 S76 => (r75, S76))))) else (bs (f_Mdl_flag S (1 : Int32) (1 : Int32)) (fun S81 => if x1 = (3 : Int32) then (bn (f_Mdl_result S81 (((2 : Int32) * x2) + (1 : Int32)) x3) (fun r87 S88 => (r87, S88))) else (bn (f_Mdl_result S81 (((2 : Int32) * x2) + (0 : Int32)) x3) (fun r84 S85 => (r84, S85))))))) else (if x1 = (0 : Int32) then (bn (f_Mdl_result S (x2 + (1 : Int32)) x3) (fun r94 S95 => (r94, S95))) else (bn (f_Mdl_result S (x2 - (1 : Int32)) x3) (fun r91 S92 => (r91, S92)))))) else (if (f_Mdl_is S (1 : Int32)) = (0 : Int32) then (if (2 : Int32) ≤ x1 then (if (4 : Int32) ≤ x1 then (if (x2 &&& (1 : Int32)) = (0 : Int32) then (bs (f_Mdl_flag S (1 : Int32) (0 : Int32)) (fun S101 => if x1 = (5 : Int32) then (bn (f_Mdl_result S101 ((x2 / (2 : Int32)) + ((0 : Int32) * (128 : Int32))) x3) (fun r107 S108 => (r107, S108))) else (bn (f_Mdl_result S101 ((x2 / (2 : Int32)) + (0 : Int32)) x3) (fun r104 S105 => (r104, S105))))) else (bs (f_Mdl_flag S (1 : Int32) (1 : Int32)) (fun S110 => if x1 = (5 : Int32) then (bn (f_Mdl_result S110 ((x2 / (2 : Int32)) + ((0 : Int32) * (128 : Int32))) x3) (fun r116 S117 => (r116, S117))) else (bn (f_Mdl_result S110 ((x2 / (2 : Int32)) + (0 : Int32)) x3) (fun r113 S114 => (r113, S114)))))) else (if (x2 &&& (128 : Int32)) = (0 : Int32) then (bs (f_Mdl_flag S (1 : Int32) (0 : Int32)) (fun S120 => if x1 = (3 : Int32) then (bn (f_Mdl_result S120 (((2 : Int32) * x2) + (0 : Int32)) x3) (fun r126 S127 => (r126, S127))) else (bn (f_Mdl_result S120 (((2 : Int32) * x2) + (0 : Int32)) x3) (fun r123 S124 => (r123, S124))))) else (bs (f_Mdl_flag S (1 : Int32) (1 : Int32)) (fun S129 => if x1 = (3 : Int32) then (bn (f_Mdl_result S129 (((2 : Int32) * x2) + (0 : Int32)) x3) (fun r135 S136 => (r135, S136))) else (bn (f_Mdl_result S129 (((2 : Int32) * x2) + (0 : Int32)) x3) (fun r132 S133 => (r132, S133))))))) else (if x1 = (0 : Int32) then (bn (f_Mdl_result S (x2 + (1 : Int32)) x3) (fun r142 S143 => (r142, S143))) else (bn (f_Mdl_result S (x2 - (1 : Int32)) x3) (fun r139 S140 => (r139, S140))))) else (if (2 : Int32) ≤ x1 then (if (4 : Int32) ≤ x1 then (if (x2 &&& (1 : Int32)) = (0 : Int32) then (bs (f_Mdl_flag S (1 : Int32) (0 : Int32)) (fun S148 => if x1 = (5 : Int32) then (bn (f_Mdl_result S148 ((x2 / (2 : Int32)) + ((1 : Int32) * (128 : Int32))) x3) (fun r154 S155 => (r154, S155))) else (bn (f_Mdl_result S148 ((x2 / (2 : Int32)) + (0 : Int32)) x3) (fun r151 S152 => (r151, S152))))) else (bs (f_Mdl_flag S (1 : Int32) (1 : Int32)) (fun S157 => if x1 = (5 : Int32) then (bn (f_Mdl_result S157 ((x2 / (2 : Int32)) + ((1 : Int32) * (128 : Int32))) x3) (fun r163 S164 => (r163, S164))) else (bn (f_Mdl_result S157 ((x2 / (2 : Int32)) + (0 : Int32)) x3) (fun r160 S161 => (r160, S161)))))) else (if (x2 &&& (128 : Int32)) = (0 : Int32) then (bs (f_Mdl_flag S (1 : Int32) (0 : Int32)) (fun S167 => if x1 = (3 : Int32) then (bn (f_Mdl_result S167 (((2 : Int32) * x2) + (1 : Int32)) x3) (fun r173 S174 => (r173, S174))) else (bn (f_Mdl_result S167 (((2 : Int32) * x2) + (0 : Int32)) x3) (fun r170 S171 => (r170, S171))))) else (bs (f_Mdl_flag S (1 : Int32) (1 : Int32)) (fun S176 => if x1 = (3 : Int32) then (bn (f_Mdl_result S176 (((2 : Int32) * x2) + (1 : Int32)) x3) (fun r182 S183 => (r182, S183))) else (bn (f_Mdl_result S176 (((2 : Int32) * x2) + (0 : Int32)) x3) (fun r179 S180 => (r179, S180))))))) else (if x1 = (0 : Int32) then (bn (f_Mdl_result S (x2 + (1 : Int32)) x3) (fun r189 S190 => (r189, S190))) else (bn (f_Mdl_result S (x2 - (1 : Int32)) x3) (fun r186 S187 => (r186, S187))))))
def f_Mdl_changeMemory (S : Sc) (x1 x2 : Int32) : Sc := if x2 = (0 : Int32) then (bs (f_Mdl_direct S (0 : Int32)) (fun S2 => bn (f_Mdl_load S2 (f_Mdl_is S (32 : Int32))) (fun r4 S5 => bn (f_Mdl_changed S5 x1 r4 (f_Mdl_is S (32 : Int32))) (fun r7 S8 => bs (f_Mdl_store S8 r7 (f_Mdl_is S (32 : Int32))) (fun S10 => S10))))) else (bn (f_Mdl_nextWord S) (fun r12 S13 => bs (f_Mdl_far S13 (((S.1 5) <<< ((16 : Int32) &&& 31)) + r12)) (fun S15 => bn (f_Mdl_load S15 (f_Mdl_is S (32 : Int32))) (fun r17 S18 => bn (f_Mdl_changed S18 x1 r17 (f_Mdl_is S (32 : Int32))) (fun r20 S21 => bs (f_Mdl_store S21 r20 (f_Mdl_is S (32 : Int32))) (fun S23 => S23))))))
def f_Mdl_change (S : Sc) (x1 : Int32) : Int32 × Sc := if x1 = (6 : Int32) then (bs (f_Mdl_changeMemory S (2 : Int32) (0 : Int32)) (fun S2 => ((1 : Int32), S2))) else (if x1 = (10 : Int32) then (bn (f_Mdl_changed S (2 : Int32) (f_Mdl_accumulator S) (f_Mdl_is S (32 : Int32))) (fun r5 S6 => bs (f_Mdl_setAccumulator S6 r5) (fun S8 => ((1 : Int32), S8)))) else (if x1 = (26 : Int32) then (bn (f_Mdl_changed S (0 : Int32) (f_Mdl_accumulator S) (f_Mdl_is S (32 : Int32))) (fun r11 S12 => bs (f_Mdl_setAccumulator S12 r11) (fun S14 => ((1 : Int32), S14)))) else (if x1 = (38 : Int32) then (bs (f_Mdl_changeMemory S (3 : Int32) (0 : Int32)) (fun S17 => ((1 : Int32), S17))) else (if x1 = (42 : Int32) then (bn (f_Mdl_changed S (3 : Int32) (f_Mdl_accumulator S) (f_Mdl_is S (32 : Int32))) (fun r20 S21 => bs (f_Mdl_setAccumulator S21 r20) (fun S23 => ((1 : Int32), S23)))) else (if x1 = (58 : Int32) then (bn (f_Mdl_changed S (1 : Int32) (f_Mdl_accumulator S) (f_Mdl_is S (32 : Int32))) (fun r26 S27 => bs (f_Mdl_setAccumulator S27 r26) (fun S29 => ((1 : Int32), S29)))) else (if x1 = (70 : Int32) then (bs (f_Mdl_changeMemory S (4 : Int32) (0 : Int32)) (fun S32 => ((1 : Int32), S32))) else (if x1 = (74 : Int32) then (bn (f_Mdl_changed S (4 : Int32) (f_Mdl_accumulator S) (f_Mdl_is S (32 : Int32))) (fun r35 S36 => bs (f_Mdl_setAccumulator S36 r35) (fun S38 => ((1 : Int32), S38)))) else (if x1 = (102 : Int32) then (bs (f_Mdl_changeMemory S (5 : Int32) (0 : Int32)) (fun S41 => ((1 : Int32), S41))) else (if x1 = (106 : Int32) then (bn (f_Mdl_changed S (5 : Int32) (f_Mdl_accumulator S) (f_Mdl_is S (32 : Int32))) (fun r44 S45 => bs (f_Mdl_setAccumulator S45 r44) (fun S47 => ((1 : Int32), S47)))) else (if x1 = (198 : Int32) then (bs (f_Mdl_changeMemory S (1 : Int32) (0 : Int32)) (fun S50 => ((1 : Int32), S50))) else (if x1 = (206 : Int32) then (bs (f_Mdl_changeMemory S (1 : Int32) (1 : Int32)) (fun S53 => ((1 : Int32), S53))) else (if x1 = (230 : Int32) then (bs (f_Mdl_changeMemory S (0 : Int32) (0 : Int32)) (fun S56 => ((1 : Int32), S56))) else (if x1 = (238 : Int32) then (bs (f_Mdl_changeMemory S (0 : Int32) (1 : Int32)) (fun S59 => ((1 : Int32), S59))) else (((0 : Int32), S)))))))))))))))
def f_Mdl_findIndex (S : Sc) (x1 : Int32) : Sc := if x1 = (0 : Int32) then (bs (f_Mdl_direct S (0 : Int32)) (fun S2 => S2)) else (bn (f_Mdl_nextWord S) (fun r4 S5 => bs (f_Mdl_far S5 (((S.1 5) <<< ((16 : Int32) &&& 31)) + r4)) (fun S7 => S7)))
def f_Mdl_indexOperand (S : Sc) (x1 : Int32) : Int32 × Sc := if (x1 &&& (15 : Int32)) = (0 : Int32) then (bn (f_Mdl_immediate S (f_Mdl_is S (16 : Int32))) (fun r2 S3 => (r2, S3))) else (if (x1 &&& (15 : Int32)) = (2 : Int32) then (bn (f_Mdl_immediate S (f_Mdl_is S (16 : Int32))) (fun r17 S18 => (r17, S18))) else (if (x1 &&& (8 : Int32)) = (0 : Int32) then (bs (f_Mdl_findIndex S (0 : Int32)) (fun S7 => bn (f_Mdl_load S7 (f_Mdl_is S7 (16 : Int32))) (fun r9 S10 => (r9, S10)))) else (bs (f_Mdl_findIndex S (1 : Int32)) (fun S12 => bn (f_Mdl_load S12 (f_Mdl_is S12 (16 : Int32))) (fun r14 S15 => (r14, S15))))))
def f_Mdl_storeAt (S : Sc) (x1 x2 x3 : Int32) : Sc := bs (f_Mdl_findIndex S x1) (fun S1 => bs (f_Mdl_store S1 x2 x3) (fun S3 => S3))
def f_Mdl_index (S : Sc) (x1 : Int32) : Int32 × Sc := if x1 = (100 : Int32) then (bs (f_Mdl_storeAt S (0 : Int32) (0 : Int32) (f_Mdl_is S (32 : Int32))) (fun S2 => ((1 : Int32), S2))) else (if x1 = (132 : Int32) then (bs (f_Mdl_storeAt S (0 : Int32) (S.1 2) (f_Mdl_is S (16 : Int32))) (fun S5 => ((1 : Int32), S5))) else (if x1 = (134 : Int32) then (bs (f_Mdl_storeAt S (0 : Int32) (S.1 1) (f_Mdl_is S (16 : Int32))) (fun S8 => ((1 : Int32), S8))) else (if x1 = (136 : Int32) then (bn (f_Mdl_result S ((S.1 2) - (1 : Int32)) (f_Mdl_is S (16 : Int32))) (fun r11 S12 => ((1 : Int32), (pr S12 2 (r11))))) else (if x1 = (140 : Int32) then (bs (f_Mdl_storeAt S (1 : Int32) (S.1 2) (f_Mdl_is S (16 : Int32))) (fun S15 => ((1 : Int32), S15))) else (if x1 = (142 : Int32) then (bs (f_Mdl_storeAt S (1 : Int32) (S.1 1) (f_Mdl_is S (16 : Int32))) (fun S18 => ((1 : Int32), S18))) else (if x1 = (156 : Int32) then (bs (f_Mdl_storeAt S (1 : Int32) (0 : Int32) (f_Mdl_is S (32 : Int32))) (fun S21 => ((1 : Int32), S21))) else (if x1 = (160 : Int32) then (bn (f_Mdl_indexOperand S x1) (fun r24 S25 => bn (f_Mdl_result S25 r24 (f_Mdl_is S (16 : Int32))) (fun r27 S28 => ((1 : Int32), (pr S28 2 (r27)))))) else (if x1 = (162 : Int32) then (bn (f_Mdl_indexOperand S x1) (fun r31 S32 => bn (f_Mdl_result S32 r31 (f_Mdl_is S (16 : Int32))) (fun r34 S35 => ((1 : Int32), (pr S35 1 (r34)))))) else (if x1 = (164 : Int32) then (bn (f_Mdl_indexOperand S x1) (fun r38 S39 => bn (f_Mdl_result S39 r38 (f_Mdl_is S (16 : Int32))) (fun r41 S42 => ((1 : Int32), (pr S42 2 (r41)))))) else (if x1 = (166 : Int32) then (bn (f_Mdl_indexOperand S x1) (fun r45 S46 => bn (f_Mdl_result S46 r45 (f_Mdl_is S (16 : Int32))) (fun r48 S49 => ((1 : Int32), (pr S49 1 (r48)))))) else (if x1 = (172 : Int32) then (bn (f_Mdl_indexOperand S x1) (fun r52 S53 => bn (f_Mdl_result S53 r52 (f_Mdl_is S (16 : Int32))) (fun r55 S56 => ((1 : Int32), (pr S56 2 (r55)))))) else (if x1 = (174 : Int32) then (bn (f_Mdl_indexOperand S x1) (fun r59 S60 => bn (f_Mdl_result S60 r59 (f_Mdl_is S (16 : Int32))) (fun r62 S63 => ((1 : Int32), (pr S63 1 (r62)))))) else (if x1 = (192 : Int32) then (bn (f_Mdl_immediate S (f_Mdl_is S (16 : Int32))) (fun r66 S67 => bs (f_Mdl_compare S67 (S.1 2) r66 (f_Mdl_is S (16 : Int32))) (fun S69 => ((1 : Int32), S69)))) else (if x1 = (200 : Int32) then (bn (f_Mdl_result S ((S.1 2) + (1 : Int32)) (f_Mdl_is S (16 : Int32))) (fun r72 S73 => ((1 : Int32), (pr S73 2 (r72))))) else (if x1 = (202 : Int32) then (bn (f_Mdl_result S ((S.1 1) - (1 : Int32)) (f_Mdl_is S (16 : Int32))) (fun r76 S77 => ((1 : Int32), (pr S77 1 (r76))))) else (if x1 = (224 : Int32) then (bn (f_Mdl_immediate S (f_Mdl_is S (16 : Int32))) (fun r80 S81 => bs (f_Mdl_compare S81 (S.1 1) r80 (f_Mdl_is S (16 : Int32))) (fun S83 => ((1 : Int32), S83)))) else (if x1 = (232 : Int32) then (bn (f_Mdl_result S ((S.1 1) + (1 : Int32)) (f_Mdl_is S (16 : Int32))) (fun r86 S87 => ((1 : Int32), (pr S87 1 (r86))))) else (((0 : Int32), S)))))))))))))))))))
def f_Mdl_transfer (S : Sc) (x1 : Int32) : Int32 × Sc := if x1 = (27 : Int32) then (((1 : Int32), (pr S 3 (S.1 0)))) else (if x1 = (59 : Int32) then (bn (f_Mdl_result S (S.1 3) (0 : Int32)) (fun r3 S4 => ((1 : Int32), (pr S4 0 (r3))))) else (if x1 = (91 : Int32) then (bn (f_Mdl_result S (S.1 0) (0 : Int32)) (fun r7 S8 => ((1 : Int32), (pr S8 4 (r7))))) else (if x1 = (123 : Int32) then (bn (f_Mdl_result S (S.1 4) (0 : Int32)) (fun r11 S12 => ((1 : Int32), (pr S12 0 (r11))))) else (if x1 = (138 : Int32) then (bn (f_Mdl_result S (S.1 1) (f_Mdl_is S (32 : Int32))) (fun r15 S16 => bs (f_Mdl_setAccumulator S16 r15) (fun S18 => ((1 : Int32), S18)))) else (if x1 = (152 : Int32) then (bn (f_Mdl_result S (S.1 2) (f_Mdl_is S (32 : Int32))) (fun r21 S22 => bs (f_Mdl_setAccumulator S22 r21) (fun S24 => ((1 : Int32), S24)))) else (if x1 = (154 : Int32) then (((1 : Int32), (pr S 3 (S.1 1)))) else (if x1 = (155 : Int32) then (bn (f_Mdl_result S (S.1 1) (f_Mdl_is S (16 : Int32))) (fun r28 S29 => ((1 : Int32), (pr S29 2 (r28))))) else (if x1 = (168 : Int32) then (bn (f_Mdl_result S (S.1 0) (f_Mdl_is S (16 : Int32))) (fun r32 S33 => ((1 : Int32), (pr S33 2 (r32))))) else (if x1 = (170 : Int32) then (bn (f_Mdl_result S (S.1 0) (f_Mdl_is S (16 : Int32))) (fun r36 S37 => ((1 : Int32), (pr S37 1 (r36))))) else (if x1 = (186 : Int32) then (bn (f_Mdl_result S (S.1 3) (f_Mdl_is S (16 : Int32))) (fun r40 S41 => ((1 : Int32), (pr S41 1 (r40))))) else (if x1 = (187 : Int32) then (bn (f_Mdl_result S (S.1 2) (f_Mdl_is S (16 : Int32))) (fun r44 S45 => ((1 : Int32), (pr S45 1 (r44))))) else (if x1 = (235 : Int32) then (bn (f_Mdl_result (pr S 0 ((((S.1 0) >>> ((8 : Int32) &&& 31)) ||| (((S.1 0) &&& (255 : Int32)) <<< ((8 : Int32) &&& 31))))) (((S.1 0) >>> ((8 : Int32) &&& 31)) ||| (((S.1 0) &&& (255 : Int32)) <<< ((8 : Int32) &&& 31))) (1 : Int32)) (fun r48 S49 => ((1 : Int32), S49))) else (((0 : Int32), S))))))))))))))
def f_Mdl_pushOf (S : Sc) (x1 x2 : Int32) : Sc := if x2 = (0 : Int32) then (bs (f_Mdl_pushWord S x1) (fun S2 => S2)) else (bs (f_Mdl_push S x1) (fun S4 => S4))
def f_Mdl_pullOf (S : Sc) (x1 : Int32) : Int32 × Sc := if x1 = (0 : Int32) then (bn (f_Mdl_pullWord S) (fun r2 S3 => bn (f_Mdl_result S3 r2 x1) (fun r5 S6 => (r5, S6)))) else (bn (f_Mdl_pull S) (fun r8 S9 => bn (f_Mdl_result S9 r8 x1) (fun r11 S12 => (r11, S12))))
def f_Mdl_stack (S : Sc) (x1 : Int32) : Int32 × Sc := if x1 = (8 : Int32) then (bs (f_Mdl_push S (S.1 6)) (fun S2 => ((1 : Int32), S2))) else (if x1 = (11 : Int32) then (bs (f_Mdl_pushWord S (S.1 4)) (fun S5 => ((1 : Int32), S5))) else (if x1 = (40 : Int32) then (bn (f_Mdl_pull S) (fun r8 S9 => bs (f_Mdl_setFlags S9 r8) (fun S11 => ((1 : Int32), S11)))) else (if x1 = (43 : Int32) then (bn (f_Mdl_pullOf S (0 : Int32)) (fun r14 S15 => ((1 : Int32), (pr S15 4 (r14))))) else (if x1 = (72 : Int32) then (bs (f_Mdl_pushOf S (f_Mdl_accumulator S) (f_Mdl_is S (32 : Int32))) (fun S18 => ((1 : Int32), S18))) else (if x1 = (75 : Int32) then (bs (f_Mdl_push S (S.1 7)) (fun S21 => ((1 : Int32), S21))) else (if x1 = (90 : Int32) then (bs (f_Mdl_pushOf S (S.1 2) (f_Mdl_is S (16 : Int32))) (fun S24 => ((1 : Int32), S24))) else (if x1 = (104 : Int32) then (bn (f_Mdl_pullOf S (f_Mdl_is S (32 : Int32))) (fun r27 S28 => bs (f_Mdl_setAccumulator S28 r27) (fun S30 => ((1 : Int32), S30)))) else (if x1 = (122 : Int32) then (bn (f_Mdl_pullOf S (f_Mdl_is S (16 : Int32))) (fun r33 S34 => ((1 : Int32), (pr S34 2 (r33))))) else (if x1 = (139 : Int32) then (bs (f_Mdl_push S (S.1 5)) (fun S37 => ((1 : Int32), S37))) else (if x1 = (171 : Int32) then (bn (f_Mdl_pullOf S (1 : Int32)) (fun r40 S41 => ((1 : Int32), (pr S41 5 (r40))))) else (if x1 = (218 : Int32) then (bs (f_Mdl_pushOf S (S.1 1) (f_Mdl_is S (16 : Int32))) (fun S44 => ((1 : Int32), S44))) else (if x1 = (244 : Int32) then (bn (f_Mdl_nextWord S) (fun r47 S48 => bs (f_Mdl_pushWord S48 r47) (fun S50 => ((1 : Int32), S50)))) else (if x1 = (250 : Int32) then (bn (f_Mdl_pullOf S (f_Mdl_is S (16 : Int32))) (fun r53 S54 => ((1 : Int32), (pr S54 1 (r53))))) else (((0 : Int32), S)))))))))))))))
def f_Mdl_branch (S : Sc) (x1 : Int32) : Sc := bn (f_Mdl_next S) (fun r1 S2 => if r1 ≤ (127 : Int32) then (if x1 = (0 : Int32) then ((pr S2 8 (S2.1 8))) else ((pr S2 8 ((((S2.1 8) + r1) &&& (65535 : Int32)))))) else (if x1 = (0 : Int32) then ((pr S2 8 (S2.1 8))) else ((pr S2 8 ((((S2.1 8) + (r1 - (256 : Int32))) &&& (65535 : Int32)))))))
def f_Mdl_call (S : Sc) (x1 : Int32) : Sc := bs (f_Mdl_pushWord S (((S.1 8) - (1 : Int32)) &&& (65535 : Int32))) (fun S1 => (pr S1 8 ((x1 &&& (65535 : Int32)))))
def f_Mdl_interruptFrom (S : Sc) (x1 : Int32) : Sc := bs (f_Mdl_push S (S.1 7)) (fun S1 => bs (f_Mdl_pushWord S1 (S1.1 8)) (fun S3 => bs (f_Mdl_push S3 (S3.1 6)) (fun S5 => bs (f_Mdl_flag S5 (4 : Int32) (1 : Int32)) (fun S7 => bs (f_Mdl_flag S7 (8 : Int32) (0 : Int32)) (fun S9 => bn (f_Mdl_readWord (pr S9 7 ((0 : Int32))) x1 (1 : Int32)) (fun r11 S12 => (pr S12 8 (r11))))))))
def f_Mdl_longJump (S : Sc) (x1 : Int32) : Int32 × Sc := if x1 = (92 : Int32) then (bn (f_Mdl_nextLong S) (fun r35 S36 => ((1 : Int32), (pr (pr S36 7 ((r35 >>> ((16 : Int32) &&& 31)))) 8 ((r35 &&& (65535 : Int32))))))) else (if x1 = (34 : Int32) then (bn (f_Mdl_nextLong S) (fun r28 S29 => bs (f_Mdl_push S29 (S29.1 7)) (fun S31 => bs (f_Mdl_call S31 r28) (fun S33 => ((1 : Int32), (pr S33 7 ((r28 >>> ((16 : Int32) &&& 31))))))))) else (if x1 = (107 : Int32) then (bn (f_Mdl_pullWord S) (fun r22 S23 => bn (f_Mdl_pull (pr S23 8 (((r22 + (1 : Int32)) &&& (65535 : Int32))))) (fun r25 S26 => ((1 : Int32), (pr S26 7 (r25)))))) else (if x1 = (0 : Int32) then (bn (f_Mdl_next S) (fun r17 S18 => bs (f_Mdl_interruptFrom S18 (486 : Int32)) (fun S20 => ((1 : Int32), S20)))) else (if x1 = (64 : Int32) then (bn (f_Mdl_pull S) (fun r6 S7 => bs (f_Mdl_setFlags S7 r6) (fun S9 => bn (f_Mdl_pullWord S9) (fun r11 S12 => bn (f_Mdl_pull (pr S12 8 (r11))) (fun r14 S15 => ((1 : Int32), (pr S15 7 (r14)))))))) else (((0 : Int32), S))))))
def f_Mdl_jump (S : Sc) (x1 : Int32) : Int32 × Sc := if x1 = (16 : Int32) then (if (f_Mdl_is S (128 : Int32)) = (0 : Int32) then (bs (f_Mdl_branch S (1 : Int32)) (fun S5 => ((1 : Int32), S5))) else (bs (f_Mdl_branch S (0 : Int32)) (fun S3 => ((1 : Int32), S3)))) else (if x1 = (32 : Int32) then (bn (f_Mdl_nextWord S) (fun r8 S9 => bs (f_Mdl_call S9 r8) (fun S11 => ((1 : Int32), S11)))) else (if x1 = (48 : Int32) then (bs (f_Mdl_branch S (f_Mdl_is S (128 : Int32))) (fun S14 => ((1 : Int32), S14))) else (if x1 = (76 : Int32) then (bn (f_Mdl_nextWord S) (fun r17 S18 => ((1 : Int32), (pr S18 8 (r17))))) else (if x1 = (80 : Int32) then (if (f_Mdl_is S (64 : Int32)) = (0 : Int32) then (bs (f_Mdl_branch S (1 : Int32)) (fun S24 => ((1 : Int32), S24))) else (bs (f_Mdl_branch S (0 : Int32)) (fun S22 => ((1 : Int32), S22)))) else (if x1 = (96 : Int32) then (bn (f_Mdl_pullWord S) (fun r27 S28 => ((1 : Int32), (pr S28 8 (((r27 + (1 : Int32)) &&& (65535 : Int32))))))) else (if x1 = (112 : Int32) then (bs (f_Mdl_branch S (f_Mdl_is S (64 : Int32))) (fun S31 => ((1 : Int32), S31))) else (if x1 = (128 : Int32) then (bs (f_Mdl_branch S (1 : Int32)) (fun S34 => ((1 : Int32), S34))) else (if x1 = (130 : Int32) then (bn (f_Mdl_nextWord S) (fun r37 S38 => ((1 : Int32), (pr S38 8 ((((S38.1 8) + r37) &&& (65535 : Int32))))))) else (if x1 = (144 : Int32) then (if (f_Mdl_is S (1 : Int32)) = (0 : Int32) then (bs (f_Mdl_branch S (1 : Int32)) (fun S44 => ((1 : Int32), S44))) else (bs (f_Mdl_branch S (0 : Int32)) (fun S42 => ((1 : Int32), S42)))) else (if x1 = (176 : Int32) then (bs (f_Mdl_branch S (f_Mdl_is S (1 : Int32))) (fun S47 => ((1 : Int32), S47))) else (if x1 = (208 : Int32) then (if (f_Mdl_is S (2 : Int32)) = (0 : Int32) then (bs (f_Mdl_branch S (1 : Int32)) (fun S53 => ((1 : Int32), S53))) else (bs (f_Mdl_branch S (0 : Int32)) (fun S51 => ((1 : Int32), S51)))) else (if x1 = (240 : Int32) then (bs (f_Mdl_branch S (f_Mdl_is S (2 : Int32))) (fun S56 => ((1 : Int32), S56))) else (bn (f_Mdl_longJump S x1) (fun r58 S59 => (r58, S59)))))))))))))))
def f_Mdl_moveBlock (S : Sc) (x1 : Int32) : Sc := bn (f_Mdl_next S) (fun r1 S2 => bn (f_Mdl_next S2) (fun r4 S5 => bn (f_Mdl_read (pr S5 5 (r1)) ((r4 <<< ((16 : Int32) &&& 31)) ||| (S5.1 1))) (fun r7 S8 => bs (f_Mdl_write S8 ((r1 <<< ((16 : Int32) &&& 31)) ||| (S8.1 2)) r7) (fun S10 => if S10.1 0 = (0 : Int32) then ((pr (pr (pr (pr S10 1 ((f_Mdl_cut ((S10.1 1) + x1) (f_Mdl_is S10 (16 : Int32))))) 2 ((f_Mdl_cut ((S10.1 2) + x1) (f_Mdl_is (pr S10 1 ((f_Mdl_cut ((S10.1 1) + x1) (f_Mdl_is S10 (16 : Int32))))) (16 : Int32))))) 8 (S10.1 8)) 0 ((((S10.1 0) - (1 : Int32)) &&& (65535 : Int32))))) else ((pr (pr (pr (pr S10 1 ((f_Mdl_cut ((S10.1 1) + x1) (f_Mdl_is S10 (16 : Int32))))) 2 ((f_Mdl_cut ((S10.1 2) + x1) (f_Mdl_is (pr S10 1 ((f_Mdl_cut ((S10.1 1) + x1) (f_Mdl_is S10 (16 : Int32))))) (16 : Int32))))) 8 ((((S.1 8) - (1 : Int32)) &&& (65535 : Int32)))) 0 ((((S10.1 0) - (1 : Int32)) &&& (65535 : Int32)))))))))
def f_Mdl_other (S : Sc) (x1 : Int32) : Int32 × Sc := if x1 = (24 : Int32) then (bs (f_Mdl_flag S (1 : Int32) (0 : Int32)) (fun S2 => ((1 : Int32), S2))) else (if x1 = (56 : Int32) then (bs (f_Mdl_flag S (1 : Int32) (1 : Int32)) (fun S5 => ((1 : Int32), S5))) else (if x1 = (68 : Int32) then (bs (f_Mdl_moveBlock S (-1 : Int32)) (fun S8 => ((1 : Int32), S8))) else (if x1 = (84 : Int32) then (bs (f_Mdl_moveBlock S (1 : Int32)) (fun S11 => ((1 : Int32), S11))) else (if x1 = (88 : Int32) then (bs (f_Mdl_flag S (4 : Int32) (0 : Int32)) (fun S14 => ((1 : Int32), S14))) else (if x1 = (120 : Int32) then (bs (f_Mdl_flag S (4 : Int32) (1 : Int32)) (fun S17 => ((1 : Int32), S17))) else (if x1 = (184 : Int32) then (bs (f_Mdl_flag S (64 : Int32) (0 : Int32)) (fun S20 => ((1 : Int32), S20))) else (if x1 = (194 : Int32) then (bn (f_Mdl_next S) (fun r23 S24 => bs (f_Mdl_setFlags S24 ((S.1 6) &&& (r23 ^^^ (-1 : Int32)))) (fun S26 => ((1 : Int32), S26)))) else (if x1 = (216 : Int32) then (bs (f_Mdl_flag S (8 : Int32) (0 : Int32)) (fun S29 => ((1 : Int32), S29))) else (if x1 = (226 : Int32) then (bn (f_Mdl_next S) (fun r32 S33 => bs (f_Mdl_setFlags S33 ((S.1 6) ||| r32)) (fun S35 => ((1 : Int32), S35)))) else (if x1 = (234 : Int32) then (((1 : Int32), S)) else (if x1 = (248 : Int32) then (bs (f_Mdl_flag S (8 : Int32) (1 : Int32)) (fun S39 => ((1 : Int32), S39))) else (((0 : Int32), S)))))))))))))
def f_Mdl_step (S : Sc) : Sc := if S.1 10 = (0 : Int32) then (if S.1 11 = (0 : Int32) then (bn (f_Mdl_next (pr S 12 (((S.1 12) + (1 : Int32))))) (fun r3 S4 => if ((r3 &&& (31 : Int32)) &&& (1 : Int32)) = (1 : Int32) then (if (r3 &&& (31 : Int32)) = (11 : Int32) then (bn (f_Mdl_change S4 r3) (fun r37 S38 => if r37 = (0 : Int32) then (bn (f_Mdl_index S38 r3) (fun r41 S42 => if r41 = (0 : Int32) then (bn (f_Mdl_transfer S42 r3) (fun r45 S46 => if r45 = (0 : Int32) then (bn (f_Mdl_stack S46 r3) (fun r49 S50 => if r49 = (0 : Int32) then (bn (f_Mdl_jump S50 r3) (fun r53 S54 => if r53 = (0 : Int32) then (bn (f_Mdl_other S54 r3) (fun r57 S58 => if r57 = (0 : Int32) then ((pr S58 9 ((1 : Int32)))) else ((pr S58 9 ((0 : Int32)))))) else ((pr S54 9 ((0 : Int32)))))) else ((pr S50 9 ((0 : Int32)))))) else ((pr S46 9 ((0 : Int32)))))) else ((pr S42 9 ((0 : Int32)))))) else ((pr S38 9 ((0 : Int32)))))) else (if (r3 &&& (31 : Int32)) = (27 : Int32) then (bn (f_Mdl_change S4 r3) (fun r66 S67 => if r66 = (0 : Int32) then (bn (f_Mdl_index S67 r3) (fun r70 S71 => if r70 = (0 : Int32) then (bn (f_Mdl_transfer S71 r3) (fun r74 S75 => if r74 = (0 : Int32) then (bn (f_Mdl_stack S75 r3) (fun r78 S79 => if r78 = (0 : Int32) then (bn (f_Mdl_jump S79 r3) (fun r82 S83 => if r82 = (0 : Int32) then (bn (f_Mdl_other S83 r3) (fun r86 S87 => if r86 = (0 : Int32) then ((pr S87 9 ((1 : Int32)))) else ((pr S87 9 ((0 : Int32)))))) else ((pr S83 9 ((0 : Int32)))))) else ((pr S79 9 ((0 : Int32)))))) else ((pr S75 9 ((0 : Int32)))))) else ((pr S71 9 ((0 : Int32)))))) else ((pr S67 9 ((0 : Int32)))))) else (bn (f_Mdl_arithmetic S4 r3) (fun r62 S63 => if r62 = (0 : Int32) then ((pr S63 9 ((1 : Int32)))) else ((pr S63 9 ((0 : Int32)))))))) else (if (r3 &&& (31 : Int32)) = (18 : Int32) then (bn (f_Mdl_arithmetic S4 r3) (fun r32 S33 => if r32 = (0 : Int32) then ((pr S33 9 ((1 : Int32)))) else ((pr S33 9 ((0 : Int32)))))) else (bn (f_Mdl_change S4 r3) (fun r8 S9 => if r8 = (0 : Int32) then (bn (f_Mdl_index S9 r3) (fun r12 S13 => if r12 = (0 : Int32) then (bn (f_Mdl_transfer S13 r3) (fun r16 S17 => if r16 = (0 : Int32) then (bn (f_Mdl_stack S17 r3) (fun r20 S21 => if r20 = (0 : Int32) then (bn (f_Mdl_jump S21 r3) (fun r24 S25 => if r24 = (0 : Int32) then (bn (f_Mdl_other S25 r3) (fun r28 S29 => if r28 = (0 : Int32) then ((pr S29 9 ((1 : Int32)))) else ((pr S29 9 ((0 : Int32)))))) else ((pr S25 9 ((0 : Int32)))))) else ((pr S21 9 ((0 : Int32)))))) else ((pr S17 9 ((0 : Int32)))))) else ((pr S13 9 ((0 : Int32)))))) else ((pr S9 9 ((0 : Int32))))))))) else (if (f_Mdl_is (pr S 12 (((S.1 12) + (1 : Int32)))) (4 : Int32)) = (0 : Int32) then (bs (f_Mdl_interruptFrom (pr S 12 (((S.1 12) + (1 : Int32)))) (494 : Int32)) (fun S178 => S178)) else (bn (f_Mdl_next (pr S 12 (((S.1 12) + (1 : Int32))))) (fun r91 S92 => if ((r91 &&& (31 : Int32)) &&& (1 : Int32)) = (1 : Int32) then (if (r91 &&& (31 : Int32)) = (11 : Int32) then (bn (f_Mdl_change S92 r91) (fun r125 S126 => if r125 = (0 : Int32) then (bn (f_Mdl_index S126 r91) (fun r129 S130 => if r129 = (0 : Int32) then (bn (f_Mdl_transfer S130 r91) (fun r133 S134 => if r133 = (0 : Int32) then (bn (f_Mdl_stack S134 r91) (fun r137 S138 => if r137 = (0 : Int32) then (bn (f_Mdl_jump S138 r91) (fun r141 S142 => if r141 = (0 : Int32) then (bn (f_Mdl_other S142 r91) (fun r145 S146 => if r145 = (0 : Int32) then ((pr S146 9 ((1 : Int32)))) else ((pr S146 9 ((0 : Int32)))))) else ((pr S142 9 ((0 : Int32)))))) else ((pr S138 9 ((0 : Int32)))))) else ((pr S134 9 ((0 : Int32)))))) else ((pr S130 9 ((0 : Int32)))))) else ((pr S126 9 ((0 : Int32)))))) else (if (r91 &&& (31 : Int32)) = (27 : Int32) then (bn (f_Mdl_change S92 r91) (fun r154 S155 => if r154 = (0 : Int32) then (bn (f_Mdl_index S155 r91) (fun r158 S159 => if r158 = (0 : Int32) then (bn (f_Mdl_transfer S159 r91) (fun r162 S163 => if r162 = (0 : Int32) then (bn (f_Mdl_stack S163 r91) (fun r166 S167 => if r166 = (0 : Int32) then (bn (f_Mdl_jump S167 r91) (fun r170 S171 => if r170 = (0 : Int32) then (bn (f_Mdl_other S171 r91) (fun r174 S175 => if r174 = (0 : Int32) then ((pr S175 9 ((1 : Int32)))) else ((pr S175 9 ((0 : Int32)))))) else ((pr S171 9 ((0 : Int32)))))) else ((pr S167 9 ((0 : Int32)))))) else ((pr S163 9 ((0 : Int32)))))) else ((pr S159 9 ((0 : Int32)))))) else ((pr S155 9 ((0 : Int32)))))) else (bn (f_Mdl_arithmetic S92 r91) (fun r150 S151 => if r150 = (0 : Int32) then ((pr S151 9 ((1 : Int32)))) else ((pr S151 9 ((0 : Int32)))))))) else (if (r91 &&& (31 : Int32)) = (18 : Int32) then (bn (f_Mdl_arithmetic S92 r91) (fun r120 S121 => if r120 = (0 : Int32) then ((pr S121 9 ((1 : Int32)))) else ((pr S121 9 ((0 : Int32)))))) else (bn (f_Mdl_change S92 r91) (fun r96 S97 => if r96 = (0 : Int32) then (bn (f_Mdl_index S97 r91) (fun r100 S101 => if r100 = (0 : Int32) then (bn (f_Mdl_transfer S101 r91) (fun r104 S105 => if r104 = (0 : Int32) then (bn (f_Mdl_stack S105 r91) (fun r108 S109 => if r108 = (0 : Int32) then (bn (f_Mdl_jump S109 r91) (fun r112 S113 => if r112 = (0 : Int32) then (bn (f_Mdl_other S113 r91) (fun r116 S117 => if r116 = (0 : Int32) then ((pr S117 9 ((1 : Int32)))) else ((pr S117 9 ((0 : Int32)))))) else ((pr S113 9 ((0 : Int32)))))) else ((pr S109 9 ((0 : Int32)))))) else ((pr S105 9 ((0 : Int32)))))) else ((pr S101 9 ((0 : Int32)))))) else ((pr S97 9 ((0 : Int32))))))))))) else (bs (f_Mdl_interruptFrom (pr (pr S 12 (((S.1 12) + (1 : Int32)))) 10 ((0 : Int32))) (490 : Int32)) (fun S180 => S180))
def f_Mdl_poke (S : Sc) (x1 x2 x3 : Int32) : Int32 × Sc := if x3 < (1 : Int32) then (((0 : Int32), S)) else (if (4 : Int32) < x3 then (((0 : Int32), S)) else (if x1 < (0 : Int32) then (((0 : Int32), S)) else (if x1 ≤ ((1024 : Int32) - x3) then (if x3 ≤ (0 : Int32) then (((1 : Int32), S)) else (if x3 ≤ (1 : Int32) then (((1 : Int32), (pm S (((x1 + (0 : Int32))).toNatClampNeg) (((x2 >>> (((8 : Int32) * (0 : Int32)) &&& 31)) &&& (255 : Int32)))))) else (if x3 ≤ (2 : Int32) then (((1 : Int32), (pm (pm S (((x1 + (0 : Int32))).toNatClampNeg) (((x2 >>> (((8 : Int32) * (0 : Int32)) &&& 31)) &&& (255 : Int32)))) (((x1 + (1 : Int32))).toNatClampNeg) (((x2 >>> (((8 : Int32) * (1 : Int32)) &&& 31)) &&& (255 : Int32)))))) else (if x3 ≤ (3 : Int32) then (((1 : Int32), (pm (pm (pm S (((x1 + (0 : Int32))).toNatClampNeg) (((x2 >>> (((8 : Int32) * (0 : Int32)) &&& 31)) &&& (255 : Int32)))) (((x1 + (1 : Int32))).toNatClampNeg) (((x2 >>> (((8 : Int32) * (1 : Int32)) &&& 31)) &&& (255 : Int32)))) (((x1 + (2 : Int32))).toNatClampNeg) (((x2 >>> (((8 : Int32) * (2 : Int32)) &&& 31)) &&& (255 : Int32)))))) else (((1 : Int32), (pm (pm (pm (pm S (((x1 + (0 : Int32))).toNatClampNeg) (((x2 >>> (((8 : Int32) * (0 : Int32)) &&& 31)) &&& (255 : Int32)))) (((x1 + (1 : Int32))).toNatClampNeg) (((x2 >>> (((8 : Int32) * (1 : Int32)) &&& 31)) &&& (255 : Int32)))) (((x1 + (2 : Int32))).toNatClampNeg) (((x2 >>> (((8 : Int32) * (2 : Int32)) &&& 31)) &&& (255 : Int32)))) (((x1 + (3 : Int32))).toNatClampNeg) (((x2 >>> (((8 : Int32) * (3 : Int32)) &&& 31)) &&& (255 : Int32)))))))))) else (((0 : Int32), S)))))
def f_Mdl_peek (S : Sc) (x1 : Int32) : Int32 := if x1 < (0 : Int32) then ((-1 : Int32)) else (if (1024 : Int32) ≤ x1 then ((-1 : Int32)) else ((S.2.1 (x1).toNatClampNeg)))
def f_Mdl_start (S : Sc) (x1 x2 : Int32) : Int32 × Sc := if x1 < (0 : Int32) then (((0 : Int32), S)) else (if (255 : Int32) < x1 then (((0 : Int32), S)) else (if x2 < (0 : Int32) then (((0 : Int32), S)) else (if x2 ≤ (65535 : Int32) then (((1 : Int32), (pr (pr (pr S 7 (x1)) 8 (x2)) 9 ((0 : Int32))))) else (((0 : Int32), S)))))
def f_Mdl_set (S : Sc) (x1 x2 : Int32) : Int32 × Sc := if x1 = (0 : Int32) then (((1 : Int32), (pr S 0 ((x2 &&& (65535 : Int32)))))) else (if x1 = (1 : Int32) then (((1 : Int32), (pr S 1 ((f_Mdl_cut x2 (f_Mdl_is S (16 : Int32))))))) else (if x1 = (2 : Int32) then (((1 : Int32), (pr S 2 ((f_Mdl_cut x2 (f_Mdl_is S (16 : Int32))))))) else (if x1 = (3 : Int32) then (((1 : Int32), (pr S 3 ((x2 &&& (65535 : Int32)))))) else (if x1 = (4 : Int32) then (((1 : Int32), (pr S 4 ((x2 &&& (65535 : Int32)))))) else (if x1 = (5 : Int32) then (((1 : Int32), (pr S 5 ((x2 &&& (255 : Int32)))))) else (if x1 = (6 : Int32) then (bs (f_Mdl_setFlags S x2) (fun S8 => ((1 : Int32), S8))) else (((0 : Int32), S))))))))
def f_Mdl_register (S : Sc) (x1 : Int32) : Int32 := if x1 = (0 : Int32) then (S.1 0) else (if x1 = (1 : Int32) then (S.1 1) else (if x1 = (2 : Int32) then (S.1 2) else (if x1 = (3 : Int32) then (S.1 3) else (if x1 = (4 : Int32) then (S.1 4) else (if x1 = (5 : Int32) then (S.1 5) else (if x1 = (6 : Int32) then (S.1 6) else (if x1 = (7 : Int32) then (S.1 7) else (if x1 = (8 : Int32) then (S.1 8) else ((-1 : Int32))))))))))
def f_Mdl_stopped (S : Sc) : Int32 := S.1 9
def f_Mdl_interrupt (S : Sc) : Int32 × Sc := if S.1 10 = (0 : Int32) then (((1 : Int32), (pr S 10 ((1 : Int32))))) else (((0 : Int32), (pr S 10 ((1 : Int32)))))
def f_Mdl_line (S : Sc) (x1 : Int32) : Sc := (pr S 11 (x1))
def f_Mdl_touches (S : Sc) : Int32 := S.1 13
def f_Mdl_touched (S : Sc) (x1 : Int32) : Int32 := if x1 < (0 : Int32) then ((-1 : Int32)) else (if (8 : Int32) ≤ x1 then ((-1 : Int32)) else (if S.1 13 ≤ x1 then ((-1 : Int32)) else ((S.2.2 (x1).toNatClampNeg))))
def f_Mdl_steps (S : Sc) : Int32 := S.1 12
theorem in_cellOf (x : Int32) : vp_in (f_Bus_cellOf x) 1024 := vp_mask 10 (by decide) (sub512 _ _)
theorem in_Mcell (x : Int32) : vp_in (f_Mdl_cell x) 1024 := by
  rw [show f_Mdl_cell x = f_Bus_cellOf x from (cell_c x).symm]
  exact in_cellOf x
theorem nI_mul (a b : Nat) : nI a * nI b = nI (a * b) := (Int32.ofNat_mul a b).symm
theorem in_prog (x y : Int32) : vp_in ((512 * (x &&& (1 : Int32))) + (y &&& (511 : Int32))) 1024 := by
  obtain ⟨u, hu, e1⟩ := m_lt 1 x
  obtain ⟨v, hv, e2⟩ := m_lt 9 y
  have e1 : x &&& 1 = nI u := e1
  have e2 : y &&& 511 = nI v := e2
  rw [e1, e2, show (512 : Int32) = nI 512 from rfl, nI_mul, nI_add]
  exact vp_in_nI (by omega) (by decide)
theorem in_bf {x : Int32} (h : x &&& 255 = x) : vp_in (x >>> ((6 : Int32) &&& 31)) 4 := vp_mask 2 (by decide) (by
  apply b_ext
  intro i hi
  show bt ((x >>> ((6 : Int32) &&& 31)) &&& 3) i = _
  rw [b_and, b_3 i hi, b_sshr6 x hi]
  by_cases z : i < 2
  · simp [z]
  · rw [decide_eq_false z, Bool.and_false]
    split
    · exact (r8_bt h (by omega)).symm
    · exact (r8_bt h (by omega)).symm)
theorem in_poke {x n k : Int32} (hk : 0 ≤ k) (h2 : ¬ (4 : Int32) < n) (h3 : ¬ x < 0) (h4 : x ≤ 1024 - n) (h5 : ¬ n ≤ k) : vp_in (x + k) 1024 := by
  obtain ⟨i, hi, rfl⟩ := nI_of h3
  have hk0 : ¬ k < 0 := Int32.not_lt.mpr hk
  obtain ⟨j, hj, rfl⟩ := nI_of hk0
  have hn0 : ¬ n < 0 := fun q => h5 (Int32.le_of_lt (Int32.lt_of_lt_of_le q hk))
  obtain ⟨t, ht, rfl⟩ := nI_of hn0
  have ht4 : t ≤ 4 := by
    have := h2
    rw [show (4 : Int32) = nI 4 from rfl, nI_ltI (by omega) ht] at this
    omega
  have hjt : j < t := by
    rw [nI_leI ht hj] at h5
    omega
  have e : (1024 : Int32) - nI t = nI (1024 - t) := by
    have e1 : (1024 : Int32) = nI (1024 - t) + nI t := by
      rw [nI_add, show 1024 - t + t = 1024 by omega]; rfl
    rw [e1, Int32.add_sub_cancel]
  rw [e, nI_leI hi (by omega)] at h4
  rw [nI_add]
  exact vp_in_nI (by omega) (by decide)
theorem in_peek {x : Int32} (h1 : ¬ x < 0) (h2 : ¬ (1024 : Int32) ≤ x) : vp_in x 1024 := by
  obtain ⟨i, hi, rfl⟩ := nI_of h1
  rw [show (1024 : Int32) = nI 1024 from rfl, nI_leI (by omega) hi] at h2
  exact vp_in_nI (by omega) (by decide)
theorem in_peek2 {x : Int32} (h1 : ¬ x < 0) (h2 : x < (1024 : Int32)) : vp_in x 1024 := in_peek h1 (Int32.not_le.mpr h2)
theorem in_touched {x : Int32} (h1 : ¬ x < 0) (h2 : ¬ (8 : Int32) ≤ x) : vp_in x 8 := by
  obtain ⟨i, hi, rfl⟩ := nI_of h1
  rw [show (8 : Int32) = nI 8 from rfl, nI_leI (by omega) hi] at h2
  exact vp_in_nI (by omega) (by decide)
theorem rng_nb {S S2 : Sc} {r : Int32} (e : f_Opd_nextByte S = (r, S2)) : r &&& 255 = r := by
  have h : (f_Opd_nextByte S).1 = r := by rw [e]
  rw [← h]
  exact m8 _
end
section
set_option maxHeartbeats 4000000 in
set_option maxRecDepth 100000 in
theorem c_Bus_bank0Place (l : Launch) (D : va_G) (cB cI : ClassId) (a : Nat → Nat) (bz : Nat) (ha : ap a 8) (S : Sc) (x0 : Int32) : MI l y_Bus_bank0Place b_Bus_bank0Place 1 (some .int) rm_Bus_bank0Place [.int x0] D cB cI (wdC cB cI a) (ow a 8) bz S (f_Bus_bank0Place x0, S) := by
  refine met_in R_Bus (by decide) rfl (Nat.le_of_ble_eq_true rfl) (wdC_D ha cB cI) ?_
  intro p e s m below meth c ls X hr hk hl hP hS
  have hx := X.1.1
  have hb := X.1.2.1
  have hown := X.1.2.2.2.1
  have hts := X.1.2.2.2.2
  have hl : lv_has ls 1 [(0, .int x0)] := hl
  refine lv_ldc (v := (16777216 : Int32)) hx hb hown (hts _ q_290) d_Bus_bank0Place_0 ?_
  refine lv_iload_n hx hb d_Bus_bank0Place_2 rfl (lv_at hl 0 rfl) ?_
  refine lv_ldc (v := (65535 : Int32)) hx hb hown (hts _ q_291) d_Bus_bank0Place_3 ?_
  refine lv_iand hx hb d_Bus_bank0Place_5 ?_
  refine lv_ior hx hb d_Bus_bank0Place_6 ?_
  exact rt_vs X hr hk hP hS (by rw [f_Bus_bank0Place]) d_Bus_bank0Place_7
set_option maxHeartbeats 4000000 in
set_option maxRecDepth 100000 in
theorem c_Bus_cellOf (l : Launch) (D : va_G) (cB cI : ClassId) (a : Nat → Nat) (bz : Nat) (ha : ap a 8) (S : Sc) (x0 : Int32) : MI l y_Bus_cellOf b_Bus_cellOf 1 (some .int) rm_Bus_cellOf [.int x0] D cB cI (wdC cB cI a) (ow a 8) bz S (f_Bus_cellOf x0, S) := by
  refine met_in R_Bus (by decide) rfl (Nat.le_of_ble_eq_true rfl) (wdC_D ha cB cI) ?_
  intro p e s m below meth c ls X hr hk hl hP hS
  have hx := X.1.1
  have hb := X.1.2.1
  have hown := X.1.2.2.2.1
  have hts := X.1.2.2.2.2
  have hl : lv_has ls 1 [(0, .int x0)] := hl
  refine lv_iload_n hx hb d_Bus_cellOf_0 rfl (lv_at hl 0 rfl) ?_
  refine lv_bipush (v := (7 : Int32)) hx hb d_Bus_cellOf_1 (by decide) ?_
  refine lv_ishr hx hb d_Bus_cellOf_3 ?_
  refine lv_sipush (v := (512 : Int32)) hx hb d_Bus_cellOf_4 (by decide) ?_
  refine lv_iand hx hb d_Bus_cellOf_7 ?_
  refine lv_iload_n hx hb d_Bus_cellOf_8 rfl (lv_at hl 0 rfl) ?_
  refine lv_sipush (v := (511 : Int32)) hx hb d_Bus_cellOf_9 (by decide) ?_
  refine lv_iand hx hb d_Bus_cellOf_12 ?_
  refine lv_ior hx hb d_Bus_cellOf_13 ?_
  exact rt_vs X hr hk hP hS (by rw [f_Bus_cellOf]) d_Bus_cellOf_14
set_option maxHeartbeats 4000000 in
set_option maxRecDepth 100000 in
theorem c_Bus_writeByte (l : Launch) (D : va_G) (cB cI : ClassId) (a : Nat → Nat) (bz : Nat) (ha : ap a 8) (S : Sc) (x1 x2 : Int32) : MV l y_Bus_writeByte b_Bus_writeByte 4 rm_Bus_writeByte [.ref (a 1), .int x1, .int x2] D cB cI (wdC cB cI a) (ow a 8) bz S (f_Bus_writeByte S x1 x2) := by
  refine met_in R_Bus (by decide) rfl (Nat.le_of_ble_eq_true rfl) (wdC_D ha cB cI) ?_
  intro p e s m below meth c ls X hr hk hl hP hS
  have hx := X.1.1
  have hb := X.1.2.1
  have hown := X.1.2.2.2.1
  have hts := X.1.2.2.2.2
  have hl : lv_has ls 4 [(0, .ref (a 1)), (1, .int x1), (2, .int x2)] := hl
  refine lv_iload_n hx hb d_Bus_writeByte_0 rfl (lv_at hl 1 rfl) ?_
  refine ks_v (rest := []) X hP hS (c_Bus_cellOf l D cB cI a bz ha S x1) (kw_Bus_cellOf hts q_296 ⟨Nat.le_of_ble_eq_true rfl, Nat.le_of_ble_eq_true rfl⟩) rfl hl.1 rfl (lv_room (Nat.le_of_ble_eq_true rfl)) d_Bus_writeByte_1 (fun H locs hP hS => ?_)
  refine lv_istore_n hx hb d_Bus_writeByte_4 rfl hl (Nat.le_of_ble_eq_true rfl) rfl (fun ls hl => ?_)
  have hl : lv_has ls 4 [(3, .int ((f_Bus_cellOf x1))), (0, .ref (a 1)), (1, .int (x1)), (2, .int (x2))] := hl
  refine lv_aload_n hx hb d_Bus_writeByte_5 rfl (lv_at hl 1 rfl) ?_
  refine gt_Bus X hP 1 (by decide) (v := .ref (a 7)) q_90 rfl d_Bus_writeByte_6 ?_
  refine lv_aload_n hx hb d_Bus_writeByte_9 rfl (lv_at hl 1 rfl) ?_
  refine gt_Bus X hP 2 (by decide) (v := .int (S.1 9)) q_91 rfl d_Bus_writeByte_10 ?_
  refine lv_bipush (v := (7 : Int32)) hx hb d_Bus_writeByte_13 (by decide) ?_
  refine lv_iand hx hb d_Bus_writeByte_15 ?_
  refine lv_iload_n hx hb d_Bus_writeByte_16 rfl (lv_at hl 0 rfl) ?_
  refine lv_sipush (v := (1024 : Int32)) hx hb d_Bus_writeByte_17 (by decide) ?_
  refine lv_iadd hx hb d_Bus_writeByte_20 ?_
  refine wri_ X hP hS 7 rfl (S1 := (pl S ((((S.1 9) &&& (7 : Int32))).toNatClampNeg) (((f_Bus_cellOf x1) + (1024 : Int32))))) (in_and7 _) rfl d_Bus_writeByte_21 (fun H locs hP hS => ?_)
  refine lv_aload_n hx hb d_Bus_writeByte_22 rfl (lv_at hl 1 rfl) ?_
  refine lv_dup hx hb d_Bus_writeByte_23 rfl ?_
  refine gt_Bus X hP 2 (by decide) (v := .int (S.1 9)) q_91 rfl d_Bus_writeByte_24 ?_
  refine lv_iconst (v := (1 : Int32)) hx hb d_Bus_writeByte_27 (by decide) ?_
  refine lv_iadd hx hb d_Bus_writeByte_28 ?_
  refine pt_Bus X hP hS 2 (by decide) (v := ((S.1 9) + (1 : Int32))) (S1 := (pr (pl S ((((S.1 9) &&& (7 : Int32))).toNatClampNeg) (((f_Bus_cellOf x1) + (1024 : Int32)))) 9 (((S.1 9) + (1 : Int32))))) q_91 rfl rfl rfl rfl d_Bus_writeByte_29 (fun H locs hP hS => ?_)
  refine lv_aload_n hx hb d_Bus_writeByte_32 rfl (lv_at hl 1 rfl) ?_
  refine gt_Bus X hP 0 (by decide) (v := .ref (a 6)) q_88 rfl d_Bus_writeByte_33 ?_
  refine lv_iload_n hx hb d_Bus_writeByte_36 rfl (lv_at hl 0 rfl) ?_
  refine lv_iload_n hx hb d_Bus_writeByte_37 rfl (lv_at hl 3 rfl) ?_
  refine lv_i2b hx hb d_Bus_writeByte_38 rfl ?_
  refine wrb_ X hP hS 6 rfl (S1 := (pm (pr (pl S ((((S.1 9) &&& (7 : Int32))).toNatClampNeg) (((f_Bus_cellOf x1) + (1024 : Int32)))) 9 (((S.1 9) + (1 : Int32)))) (((f_Bus_cellOf x1)).toNatClampNeg) (vp_nar .byte ((x2).toInt8.toInt32)))) (in_cellOf _) rfl d_Bus_writeByte_39 (fun H locs hP hS => ?_)
  exact rt_s X hr hk hP hS (by rw [f_Bus_writeByte]) d_Bus_writeByte_40
set_option maxHeartbeats 4000000 in
set_option maxRecDepth 100000 in
theorem c_Bus_readByte (l : Launch) (D : va_G) (cB cI : ClassId) (a : Nat → Nat) (bz : Nat) (ha : ap a 8) (S : Sc) (x1 : Int32) : MI l y_Bus_readByte b_Bus_readByte 3 (some .int) rm_Bus_readByte [.ref (a 1), .int x1] D cB cI (wdC cB cI a) (ow a 8) bz S (f_Bus_readByte S x1) := by
  refine met_in R_Bus (by decide) rfl (Nat.le_of_ble_eq_true rfl) (wdC_D ha cB cI) ?_
  intro p e s m below meth c ls X hr hk hl hP hS
  have hx := X.1.1
  have hb := X.1.2.1
  have hown := X.1.2.2.2.1
  have hts := X.1.2.2.2.2
  have hl : lv_has ls 3 [(0, .ref (a 1)), (1, .int x1)] := hl
  refine lv_iload_n hx hb d_Bus_readByte_0 rfl (lv_at hl 1 rfl) ?_
  refine ks_v (rest := []) X hP hS (c_Bus_cellOf l D cB cI a bz ha S x1) (kw_Bus_cellOf hts q_296 ⟨Nat.le_of_ble_eq_true rfl, Nat.le_of_ble_eq_true rfl⟩) rfl hl.1 rfl (lv_room (Nat.le_of_ble_eq_true rfl)) d_Bus_readByte_1 (fun H locs hP hS => ?_)
  refine lv_istore_n hx hb d_Bus_readByte_4 rfl hl (Nat.le_of_ble_eq_true rfl) rfl (fun ls hl => ?_)
  have hl : lv_has ls 3 [(2, .int ((f_Bus_cellOf x1))), (0, .ref (a 1)), (1, .int (x1))] := hl
  refine lv_aload_n hx hb d_Bus_readByte_5 rfl (lv_at hl 1 rfl) ?_
  refine gt_Bus X hP 1 (by decide) (v := .ref (a 7)) q_90 rfl d_Bus_readByte_6 ?_
  refine lv_aload_n hx hb d_Bus_readByte_9 rfl (lv_at hl 1 rfl) ?_
  refine gt_Bus X hP 2 (by decide) (v := .int (S.1 9)) q_91 rfl d_Bus_readByte_10 ?_
  refine lv_bipush (v := (7 : Int32)) hx hb d_Bus_readByte_13 (by decide) ?_
  refine lv_iand hx hb d_Bus_readByte_15 ?_
  refine lv_iload_n hx hb d_Bus_readByte_16 rfl (lv_at hl 0 rfl) ?_
  refine wri_ X hP hS 7 rfl (S1 := (pl S ((((S.1 9) &&& (7 : Int32))).toNatClampNeg) ((f_Bus_cellOf x1)))) (in_and7 _) rfl d_Bus_readByte_17 (fun H locs hP hS => ?_)
  refine lv_aload_n hx hb d_Bus_readByte_18 rfl (lv_at hl 1 rfl) ?_
  refine lv_dup hx hb d_Bus_readByte_19 rfl ?_
  refine gt_Bus X hP 2 (by decide) (v := .int (S.1 9)) q_91 rfl d_Bus_readByte_20 ?_
  refine lv_iconst (v := (1 : Int32)) hx hb d_Bus_readByte_23 (by decide) ?_
  refine lv_iadd hx hb d_Bus_readByte_24 ?_
  refine pt_Bus X hP hS 2 (by decide) (v := ((S.1 9) + (1 : Int32))) (S1 := (pr (pl S ((((S.1 9) &&& (7 : Int32))).toNatClampNeg) ((f_Bus_cellOf x1))) 9 (((S.1 9) + (1 : Int32))))) q_91 rfl rfl rfl rfl d_Bus_readByte_25 (fun H locs hP hS => ?_)
  refine lv_aload_n hx hb d_Bus_readByte_28 rfl (lv_at hl 1 rfl) ?_
  refine gt_Bus X hP 0 (by decide) (v := .ref (a 6)) q_88 rfl d_Bus_readByte_29 ?_
  refine lv_iload_n hx hb d_Bus_readByte_32 rfl (lv_at hl 0 rfl) ?_
  refine rdb_ X hP 6 rfl (v := S.2.1 ((f_Bus_cellOf x1)).toNatClampNeg) (in_cellOf _) rfl d_Bus_readByte_33 ?_
  refine lv_sipush (v := (255 : Int32)) hx hb d_Bus_readByte_34 (by decide) ?_
  refine lv_iand hx hb d_Bus_readByte_37 ?_
  exact rt_vs X hr hk hP hS (by rw [f_Bus_readByte]) d_Bus_readByte_38
set_option maxHeartbeats 4000000 in
set_option maxRecDepth 100000 in
theorem c_Bus_longPlace (l : Launch) (D : va_G) (cB cI : ClassId) (a : Nat → Nat) (bz : Nat) (ha : ap a 8) (S : Sc) (x0 : Int32) : MI l y_Bus_longPlace b_Bus_longPlace 1 (some .int) rm_Bus_longPlace [.int x0] D cB cI (wdC cB cI a) (ow a 8) bz S (f_Bus_longPlace x0, S) := by
  refine met_in R_Bus (by decide) rfl (Nat.le_of_ble_eq_true rfl) (wdC_D ha cB cI) ?_
  intro p e s m below meth c ls X hr hk hl hP hS
  have hx := X.1.1
  have hb := X.1.2.1
  have hown := X.1.2.2.2.1
  have hts := X.1.2.2.2.2
  have hl : lv_has ls 1 [(0, .int x0)] := hl
  refine lv_iload_n hx hb d_Bus_longPlace_0 rfl (lv_at hl 0 rfl) ?_
  refine lv_ldc (v := (16777215 : Int32)) hx hb hown (hts _ q_325) d_Bus_longPlace_1 ?_
  refine lv_iand hx hb d_Bus_longPlace_3 ?_
  exact rt_vs X hr hk hP hS (by rw [f_Bus_longPlace]) d_Bus_longPlace_4
set_option maxHeartbeats 4000000 in
set_option maxRecDepth 100000 in
theorem c_Bus_placeAfter (l : Launch) (D : va_G) (cB cI : ClassId) (a : Nat → Nat) (bz : Nat) (ha : ap a 8) (S : Sc) (x0 : Int32) : MI l y_Bus_placeAfter b_Bus_placeAfter 1 (some .int) rm_Bus_placeAfter [.int x0] D cB cI (wdC cB cI a) (ow a 8) bz S (f_Bus_placeAfter x0, S) := by
  refine met_in R_Bus (by decide) rfl (Nat.le_of_ble_eq_true rfl) (wdC_D ha cB cI) ?_
  intro p e s m below meth c ls X hr hk hl hP hS
  have hx := X.1.1
  have hb := X.1.2.1
  have hown := X.1.2.2.2.1
  have hts := X.1.2.2.2.2
  have hl : lv_has ls 1 [(0, .int x0)] := hl
  refine lv_iload_n hx hb d_Bus_placeAfter_0 rfl (lv_at hl 0 rfl) ?_
  refine lv_ldc (v := (16777216 : Int32)) hx hb hown (hts _ q_290) d_Bus_placeAfter_1 ?_
  refine lv_iand hx hb d_Bus_placeAfter_3 ?_
  refine lv_if_eq (tgt := 16) hx hb d_Bus_placeAfter_4 rfl (fun h1 => ?_) (fun h1 => ?_)
  ·
    refine lv_iload_n hx hb d_Bus_placeAfter_16 rfl (lv_at hl 0 rfl) ?_
    refine lv_iconst (v := (1 : Int32)) hx hb d_Bus_placeAfter_17 (by decide) ?_
    refine lv_iadd hx hb d_Bus_placeAfter_18 ?_
    refine ks_v (rest := []) X hP hS (c_Bus_longPlace l D cB cI a bz ha S (x0 + (1 : Int32))) (kw_Bus_longPlace hts q_322 ⟨Nat.le_of_ble_eq_true rfl, Nat.le_of_ble_eq_true rfl⟩) rfl hl.1 rfl (lv_room (Nat.le_of_ble_eq_true rfl)) d_Bus_placeAfter_19 (fun H locs hP hS => ?_)
    exact rt_vs X hr hk hP hS (by rw [f_Bus_placeAfter, if_pos h1]) d_Bus_placeAfter_22
  ·
    refine lv_iload_n hx hb d_Bus_placeAfter_7 rfl (lv_at hl 0 rfl) ?_
    refine lv_iconst (v := (1 : Int32)) hx hb d_Bus_placeAfter_8 (by decide) ?_
    refine lv_iadd hx hb d_Bus_placeAfter_9 ?_
    refine ks_v (rest := []) X hP hS (c_Bus_bank0Place l D cB cI a bz ha S (x0 + (1 : Int32))) (kw_Bus_bank0Place hts q_321 ⟨Nat.le_of_ble_eq_true rfl, Nat.le_of_ble_eq_true rfl⟩) rfl hl.1 rfl (lv_room (Nat.le_of_ble_eq_true rfl)) d_Bus_placeAfter_10 (fun H locs hP hS => ?_)
    refine lv_goto (tgt := 22) hx hb d_Bus_placeAfter_13 rfl ?_
    exact rt_vs X hr hk hP hS (by rw [f_Bus_placeAfter, if_neg h1]) d_Bus_placeAfter_22
set_option maxHeartbeats 4000000 in
set_option maxRecDepth 100000 in
theorem c_Bus_readWord (l : Launch) (D : va_G) (cB cI : ClassId) (a : Nat → Nat) (bz : Nat) (ha : ap a 8) (S : Sc) (x1 : Int32) : MI l y_Bus_readWord b_Bus_readWord 3 (some .int) rm_Bus_readWord [.ref (a 1), .int x1] D cB cI (wdC cB cI a) (ow a 8) bz S (f_Bus_readWord S x1) := by
  refine met_in R_Bus (by decide) rfl (Nat.le_of_ble_eq_true rfl) (wdC_D ha cB cI) ?_
  intro p e s m below meth c ls X hr hk hl hP hS
  have hx := X.1.1
  have hb := X.1.2.1
  have hown := X.1.2.2.2.1
  have hts := X.1.2.2.2.2
  have hl : lv_has ls 3 [(0, .ref (a 1)), (1, .int x1)] := hl
  refine lv_aload_n hx hb d_Bus_readWord_0 rfl (lv_at hl 0 rfl) ?_
  refine lv_iload_n hx hb d_Bus_readWord_1 rfl (lv_at hl 1 rfl) ?_
  refine kv_vs (rest := []) X hP hS (c_Bus_readByte l D cB cI a bz ha S x1) (kw_Bus_readByte hts q_314 ⟨Nat.le_of_ble_eq_true rfl, Nat.le_of_ble_eq_true rfl⟩) 1 rfl rfl rfl hl.1 rfl (lv_room (Nat.le_of_ble_eq_true rfl)) d_Bus_readWord_2 (fun r1 S2 H locs e3 hP hS => ?_)
  refine lv_istore_n hx hb d_Bus_readWord_5 rfl hl (Nat.le_of_ble_eq_true rfl) rfl (fun ls hl => ?_)
  have hl : lv_has ls 3 [(2, .int (r1)), (0, .ref (a 1)), (1, .int (x1))] := hl
  refine lv_iload_n hx hb d_Bus_readWord_6 rfl (lv_at hl 0 rfl) ?_
  refine lv_aload_n hx hb d_Bus_readWord_7 rfl (lv_at hl 1 rfl) ?_
  refine lv_iload_n hx hb d_Bus_readWord_8 rfl (lv_at hl 2 rfl) ?_
  refine ks_v (rest := [.ref (a 1), .int (r1)]) X hP hS (c_Bus_placeAfter l D cB cI a bz ha S2 x1) (kw_Bus_placeAfter hts q_318 ⟨Nat.le_of_ble_eq_true rfl, Nat.le_of_ble_eq_true rfl⟩) rfl hl.1 rfl (lv_room (Nat.le_of_ble_eq_true rfl)) d_Bus_readWord_9 (fun H locs hP hS => ?_)
  refine kv_vs (rest := [.int (r1)]) X hP hS (c_Bus_readByte l D cB cI a bz ha S2 (f_Bus_placeAfter x1)) (kw_Bus_readByte hts q_314 ⟨Nat.le_of_ble_eq_true rfl, Nat.le_of_ble_eq_true rfl⟩) 1 rfl rfl rfl hl.1 rfl (lv_room (Nat.le_of_ble_eq_true rfl)) d_Bus_readWord_12 (fun r4 S5 H locs e6 hP hS => ?_)
  refine lv_bipush (v := (8 : Int32)) hx hb d_Bus_readWord_15 (by decide) ?_
  refine lv_ishl hx hb d_Bus_readWord_17 ?_
  refine lv_ior hx hb d_Bus_readWord_18 ?_
  exact rt_vs X hr hk hP hS (by rw [f_Bus_readWord, bn_eq e3, bn_eq e6]) d_Bus_readWord_19
set_option maxHeartbeats 4000000 in
set_option maxRecDepth 100000 in
theorem c_Bus_programByte (l : Launch) (D : va_G) (cB cI : ClassId) (a : Nat → Nat) (bz : Nat) (ha : ap a 8) (S : Sc) (x1 x2 : Int32) : MI l y_Bus_programByte b_Bus_programByte 3 (some .int) rm_Bus_programByte [.ref (a 1), .int x1, .int x2] D cB cI (wdC cB cI a) (ow a 8) bz S (f_Bus_programByte S x1 x2, S) := by
  refine met_in R_Bus (by decide) rfl (Nat.le_of_ble_eq_true rfl) (wdC_D ha cB cI) ?_
  intro p e s m below meth c ls X hr hk hl hP hS
  have hx := X.1.1
  have hb := X.1.2.1
  have hown := X.1.2.2.2.1
  have hts := X.1.2.2.2.2
  have hl : lv_has ls 3 [(0, .ref (a 1)), (1, .int x1), (2, .int x2)] := hl
  refine lv_aload_n hx hb d_Bus_programByte_0 rfl (lv_at hl 0 rfl) ?_
  refine gt_Bus X hP 0 (by decide) (v := .ref (a 6)) q_88 rfl d_Bus_programByte_1 ?_
  refine lv_sipush (v := (512 : Int32)) hx hb d_Bus_programByte_4 (by decide) ?_
  refine lv_iload_n hx hb d_Bus_programByte_7 rfl (lv_at hl 1 rfl) ?_
  refine lv_iconst (v := (1 : Int32)) hx hb d_Bus_programByte_8 (by decide) ?_
  refine lv_iand hx hb d_Bus_programByte_9 ?_
  refine lv_imul hx hb d_Bus_programByte_10 ?_
  refine lv_iload_n hx hb d_Bus_programByte_11 rfl (lv_at hl 2 rfl) ?_
  refine lv_sipush (v := (511 : Int32)) hx hb d_Bus_programByte_12 (by decide) ?_
  refine lv_iand hx hb d_Bus_programByte_15 ?_
  refine lv_iadd hx hb d_Bus_programByte_16 ?_
  refine rdb_ X hP 6 rfl (v := S.2.1 ((((512 : Int32) * (x1 &&& (1 : Int32))) + (x2 &&& (511 : Int32)))).toNatClampNeg) (in_prog _ _) rfl d_Bus_programByte_17 ?_
  refine lv_sipush (v := (255 : Int32)) hx hb d_Bus_programByte_18 (by decide) ?_
  refine lv_iand hx hb d_Bus_programByte_21 ?_
  exact rt_vs X hr hk hP hS (by rw [f_Bus_programByte]) d_Bus_programByte_22
set_option maxHeartbeats 4000000 in
set_option maxRecDepth 100000 in
theorem c_Bus_readLong (l : Launch) (D : va_G) (cB cI : ClassId) (a : Nat → Nat) (bz : Nat) (ha : ap a 8) (S : Sc) (x1 : Int32) : MI l y_Bus_readLong b_Bus_readLong 5 (some .int) rm_Bus_readLong [.ref (a 1), .int x1] D cB cI (wdC cB cI a) (ow a 8) bz S (f_Bus_readLong S x1) := by
  refine met_in R_Bus (by decide) rfl (Nat.le_of_ble_eq_true rfl) (wdC_D ha cB cI) ?_
  intro p e s m below meth c ls X hr hk hl hP hS
  have hx := X.1.1
  have hb := X.1.2.1
  have hown := X.1.2.2.2.1
  have hts := X.1.2.2.2.2
  have hl : lv_has ls 5 [(0, .ref (a 1)), (1, .int x1)] := hl
  refine lv_iload_n hx hb d_Bus_readLong_0 rfl (lv_at hl 1 rfl) ?_
  refine ks_v (rest := []) X hP hS (c_Bus_placeAfter l D cB cI a bz ha S x1) (kw_Bus_placeAfter hts q_318 ⟨Nat.le_of_ble_eq_true rfl, Nat.le_of_ble_eq_true rfl⟩) rfl hl.1 rfl (lv_room (Nat.le_of_ble_eq_true rfl)) d_Bus_readLong_1 (fun H locs hP hS => ?_)
  refine lv_istore_n hx hb d_Bus_readLong_4 rfl hl (Nat.le_of_ble_eq_true rfl) rfl (fun ls hl => ?_)
  have hl : lv_has ls 5 [(2, .int ((f_Bus_placeAfter x1))), (0, .ref (a 1)), (1, .int (x1))] := hl
  refine lv_aload_n hx hb d_Bus_readLong_5 rfl (lv_at hl 1 rfl) ?_
  refine lv_iload_n hx hb d_Bus_readLong_6 rfl (lv_at hl 2 rfl) ?_
  refine kv_vs (rest := []) X hP hS (c_Bus_readByte l D cB cI a bz ha S x1) (kw_Bus_readByte hts q_314 ⟨Nat.le_of_ble_eq_true rfl, Nat.le_of_ble_eq_true rfl⟩) 1 rfl rfl rfl hl.1 rfl (lv_room (Nat.le_of_ble_eq_true rfl)) d_Bus_readLong_7 (fun r1 S2 H locs e3 hP hS => ?_)
  refine lv_istore_n hx hb d_Bus_readLong_10 rfl hl (Nat.le_of_ble_eq_true rfl) rfl (fun ls hl => ?_)
  have hl : lv_has ls 5 [(3, .int (r1)), (2, .int ((f_Bus_placeAfter x1))), (0, .ref (a 1)), (1, .int (x1))] := hl
  refine lv_aload_n hx hb d_Bus_readLong_11 rfl (lv_at hl 2 rfl) ?_
  refine lv_iload_n hx hb d_Bus_readLong_12 rfl (lv_at hl 1 rfl) ?_
  refine kv_vs (rest := []) X hP hS (c_Bus_readByte l D cB cI a bz ha S2 (f_Bus_placeAfter x1)) (kw_Bus_readByte hts q_314 ⟨Nat.le_of_ble_eq_true rfl, Nat.le_of_ble_eq_true rfl⟩) 1 rfl rfl rfl hl.1 rfl (lv_room (Nat.le_of_ble_eq_true rfl)) d_Bus_readLong_13 (fun r4 S5 H locs e6 hP hS => ?_)
  refine lv_istore hx hb d_Bus_readLong_16 hl (Nat.le_of_ble_eq_true rfl) rfl (fun ls hl => ?_)
  have hl : lv_has ls 5 [(4, .int (r4)), (3, .int (r1)), (2, .int ((f_Bus_placeAfter x1))), (0, .ref (a 1)), (1, .int (x1))] := hl
  refine lv_iload_n hx hb d_Bus_readLong_18 rfl (lv_at hl 1 rfl) ?_
  refine lv_iload hx hb d_Bus_readLong_19 (lv_at hl 0 rfl) ?_
  refine lv_bipush (v := (8 : Int32)) hx hb d_Bus_readLong_21 (by decide) ?_
  refine lv_ishl hx hb d_Bus_readLong_23 ?_
  refine lv_ior hx hb d_Bus_readLong_24 ?_
  refine lv_aload_n hx hb d_Bus_readLong_25 rfl (lv_at hl 3 rfl) ?_
  refine lv_iload_n hx hb d_Bus_readLong_26 rfl (lv_at hl 2 rfl) ?_
  refine ks_v (rest := [.ref (a 1), .int ((r1 ||| (r4 <<< ((8 : Int32) &&& 31))))]) X hP hS (c_Bus_placeAfter l D cB cI a bz ha S5 (f_Bus_placeAfter x1)) (kw_Bus_placeAfter hts q_318 ⟨Nat.le_of_ble_eq_true rfl, Nat.le_of_ble_eq_true rfl⟩) rfl hl.1 rfl (lv_room (Nat.le_of_ble_eq_true rfl)) d_Bus_readLong_27 (fun H locs hP hS => ?_)
  refine kv_vs (rest := [.int ((r1 ||| (r4 <<< ((8 : Int32) &&& 31))))]) X hP hS (c_Bus_readByte l D cB cI a bz ha S5 (f_Bus_placeAfter (f_Bus_placeAfter x1))) (kw_Bus_readByte hts q_314 ⟨Nat.le_of_ble_eq_true rfl, Nat.le_of_ble_eq_true rfl⟩) 1 rfl rfl rfl hl.1 rfl (lv_room (Nat.le_of_ble_eq_true rfl)) d_Bus_readLong_30 (fun r7 S8 H locs e9 hP hS => ?_)
  refine lv_bipush (v := (16 : Int32)) hx hb d_Bus_readLong_33 (by decide) ?_
  refine lv_ishl hx hb d_Bus_readLong_35 ?_
  refine lv_ior hx hb d_Bus_readLong_36 ?_
  exact rt_vs X hr hk hP hS (by rw [f_Bus_readLong, bn_eq e3, bn_eq e6, bn_eq e9]) d_Bus_readLong_37
set_option maxHeartbeats 4000000 in
set_option maxRecDepth 100000 in
theorem c_Bus_writeValue (l : Launch) (D : va_G) (cB cI : ClassId) (a : Nat → Nat) (bz : Nat) (ha : ap a 8) (S : Sc) (x1 x2 x3 : Int32) : MV l y_Bus_writeValue b_Bus_writeValue 4 rm_Bus_writeValue [.ref (a 1), .int x1, .int x2, .int x3] D cB cI (wdC cB cI a) (ow a 8) bz S (f_Bus_writeValue S x1 x2 x3) := by
  refine met_in R_Bus (by decide) rfl (Nat.le_of_ble_eq_true rfl) (wdC_D ha cB cI) ?_
  intro p e s m below meth c ls X hr hk hl hP hS
  have hx := X.1.1
  have hb := X.1.2.1
  have hown := X.1.2.2.2.1
  have hts := X.1.2.2.2.2
  have hl : lv_has ls 4 [(0, .ref (a 1)), (1, .int x1), (2, .int x2), (3, .int x3)] := hl
  refine lv_aload_n hx hb d_Bus_writeValue_0 rfl (lv_at hl 0 rfl) ?_
  refine lv_iload_n hx hb d_Bus_writeValue_1 rfl (lv_at hl 1 rfl) ?_
  refine lv_iload_n hx hb d_Bus_writeValue_2 rfl (lv_at hl 2 rfl) ?_
  refine kv_s (rest := []) X hP hS (c_Bus_writeByte l D cB cI a bz ha S x1 x2) (kw_Bus_writeByte hts q_386 ⟨Nat.le_of_ble_eq_true rfl, Nat.le_of_ble_eq_true rfl⟩) 1 rfl rfl rfl hl.1 rfl (lv_room (Nat.le_of_ble_eq_true rfl)) d_Bus_writeValue_3 (fun S1 H locs e2 hP hS => ?_)
  refine lv_iload_n hx hb d_Bus_writeValue_6 rfl (lv_at hl 3 rfl) ?_
  refine lv_if_eq (tgt := 22) hx hb d_Bus_writeValue_7 rfl (fun h3 => ?_) (fun h3 => ?_)
  ·
    exact rt_s X hr hk hP hS (by rw [f_Bus_writeValue, bs_eq e2, if_pos h3]) d_Bus_writeValue_22
  ·
    refine lv_aload_n hx hb d_Bus_writeValue_10 rfl (lv_at hl 0 rfl) ?_
    refine lv_iload_n hx hb d_Bus_writeValue_11 rfl (lv_at hl 1 rfl) ?_
    refine ks_v (rest := [.ref (a 1)]) X hP hS (c_Bus_placeAfter l D cB cI a bz ha S1 x1) (kw_Bus_placeAfter hts q_318 ⟨Nat.le_of_ble_eq_true rfl, Nat.le_of_ble_eq_true rfl⟩) rfl hl.1 rfl (lv_room (Nat.le_of_ble_eq_true rfl)) d_Bus_writeValue_12 (fun H locs hP hS => ?_)
    refine lv_iload_n hx hb d_Bus_writeValue_15 rfl (lv_at hl 2 rfl) ?_
    refine lv_bipush (v := (8 : Int32)) hx hb d_Bus_writeValue_16 (by decide) ?_
    refine lv_ishr hx hb d_Bus_writeValue_18 ?_
    refine kv_s (rest := []) X hP hS (c_Bus_writeByte l D cB cI a bz ha S1 (f_Bus_placeAfter x1) (x2 >>> ((8 : Int32) &&& 31))) (kw_Bus_writeByte hts q_386 ⟨Nat.le_of_ble_eq_true rfl, Nat.le_of_ble_eq_true rfl⟩) 1 rfl rfl rfl hl.1 rfl (lv_room (Nat.le_of_ble_eq_true rfl)) d_Bus_writeValue_19 (fun S4 H locs e5 hP hS => ?_)
    exact rt_s X hr hk hP hS (by rw [f_Bus_writeValue, bs_eq e2, if_neg h3, bs_eq e5]) d_Bus_writeValue_22
set_option maxHeartbeats 4000000 in
set_option maxRecDepth 100000 in
theorem c_Bus_readValue (l : Launch) (D : va_G) (cB cI : ClassId) (a : Nat → Nat) (bz : Nat) (ha : ap a 8) (S : Sc) (x1 x2 : Int32) : MI l y_Bus_readValue b_Bus_readValue 3 (some .int) rm_Bus_readValue [.ref (a 1), .int x1, .int x2] D cB cI (wdC cB cI a) (ow a 8) bz S (f_Bus_readValue S x1 x2) := by
  refine met_in R_Bus (by decide) rfl (Nat.le_of_ble_eq_true rfl) (wdC_D ha cB cI) ?_
  intro p e s m below meth c ls X hr hk hl hP hS
  have hx := X.1.1
  have hb := X.1.2.1
  have hown := X.1.2.2.2.1
  have hts := X.1.2.2.2.2
  have hl : lv_has ls 3 [(0, .ref (a 1)), (1, .int x1), (2, .int x2)] := hl
  refine lv_iload_n hx hb d_Bus_readValue_0 rfl (lv_at hl 2 rfl) ?_
  refine lv_if_eq (tgt := 12) hx hb d_Bus_readValue_1 rfl (fun h1 => ?_) (fun h1 => ?_)
  ·
    refine lv_aload_n hx hb d_Bus_readValue_12 rfl (lv_at hl 0 rfl) ?_
    refine lv_iload_n hx hb d_Bus_readValue_13 rfl (lv_at hl 1 rfl) ?_
    refine kv_vs (rest := []) X hP hS (c_Bus_readByte l D cB cI a bz ha S x1) (kw_Bus_readByte hts q_314 ⟨Nat.le_of_ble_eq_true rfl, Nat.le_of_ble_eq_true rfl⟩) 1 rfl rfl rfl hl.1 rfl (lv_room (Nat.le_of_ble_eq_true rfl)) d_Bus_readValue_14 (fun r2 S3 H locs e4 hP hS => ?_)
    exact rt_vs X hr hk hP hS (by rw [f_Bus_readValue, if_pos h1, bn_eq e4]) d_Bus_readValue_17
  ·
    refine lv_aload_n hx hb d_Bus_readValue_4 rfl (lv_at hl 0 rfl) ?_
    refine lv_iload_n hx hb d_Bus_readValue_5 rfl (lv_at hl 1 rfl) ?_
    refine kv_vs (rest := []) X hP hS (c_Bus_readWord l D cB cI a bz ha S x1) (kw_Bus_readWord hts q_395 ⟨Nat.le_of_ble_eq_true rfl, Nat.le_of_ble_eq_true rfl⟩) 1 rfl rfl rfl hl.1 rfl (lv_room (Nat.le_of_ble_eq_true rfl)) d_Bus_readValue_6 (fun r5 S6 H locs e7 hP hS => ?_)
    refine lv_goto (tgt := 17) hx hb d_Bus_readValue_9 rfl ?_
    exact rt_vs X hr hk hP hS (by rw [f_Bus_readValue, if_neg h1, bn_eq e7]) d_Bus_readValue_17
set_option maxHeartbeats 4000000 in
set_option maxRecDepth 100000 in
theorem c_Bus_latestTouch (l : Launch) (D : va_G) (cB cI : ClassId) (a : Nat → Nat) (bz : Nat) (ha : ap a 8) (S : Sc) (x1 : Int32) : MI l y_Bus_latestTouch b_Bus_latestTouch 2 (some .int) rm_Bus_latestTouch [.ref (a 1), .int x1] D cB cI (wdC cB cI a) (ow a 8) bz S (f_Bus_latestTouch S x1, S) := by
  refine met_in R_Bus (by decide) rfl (Nat.le_of_ble_eq_true rfl) (wdC_D ha cB cI) ?_
  intro p e s m below meth c ls X hr hk hl hP hS
  have hx := X.1.1
  have hb := X.1.2.1
  have hown := X.1.2.2.2.1
  have hts := X.1.2.2.2.2
  have hl : lv_has ls 2 [(0, .ref (a 1)), (1, .int x1)] := hl
  refine lv_aload_n hx hb d_Bus_latestTouch_0 rfl (lv_at hl 0 rfl) ?_
  refine gt_Bus X hP 1 (by decide) (v := .ref (a 7)) q_90 rfl d_Bus_latestTouch_1 ?_
  refine lv_aload_n hx hb d_Bus_latestTouch_4 rfl (lv_at hl 0 rfl) ?_
  refine gt_Bus X hP 2 (by decide) (v := .int (S.1 9)) q_91 rfl d_Bus_latestTouch_5 ?_
  refine lv_iconst (v := (1 : Int32)) hx hb d_Bus_latestTouch_8 (by decide) ?_
  refine lv_isub hx hb d_Bus_latestTouch_9 ?_
  refine lv_iload_n hx hb d_Bus_latestTouch_10 rfl (lv_at hl 1 rfl) ?_
  refine lv_isub hx hb d_Bus_latestTouch_11 ?_
  refine lv_bipush (v := (7 : Int32)) hx hb d_Bus_latestTouch_12 (by decide) ?_
  refine lv_iand hx hb d_Bus_latestTouch_14 ?_
  refine rdi_ X hP 7 rfl (v := S.2.2 (((((S.1 9) - (1 : Int32)) - x1) &&& (7 : Int32))).toNatClampNeg) (in_and7 _) rfl d_Bus_latestTouch_15 ?_
  exact rt_vs X hr hk hP hS (by rw [f_Bus_latestTouch]) d_Bus_latestTouch_16
end
section
set_option maxHeartbeats 4000000 in
set_option maxRecDepth 100000 in
theorem c_Reg_wideIndex (l : Launch) (D : va_G) (cB cI : ClassId) (a : Nat → Nat) (bz : Nat) (ha : ap a 8) (S : Sc) : MI l y_Reg_wideIndex b_Reg_wideIndex 1 (some .boolean) rm_Reg_wideIndex [.ref (a 2)] D cB cI (wdC cB cI a) (ow a 8) bz S (f_Reg_wideIndex S, S) := by
  refine met_in R_Reg (by decide) rfl (Nat.le_of_ble_eq_true rfl) (wdC_D ha cB cI) ?_
  intro p e s m below meth c ls X hr hk hl hP hS
  have hx := X.1.1
  have hb := X.1.2.1
  have hown := X.1.2.2.2.1
  have hts := X.1.2.2.2.2
  have hl : lv_has ls 1 [(0, .ref (a 2))] := hl
  refine lv_aload_n hx hb d_Reg_wideIndex_0 rfl (lv_at hl 0 rfl) ?_
  refine gt_Reg X hP 8 (by decide) (v := .int (S.1 8)) q_140 rfl d_Reg_wideIndex_1 ?_
  refine lv_bipush (v := (16 : Int32)) hx hb d_Reg_wideIndex_4 (by decide) ?_
  refine lv_iand hx hb d_Reg_wideIndex_6 ?_
  refine lv_if_ne (tgt := 14) hx hb d_Reg_wideIndex_7 rfl (fun h1 => ?_) (fun h1 => ?_)
  ·
    refine lv_iconst (v := (0 : Int32)) hx hb d_Reg_wideIndex_14 (by decide) ?_
    exact rt_z X hr hk hP hS (by decide) (by rw [f_Reg_wideIndex, if_neg h1]) d_Reg_wideIndex_15
  ·
    refine lv_iconst (v := (1 : Int32)) hx hb d_Reg_wideIndex_10 (by decide) ?_
    refine lv_goto (tgt := 15) hx hb d_Reg_wideIndex_11 rfl ?_
    exact rt_z X hr hk hP hS (by decide) (by rw [f_Reg_wideIndex, if_pos h1]) d_Reg_wideIndex_15
set_option maxHeartbeats 4000000 in
set_option maxRecDepth 100000 in
theorem c_Reg_maskOf (l : Launch) (D : va_G) (cB cI : ClassId) (a : Nat → Nat) (bz : Nat) (ha : ap a 8) (S : Sc) (x0 : Int32) : MI l y_Reg_maskOf b_Reg_maskOf 1 (some .int) rm_Reg_maskOf [.int x0] D cB cI (wdC cB cI a) (ow a 8) bz S (f_Reg_maskOf x0, S) := by
  refine met_in R_Reg (by decide) rfl (Nat.le_of_ble_eq_true rfl) (wdC_D ha cB cI) ?_
  intro p e s m below meth c ls X hr hk hl hP hS
  have hx := X.1.1
  have hb := X.1.2.1
  have hown := X.1.2.2.2.1
  have hts := X.1.2.2.2.2
  have hl : lv_has ls 1 [(0, .int x0)] := hl
  refine lv_iload_n hx hb d_Reg_maskOf_0 rfl (lv_at hl 0 rfl) ?_
  refine lv_if_eq (tgt := 9) hx hb d_Reg_maskOf_1 rfl (fun h1 => ?_) (fun h1 => ?_)
  ·
    refine lv_sipush (v := (255 : Int32)) hx hb d_Reg_maskOf_9 (by decide) ?_
    exact rt_vs X hr hk hP hS (by rw [f_Reg_maskOf, if_pos h1]) d_Reg_maskOf_12
  ·
    refine lv_ldc (v := (65535 : Int32)) hx hb hown (hts _ q_261) d_Reg_maskOf_4 ?_
    refine lv_goto (tgt := 12) hx hb d_Reg_maskOf_6 rfl ?_
    exact rt_vs X hr hk hP hS (by rw [f_Reg_maskOf, if_neg h1]) d_Reg_maskOf_12
set_option maxHeartbeats 4000000 in
set_option maxRecDepth 100000 in
theorem c_Reg_indexMask (l : Launch) (D : va_G) (cB cI : ClassId) (a : Nat → Nat) (bz : Nat) (ha : ap a 8) (S : Sc) : MI l y_Reg_indexMask b_Reg_indexMask 1 (some .int) rm_Reg_indexMask [.ref (a 2)] D cB cI (wdC cB cI a) (ow a 8) bz S (f_Reg_indexMask S, S) := by
  refine met_in R_Reg (by decide) rfl (Nat.le_of_ble_eq_true rfl) (wdC_D ha cB cI) ?_
  intro p e s m below meth c ls X hr hk hl hP hS
  have hx := X.1.1
  have hb := X.1.2.1
  have hown := X.1.2.2.2.1
  have hts := X.1.2.2.2.2
  have hl : lv_has ls 1 [(0, .ref (a 2))] := hl
  refine lv_aload_n hx hb d_Reg_indexMask_0 rfl (lv_at hl 0 rfl) ?_
  refine kv_v (rest := []) X hP hS (c_Reg_wideIndex l D cB cI a bz ha S) (kw_Reg_wideIndex hts q_254 ⟨Nat.le_of_ble_eq_true rfl, Nat.le_of_ble_eq_true rfl⟩) 2 rfl rfl rfl hl.1 rfl (lv_room (Nat.le_of_ble_eq_true rfl)) d_Reg_indexMask_1 (fun H locs hP hS => ?_)
  refine ks_v (rest := []) X hP hS (c_Reg_maskOf l D cB cI a bz ha S (f_Reg_wideIndex S)) (kw_Reg_maskOf hts q_258 ⟨Nat.le_of_ble_eq_true rfl, Nat.le_of_ble_eq_true rfl⟩) rfl hl.1 rfl (lv_room (Nat.le_of_ble_eq_true rfl)) d_Reg_indexMask_4 (fun H locs hP hS => ?_)
  exact rt_vs X hr hk hP hS (by rw [f_Reg_indexMask]) d_Reg_indexMask_7
set_option maxHeartbeats 4000000 in
set_option maxRecDepth 100000 in
theorem c_Reg_replaceP (l : Launch) (D : va_G) (cB cI : ClassId) (a : Nat → Nat) (bz : Nat) (ha : ap a 8) (S : Sc) (x1 : Int32) : MV l y_Reg_replaceP b_Reg_replaceP 2 rm_Reg_replaceP [.ref (a 2), .int x1] D cB cI (wdC cB cI a) (ow a 8) bz S (f_Reg_replaceP S x1) := by
  refine met_in R_Reg (by decide) rfl (Nat.le_of_ble_eq_true rfl) (wdC_D ha cB cI) ?_
  intro p e s m below meth c ls X hr hk hl hP hS
  have hx := X.1.1
  have hb := X.1.2.1
  have hown := X.1.2.2.2.1
  have hts := X.1.2.2.2.2
  have hl : lv_has ls 2 [(0, .ref (a 2)), (1, .int x1)] := hl
  refine lv_aload_n hx hb d_Reg_replaceP_0 rfl (lv_at hl 0 rfl) ?_
  refine lv_iload_n hx hb d_Reg_replaceP_1 rfl (lv_at hl 1 rfl) ?_
  refine pt_Reg X hP hS 8 (by decide) (v := x1) (S1 := (pr S 8 (x1))) q_140 rfl rfl rfl rfl d_Reg_replaceP_2 (fun H locs hP hS => ?_)
  refine lv_aload_n hx hb d_Reg_replaceP_5 rfl (lv_at hl 0 rfl) ?_
  refine lv_dup hx hb d_Reg_replaceP_6 rfl ?_
  refine gt_Reg X hP 1 (by decide) (v := .int (S.1 1)) q_114 rfl d_Reg_replaceP_7 ?_
  refine lv_aload_n hx hb d_Reg_replaceP_10 rfl (lv_at hl 0 rfl) ?_
  refine kv_v (rest := [.int (S.1 1), .ref (a 2)]) X hP hS (c_Reg_indexMask l D cB cI a bz ha (pr S 8 (x1))) (kw_Reg_indexMask hts q_266 ⟨Nat.le_of_ble_eq_true rfl, Nat.le_of_ble_eq_true rfl⟩) 2 rfl rfl rfl hl.1 rfl (lv_room (Nat.le_of_ble_eq_true rfl)) d_Reg_replaceP_11 (fun H locs hP hS => ?_)
  refine lv_iand hx hb d_Reg_replaceP_14 ?_
  refine pt_Reg X hP hS 1 (by decide) (v := ((S.1 1) &&& (f_Reg_indexMask (pr S 8 (x1))))) (S1 := (pr (pr S 8 (x1)) 1 (((S.1 1) &&& (f_Reg_indexMask (pr S 8 (x1))))))) q_114 rfl rfl rfl rfl d_Reg_replaceP_15 (fun H locs hP hS => ?_)
  refine lv_aload_n hx hb d_Reg_replaceP_18 rfl (lv_at hl 0 rfl) ?_
  refine lv_dup hx hb d_Reg_replaceP_19 rfl ?_
  refine gt_Reg X hP 2 (by decide) (v := .int (S.1 2)) q_118 rfl d_Reg_replaceP_20 ?_
  refine lv_aload_n hx hb d_Reg_replaceP_23 rfl (lv_at hl 0 rfl) ?_
  refine kv_v (rest := [.int (S.1 2), .ref (a 2)]) X hP hS (c_Reg_indexMask l D cB cI a bz ha (pr (pr S 8 (x1)) 1 (((S.1 1) &&& (f_Reg_indexMask (pr S 8 (x1))))))) (kw_Reg_indexMask hts q_266 ⟨Nat.le_of_ble_eq_true rfl, Nat.le_of_ble_eq_true rfl⟩) 2 rfl rfl rfl hl.1 rfl (lv_room (Nat.le_of_ble_eq_true rfl)) d_Reg_replaceP_24 (fun H locs hP hS => ?_)
  refine lv_iand hx hb d_Reg_replaceP_27 ?_
  refine pt_Reg X hP hS 2 (by decide) (v := ((S.1 2) &&& (f_Reg_indexMask (pr (pr S 8 (x1)) 1 (((S.1 1) &&& (f_Reg_indexMask (pr S 8 (x1))))))))) (S1 := (pr (pr (pr S 8 (x1)) 1 (((S.1 1) &&& (f_Reg_indexMask (pr S 8 (x1)))))) 2 (((S.1 2) &&& (f_Reg_indexMask (pr (pr S 8 (x1)) 1 (((S.1 1) &&& (f_Reg_indexMask (pr S 8 (x1))))))))))) q_118 rfl rfl rfl rfl d_Reg_replaceP_28 (fun H locs hP hS => ?_)
  exact rt_s X hr hk hP hS (by rw [f_Reg_replaceP]) d_Reg_replaceP_31
set_option maxHeartbeats 4000000 in
set_option maxRecDepth 100000 in
theorem c_Reg_putFlag (l : Launch) (D : va_G) (cB cI : ClassId) (a : Nat → Nat) (bz : Nat) (ha : ap a 8) (S : Sc) (x1 x2 : Int32) : MV l y_Reg_putFlag b_Reg_putFlag 3 rm_Reg_putFlag [.ref (a 2), .int x1, .int x2] D cB cI (wdC cB cI a) (ow a 8) bz S (f_Reg_putFlag S x1 x2) := by
  refine met_in R_Reg (by decide) rfl (Nat.le_of_ble_eq_true rfl) (wdC_D ha cB cI) ?_
  intro p e s m below meth c ls X hr hk hl hP hS
  have hx := X.1.1
  have hb := X.1.2.1
  have hown := X.1.2.2.2.1
  have hts := X.1.2.2.2.2
  have hl : lv_has ls 3 [(0, .ref (a 2)), (1, .int x1), (2, .int x2)] := hl
  refine lv_aload_n hx hb d_Reg_putFlag_0 rfl (lv_at hl 0 rfl) ?_
  refine lv_iload_n hx hb d_Reg_putFlag_1 rfl (lv_at hl 2 rfl) ?_
  refine lv_if_eq (tgt := 14) hx hb d_Reg_putFlag_2 rfl (fun h1 => ?_) (fun h1 => ?_)
  ·
    refine lv_aload_n hx hb d_Reg_putFlag_14 rfl (lv_at hl 0 rfl) ?_
    refine gt_Reg X hP 8 (by decide) (v := .int (S.1 8)) q_140 rfl d_Reg_putFlag_15 ?_
    refine lv_iload_n hx hb d_Reg_putFlag_18 rfl (lv_at hl 1 rfl) ?_
    refine lv_iconst (v := (-1 : Int32)) hx hb d_Reg_putFlag_19 (by decide) ?_
    refine lv_ixor hx hb d_Reg_putFlag_20 ?_
    refine lv_iand hx hb d_Reg_putFlag_21 ?_
    refine pt_Reg X hP hS 8 (by decide) (v := ((S.1 8) &&& (x1 ^^^ (-1 : Int32)))) (S1 := (pr S 8 (((S.1 8) &&& (x1 ^^^ (-1 : Int32)))))) q_140 rfl rfl rfl rfl d_Reg_putFlag_22 (fun H locs hP hS => ?_)
    exact rt_s X hr hk hP hS (by rw [f_Reg_putFlag, if_pos h1]) d_Reg_putFlag_25
  ·
    refine lv_aload_n hx hb d_Reg_putFlag_5 rfl (lv_at hl 0 rfl) ?_
    refine gt_Reg X hP 8 (by decide) (v := .int (S.1 8)) q_140 rfl d_Reg_putFlag_6 ?_
    refine lv_iload_n hx hb d_Reg_putFlag_9 rfl (lv_at hl 1 rfl) ?_
    refine lv_ior hx hb d_Reg_putFlag_10 ?_
    refine lv_goto (tgt := 22) hx hb d_Reg_putFlag_11 rfl ?_
    refine pt_Reg X hP hS 8 (by decide) (v := ((S.1 8) ||| x1)) (S1 := (pr S 8 (((S.1 8) ||| x1)))) q_140 rfl rfl rfl rfl d_Reg_putFlag_22 (fun H locs hP hS => ?_)
    exact rt_s X hr hk hP hS (by rw [f_Reg_putFlag, if_neg h1]) d_Reg_putFlag_25
set_option maxHeartbeats 4000000 in
set_option maxRecDepth 100000 in
theorem c_Reg_has (l : Launch) (D : va_G) (cB cI : ClassId) (a : Nat → Nat) (bz : Nat) (ha : ap a 8) (S : Sc) (x1 : Int32) : MI l y_Reg_has b_Reg_has 2 (some .boolean) rm_Reg_has [.ref (a 2), .int x1] D cB cI (wdC cB cI a) (ow a 8) bz S (f_Reg_has S x1, S) := by
  refine met_in R_Reg (by decide) rfl (Nat.le_of_ble_eq_true rfl) (wdC_D ha cB cI) ?_
  intro p e s m below meth c ls X hr hk hl hP hS
  have hx := X.1.1
  have hb := X.1.2.1
  have hown := X.1.2.2.2.1
  have hts := X.1.2.2.2.2
  have hl : lv_has ls 2 [(0, .ref (a 2)), (1, .int x1)] := hl
  refine lv_aload_n hx hb d_Reg_has_0 rfl (lv_at hl 0 rfl) ?_
  refine gt_Reg X hP 8 (by decide) (v := .int (S.1 8)) q_140 rfl d_Reg_has_1 ?_
  refine lv_iload_n hx hb d_Reg_has_4 rfl (lv_at hl 1 rfl) ?_
  refine lv_iand hx hb d_Reg_has_5 ?_
  refine lv_if_eq (tgt := 13) hx hb d_Reg_has_6 rfl (fun h1 => ?_) (fun h1 => ?_)
  ·
    refine lv_iconst (v := (0 : Int32)) hx hb d_Reg_has_13 (by decide) ?_
    exact rt_z X hr hk hP hS (by decide) (by rw [f_Reg_has, if_pos h1]) d_Reg_has_14
  ·
    refine lv_iconst (v := (1 : Int32)) hx hb d_Reg_has_9 (by decide) ?_
    refine lv_goto (tgt := 14) hx hb d_Reg_has_10 rfl ?_
    exact rt_z X hr hk hP hS (by decide) (by rw [f_Reg_has, if_neg h1]) d_Reg_has_14
set_option maxHeartbeats 4000000 in
set_option maxRecDepth 100000 in
theorem c_Reg_wideA (l : Launch) (D : va_G) (cB cI : ClassId) (a : Nat → Nat) (bz : Nat) (ha : ap a 8) (S : Sc) : MI l y_Reg_wideA b_Reg_wideA 1 (some .boolean) rm_Reg_wideA [.ref (a 2)] D cB cI (wdC cB cI a) (ow a 8) bz S (f_Reg_wideA S, S) := by
  refine met_in R_Reg (by decide) rfl (Nat.le_of_ble_eq_true rfl) (wdC_D ha cB cI) ?_
  intro p e s m below meth c ls X hr hk hl hP hS
  have hx := X.1.1
  have hb := X.1.2.1
  have hown := X.1.2.2.2.1
  have hts := X.1.2.2.2.2
  have hl : lv_has ls 1 [(0, .ref (a 2))] := hl
  refine lv_aload_n hx hb d_Reg_wideA_0 rfl (lv_at hl 0 rfl) ?_
  refine gt_Reg X hP 8 (by decide) (v := .int (S.1 8)) q_140 rfl d_Reg_wideA_1 ?_
  refine lv_bipush (v := (32 : Int32)) hx hb d_Reg_wideA_4 (by decide) ?_
  refine lv_iand hx hb d_Reg_wideA_6 ?_
  refine lv_if_ne (tgt := 14) hx hb d_Reg_wideA_7 rfl (fun h1 => ?_) (fun h1 => ?_)
  ·
    refine lv_iconst (v := (0 : Int32)) hx hb d_Reg_wideA_14 (by decide) ?_
    exact rt_z X hr hk hP hS (by decide) (by rw [f_Reg_wideA, if_neg h1]) d_Reg_wideA_15
  ·
    refine lv_iconst (v := (1 : Int32)) hx hb d_Reg_wideA_10 (by decide) ?_
    refine lv_goto (tgt := 15) hx hb d_Reg_wideA_11 rfl ?_
    exact rt_z X hr hk hP hS (by decide) (by rw [f_Reg_wideA, if_pos h1]) d_Reg_wideA_15
set_option maxHeartbeats 4000000 in
set_option maxRecDepth 100000 in
theorem c_Reg_a (l : Launch) (D : va_G) (cB cI : ClassId) (a : Nat → Nat) (bz : Nat) (ha : ap a 8) (S : Sc) : MI l y_Reg_a b_Reg_a 1 (some .int) rm_Reg_a [.ref (a 2)] D cB cI (wdC cB cI a) (ow a 8) bz S (f_Reg_a S, S) := by
  refine met_in R_Reg (by decide) rfl (Nat.le_of_ble_eq_true rfl) (wdC_D ha cB cI) ?_
  intro p e s m below meth c ls X hr hk hl hP hS
  have hx := X.1.1
  have hb := X.1.2.1
  have hown := X.1.2.2.2.1
  have hts := X.1.2.2.2.2
  have hl : lv_has ls 1 [(0, .ref (a 2))] := hl
  refine lv_aload_n hx hb d_Reg_a_0 rfl (lv_at hl 0 rfl) ?_
  refine gt_Reg X hP 0 (by decide) (v := .int (S.1 0)) q_110 rfl d_Reg_a_1 ?_
  refine lv_aload_n hx hb d_Reg_a_4 rfl (lv_at hl 0 rfl) ?_
  refine kv_v (rest := [.int (S.1 0)]) X hP hS (c_Reg_wideA l D cB cI a bz ha S) (kw_Reg_wideA hts q_400 ⟨Nat.le_of_ble_eq_true rfl, Nat.le_of_ble_eq_true rfl⟩) 2 rfl rfl rfl hl.1 rfl (lv_room (Nat.le_of_ble_eq_true rfl)) d_Reg_a_5 (fun H locs hP hS => ?_)
  refine ks_v (rest := [.int (S.1 0)]) X hP hS (c_Reg_maskOf l D cB cI a bz ha S (f_Reg_wideA S)) (kw_Reg_maskOf hts q_258 ⟨Nat.le_of_ble_eq_true rfl, Nat.le_of_ble_eq_true rfl⟩) rfl hl.1 rfl (lv_room (Nat.le_of_ble_eq_true rfl)) d_Reg_a_8 (fun H locs hP hS => ?_)
  refine lv_iand hx hb d_Reg_a_11 ?_
  exact rt_vs X hr hk hP hS (by rw [f_Reg_a]) d_Reg_a_12
set_option maxHeartbeats 4000000 in
set_option maxRecDepth 100000 in
theorem c_Reg_signOf (l : Launch) (D : va_G) (cB cI : ClassId) (a : Nat → Nat) (bz : Nat) (ha : ap a 8) (S : Sc) (x0 : Int32) : MI l y_Reg_signOf b_Reg_signOf 1 (some .int) rm_Reg_signOf [.int x0] D cB cI (wdC cB cI a) (ow a 8) bz S (f_Reg_signOf x0, S) := by
  refine met_in R_Reg (by decide) rfl (Nat.le_of_ble_eq_true rfl) (wdC_D ha cB cI) ?_
  intro p e s m below meth c ls X hr hk hl hP hS
  have hx := X.1.1
  have hb := X.1.2.1
  have hown := X.1.2.2.2.1
  have hts := X.1.2.2.2.2
  have hl : lv_has ls 1 [(0, .int x0)] := hl
  refine lv_iload_n hx hb d_Reg_signOf_0 rfl (lv_at hl 0 rfl) ?_
  refine lv_if_eq (tgt := 9) hx hb d_Reg_signOf_1 rfl (fun h1 => ?_) (fun h1 => ?_)
  ·
    refine lv_sipush (v := (128 : Int32)) hx hb d_Reg_signOf_9 (by decide) ?_
    exact rt_vs X hr hk hP hS (by rw [f_Reg_signOf, if_pos h1]) d_Reg_signOf_12
  ·
    refine lv_ldc (v := (32768 : Int32)) hx hb hown (hts _ q_412) d_Reg_signOf_4 ?_
    refine lv_goto (tgt := 12) hx hb d_Reg_signOf_6 rfl ?_
    exact rt_vs X hr hk hP hS (by rw [f_Reg_signOf, if_neg h1]) d_Reg_signOf_12
set_option maxHeartbeats 4000000 in
set_option maxRecDepth 100000 in
theorem c_Reg_showResult (l : Launch) (D : va_G) (cB cI : ClassId) (a : Nat → Nat) (bz : Nat) (ha : ap a 8) (S : Sc) (x1 x2 : Int32) : MV l y_Reg_showResult b_Reg_showResult 5 rm_Reg_showResult [.ref (a 2), .int x1, .int x2] D cB cI (wdC cB cI a) (ow a 8) bz S (f_Reg_showResult S x1 x2) := by
  refine met_in R_Reg (by decide) rfl (Nat.le_of_ble_eq_true rfl) (wdC_D ha cB cI) ?_
  intro p e s m below meth c ls X hr hk hl hP hS
  have hx := X.1.1
  have hb := X.1.2.1
  have hown := X.1.2.2.2.1
  have hts := X.1.2.2.2.2
  have hl : lv_has ls 5 [(0, .ref (a 2)), (1, .int x1), (2, .int x2)] := hl
  refine lv_iload_n hx hb d_Reg_showResult_0 rfl (lv_at hl 1 rfl) ?_
  refine lv_iload_n hx hb d_Reg_showResult_1 rfl (lv_at hl 2 rfl) ?_
  refine ks_v (rest := [.int (x1)]) X hP hS (c_Reg_signOf l D cB cI a bz ha S x2) (kw_Reg_signOf hts q_409 ⟨Nat.le_of_ble_eq_true rfl, Nat.le_of_ble_eq_true rfl⟩) rfl hl.1 rfl (lv_room (Nat.le_of_ble_eq_true rfl)) d_Reg_showResult_2 (fun H locs hP hS => ?_)
  refine lv_iand hx hb d_Reg_showResult_5 ?_
  refine lv_if_eq (tgt := 15) hx hb d_Reg_showResult_6 rfl (fun h1 => ?_) (fun h1 => ?_)
  ·
    refine lv_iconst (v := (0 : Int32)) hx hb d_Reg_showResult_15 (by decide) ?_
    refine lv_istore_n hx hb d_Reg_showResult_16 rfl hl (Nat.le_of_ble_eq_true rfl) rfl (fun ls hl => ?_)
    have hl : lv_has ls 5 [(3, .int ((0 : Int32))), (0, .ref (a 2)), (1, .int (x1)), (2, .int (x2))] := hl
    refine lv_iload_n hx hb d_Reg_showResult_17 rfl (lv_at hl 2 rfl) ?_
    refine lv_if_ne (tgt := 25) hx hb d_Reg_showResult_18 rfl (fun h2 => ?_) (fun h2 => ?_)
    ·
      refine lv_iconst (v := (0 : Int32)) hx hb d_Reg_showResult_25 (by decide) ?_
      refine lv_istore hx hb d_Reg_showResult_26 hl (Nat.le_of_ble_eq_true rfl) rfl (fun ls hl => ?_)
      have hl : lv_has ls 5 [(4, .int ((0 : Int32))), (3, .int ((0 : Int32))), (0, .ref (a 2)), (1, .int (x1)), (2, .int (x2))] := hl
      refine lv_aload_n hx hb d_Reg_showResult_28 rfl (lv_at hl 2 rfl) ?_
      refine lv_aload_n hx hb d_Reg_showResult_29 rfl (lv_at hl 2 rfl) ?_
      refine gt_Reg X hP 8 (by decide) (v := .int (S.1 8)) q_140 rfl d_Reg_showResult_30 ?_
      refine lv_sipush (v := (-131 : Int32)) hx hb d_Reg_showResult_33 (by decide) ?_
      refine lv_iand hx hb d_Reg_showResult_36 ?_
      refine lv_iload_n hx hb d_Reg_showResult_37 rfl (lv_at hl 1 rfl) ?_
      refine lv_ior hx hb d_Reg_showResult_38 ?_
      refine lv_iload hx hb d_Reg_showResult_39 (lv_at hl 0 rfl) ?_
      refine lv_ior hx hb d_Reg_showResult_41 ?_
      refine pt_Reg X hP hS 8 (by decide) (v := ((((S.1 8) &&& (-131 : Int32)) ||| (0 : Int32)) ||| (0 : Int32))) (S1 := (pr S 8 (((((S.1 8) &&& (-131 : Int32)) ||| (0 : Int32)) ||| (0 : Int32))))) q_140 rfl rfl rfl rfl d_Reg_showResult_42 (fun H locs hP hS => ?_)
      exact rt_s X hr hk hP hS (by rw [f_Reg_showResult, if_pos h1, if_neg h2]) d_Reg_showResult_45
    ·
      refine lv_iconst (v := (2 : Int32)) hx hb d_Reg_showResult_21 (by decide) ?_
      refine lv_goto (tgt := 26) hx hb d_Reg_showResult_22 rfl ?_
      refine lv_istore hx hb d_Reg_showResult_26 hl (Nat.le_of_ble_eq_true rfl) rfl (fun ls hl => ?_)
      have hl : lv_has ls 5 [(4, .int ((2 : Int32))), (3, .int ((0 : Int32))), (0, .ref (a 2)), (1, .int (x1)), (2, .int (x2))] := hl
      refine lv_aload_n hx hb d_Reg_showResult_28 rfl (lv_at hl 2 rfl) ?_
      refine lv_aload_n hx hb d_Reg_showResult_29 rfl (lv_at hl 2 rfl) ?_
      refine gt_Reg X hP 8 (by decide) (v := .int (S.1 8)) q_140 rfl d_Reg_showResult_30 ?_
      refine lv_sipush (v := (-131 : Int32)) hx hb d_Reg_showResult_33 (by decide) ?_
      refine lv_iand hx hb d_Reg_showResult_36 ?_
      refine lv_iload_n hx hb d_Reg_showResult_37 rfl (lv_at hl 1 rfl) ?_
      refine lv_ior hx hb d_Reg_showResult_38 ?_
      refine lv_iload hx hb d_Reg_showResult_39 (lv_at hl 0 rfl) ?_
      refine lv_ior hx hb d_Reg_showResult_41 ?_
      refine pt_Reg X hP hS 8 (by decide) (v := ((((S.1 8) &&& (-131 : Int32)) ||| (0 : Int32)) ||| (2 : Int32))) (S1 := (pr S 8 (((((S.1 8) &&& (-131 : Int32)) ||| (0 : Int32)) ||| (2 : Int32))))) q_140 rfl rfl rfl rfl d_Reg_showResult_42 (fun H locs hP hS => ?_)
      exact rt_s X hr hk hP hS (by rw [f_Reg_showResult, if_pos h1, if_pos h2]) d_Reg_showResult_45
  ·
    refine lv_sipush (v := (128 : Int32)) hx hb d_Reg_showResult_9 (by decide) ?_
    refine lv_goto (tgt := 16) hx hb d_Reg_showResult_12 rfl ?_
    refine lv_istore_n hx hb d_Reg_showResult_16 rfl hl (Nat.le_of_ble_eq_true rfl) rfl (fun ls hl => ?_)
    have hl : lv_has ls 5 [(3, .int ((128 : Int32))), (0, .ref (a 2)), (1, .int (x1)), (2, .int (x2))] := hl
    refine lv_iload_n hx hb d_Reg_showResult_17 rfl (lv_at hl 2 rfl) ?_
    refine lv_if_ne (tgt := 25) hx hb d_Reg_showResult_18 rfl (fun h3 => ?_) (fun h3 => ?_)
    ·
      refine lv_iconst (v := (0 : Int32)) hx hb d_Reg_showResult_25 (by decide) ?_
      refine lv_istore hx hb d_Reg_showResult_26 hl (Nat.le_of_ble_eq_true rfl) rfl (fun ls hl => ?_)
      have hl : lv_has ls 5 [(4, .int ((0 : Int32))), (3, .int ((128 : Int32))), (0, .ref (a 2)), (1, .int (x1)), (2, .int (x2))] := hl
      refine lv_aload_n hx hb d_Reg_showResult_28 rfl (lv_at hl 2 rfl) ?_
      refine lv_aload_n hx hb d_Reg_showResult_29 rfl (lv_at hl 2 rfl) ?_
      refine gt_Reg X hP 8 (by decide) (v := .int (S.1 8)) q_140 rfl d_Reg_showResult_30 ?_
      refine lv_sipush (v := (-131 : Int32)) hx hb d_Reg_showResult_33 (by decide) ?_
      refine lv_iand hx hb d_Reg_showResult_36 ?_
      refine lv_iload_n hx hb d_Reg_showResult_37 rfl (lv_at hl 1 rfl) ?_
      refine lv_ior hx hb d_Reg_showResult_38 ?_
      refine lv_iload hx hb d_Reg_showResult_39 (lv_at hl 0 rfl) ?_
      refine lv_ior hx hb d_Reg_showResult_41 ?_
      refine pt_Reg X hP hS 8 (by decide) (v := ((((S.1 8) &&& (-131 : Int32)) ||| (128 : Int32)) ||| (0 : Int32))) (S1 := (pr S 8 (((((S.1 8) &&& (-131 : Int32)) ||| (128 : Int32)) ||| (0 : Int32))))) q_140 rfl rfl rfl rfl d_Reg_showResult_42 (fun H locs hP hS => ?_)
      exact rt_s X hr hk hP hS (by rw [f_Reg_showResult, if_neg h1, if_neg h3]) d_Reg_showResult_45
    ·
      refine lv_iconst (v := (2 : Int32)) hx hb d_Reg_showResult_21 (by decide) ?_
      refine lv_goto (tgt := 26) hx hb d_Reg_showResult_22 rfl ?_
      refine lv_istore hx hb d_Reg_showResult_26 hl (Nat.le_of_ble_eq_true rfl) rfl (fun ls hl => ?_)
      have hl : lv_has ls 5 [(4, .int ((2 : Int32))), (3, .int ((128 : Int32))), (0, .ref (a 2)), (1, .int (x1)), (2, .int (x2))] := hl
      refine lv_aload_n hx hb d_Reg_showResult_28 rfl (lv_at hl 2 rfl) ?_
      refine lv_aload_n hx hb d_Reg_showResult_29 rfl (lv_at hl 2 rfl) ?_
      refine gt_Reg X hP 8 (by decide) (v := .int (S.1 8)) q_140 rfl d_Reg_showResult_30 ?_
      refine lv_sipush (v := (-131 : Int32)) hx hb d_Reg_showResult_33 (by decide) ?_
      refine lv_iand hx hb d_Reg_showResult_36 ?_
      refine lv_iload_n hx hb d_Reg_showResult_37 rfl (lv_at hl 1 rfl) ?_
      refine lv_ior hx hb d_Reg_showResult_38 ?_
      refine lv_iload hx hb d_Reg_showResult_39 (lv_at hl 0 rfl) ?_
      refine lv_ior hx hb d_Reg_showResult_41 ?_
      refine pt_Reg X hP hS 8 (by decide) (v := ((((S.1 8) &&& (-131 : Int32)) ||| (128 : Int32)) ||| (2 : Int32))) (S1 := (pr S 8 (((((S.1 8) &&& (-131 : Int32)) ||| (128 : Int32)) ||| (2 : Int32))))) q_140 rfl rfl rfl rfl d_Reg_showResult_42 (fun H locs hP hS => ?_)
      exact rt_s X hr hk hP hS (by rw [f_Reg_showResult, if_neg h1, if_pos h3]) d_Reg_showResult_45
set_option maxHeartbeats 4000000 in
set_option maxRecDepth 100000 in
theorem c_Reg_loadA (l : Launch) (D : va_G) (cB cI : ClassId) (a : Nat → Nat) (bz : Nat) (ha : ap a 8) (S : Sc) (x1 : Int32) : MV l y_Reg_loadA b_Reg_loadA 3 rm_Reg_loadA [.ref (a 2), .int x1] D cB cI (wdC cB cI a) (ow a 8) bz S (f_Reg_loadA S x1) := by
  refine met_in R_Reg (by decide) rfl (Nat.le_of_ble_eq_true rfl) (wdC_D ha cB cI) ?_
  intro p e s m below meth c ls X hr hk hl hP hS
  have hx := X.1.1
  have hb := X.1.2.1
  have hown := X.1.2.2.2.1
  have hts := X.1.2.2.2.2
  have hl : lv_has ls 3 [(0, .ref (a 2)), (1, .int x1)] := hl
  refine lv_aload_n hx hb d_Reg_loadA_0 rfl (lv_at hl 0 rfl) ?_
  refine kv_v (rest := []) X hP hS (c_Reg_wideA l D cB cI a bz ha S) (kw_Reg_wideA hts q_400 ⟨Nat.le_of_ble_eq_true rfl, Nat.le_of_ble_eq_true rfl⟩) 2 rfl rfl rfl hl.1 rfl (lv_room (Nat.le_of_ble_eq_true rfl)) d_Reg_loadA_1 (fun H locs hP hS => ?_)
  refine ks_v (rest := []) X hP hS (c_Reg_maskOf l D cB cI a bz ha S (f_Reg_wideA S)) (kw_Reg_maskOf hts q_258 ⟨Nat.le_of_ble_eq_true rfl, Nat.le_of_ble_eq_true rfl⟩) rfl hl.1 rfl (lv_room (Nat.le_of_ble_eq_true rfl)) d_Reg_loadA_4 (fun H locs hP hS => ?_)
  refine lv_istore_n hx hb d_Reg_loadA_7 rfl hl (Nat.le_of_ble_eq_true rfl) rfl (fun ls hl => ?_)
  have hl : lv_has ls 3 [(2, .int ((f_Reg_maskOf (f_Reg_wideA S)))), (0, .ref (a 2)), (1, .int (x1))] := hl
  refine lv_aload_n hx hb d_Reg_loadA_8 rfl (lv_at hl 1 rfl) ?_
  refine lv_aload_n hx hb d_Reg_loadA_9 rfl (lv_at hl 1 rfl) ?_
  refine gt_Reg X hP 0 (by decide) (v := .int (S.1 0)) q_110 rfl d_Reg_loadA_10 ?_
  refine lv_iload_n hx hb d_Reg_loadA_13 rfl (lv_at hl 0 rfl) ?_
  refine lv_iconst (v := (-1 : Int32)) hx hb d_Reg_loadA_14 (by decide) ?_
  refine lv_ixor hx hb d_Reg_loadA_15 ?_
  refine lv_iand hx hb d_Reg_loadA_16 ?_
  refine lv_iload_n hx hb d_Reg_loadA_17 rfl (lv_at hl 2 rfl) ?_
  refine lv_iload_n hx hb d_Reg_loadA_18 rfl (lv_at hl 0 rfl) ?_
  refine lv_iand hx hb d_Reg_loadA_19 ?_
  refine lv_ior hx hb d_Reg_loadA_20 ?_
  refine pt_Reg X hP hS 0 (by decide) (v := (((S.1 0) &&& ((f_Reg_maskOf (f_Reg_wideA S)) ^^^ (-1 : Int32))) ||| (x1 &&& (f_Reg_maskOf (f_Reg_wideA S))))) (S1 := (pr S 0 ((((S.1 0) &&& ((f_Reg_maskOf (f_Reg_wideA S)) ^^^ (-1 : Int32))) ||| (x1 &&& (f_Reg_maskOf (f_Reg_wideA S))))))) q_110 rfl rfl rfl rfl d_Reg_loadA_21 (fun H locs hP hS => ?_)
  refine lv_aload_n hx hb d_Reg_loadA_24 rfl (lv_at hl 1 rfl) ?_
  refine lv_iload_n hx hb d_Reg_loadA_25 rfl (lv_at hl 2 rfl) ?_
  refine lv_iload_n hx hb d_Reg_loadA_26 rfl (lv_at hl 0 rfl) ?_
  refine lv_iand hx hb d_Reg_loadA_27 ?_
  refine lv_aload_n hx hb d_Reg_loadA_28 rfl (lv_at hl 1 rfl) ?_
  refine kv_v (rest := [.int ((x1 &&& (f_Reg_maskOf (f_Reg_wideA S)))), .ref (a 2)]) X hP hS (c_Reg_wideA l D cB cI a bz ha (pr S 0 ((((S.1 0) &&& ((f_Reg_maskOf (f_Reg_wideA S)) ^^^ (-1 : Int32))) ||| (x1 &&& (f_Reg_maskOf (f_Reg_wideA S))))))) (kw_Reg_wideA hts q_400 ⟨Nat.le_of_ble_eq_true rfl, Nat.le_of_ble_eq_true rfl⟩) 2 rfl rfl rfl hl.1 rfl (lv_room (Nat.le_of_ble_eq_true rfl)) d_Reg_loadA_29 (fun H locs hP hS => ?_)
  refine kv_s (rest := []) X hP hS (c_Reg_showResult l D cB cI a bz ha (pr S 0 ((((S.1 0) &&& ((f_Reg_maskOf (f_Reg_wideA S)) ^^^ (-1 : Int32))) ||| (x1 &&& (f_Reg_maskOf (f_Reg_wideA S)))))) (x1 &&& (f_Reg_maskOf (f_Reg_wideA S))) (f_Reg_wideA (pr S 0 ((((S.1 0) &&& ((f_Reg_maskOf (f_Reg_wideA S)) ^^^ (-1 : Int32))) ||| (x1 &&& (f_Reg_maskOf (f_Reg_wideA S)))))))) (kw_Reg_showResult hts q_405 ⟨Nat.le_of_ble_eq_true rfl, Nat.le_of_ble_eq_true rfl⟩) 2 rfl rfl rfl hl.1 rfl (lv_room (Nat.le_of_ble_eq_true rfl)) d_Reg_loadA_32 (fun S1 H locs e2 hP hS => ?_)
  exact rt_s X hr hk hP hS (by rw [f_Reg_loadA, bs_eq e2]) d_Reg_loadA_35
set_option maxHeartbeats 4000000 in
set_option maxRecDepth 100000 in
theorem c_Reg_loadX (l : Launch) (D : va_G) (cB cI : ClassId) (a : Nat → Nat) (bz : Nat) (ha : ap a 8) (S : Sc) (x1 : Int32) : MV l y_Reg_loadX b_Reg_loadX 2 rm_Reg_loadX [.ref (a 2), .int x1] D cB cI (wdC cB cI a) (ow a 8) bz S (f_Reg_loadX S x1) := by
  refine met_in R_Reg (by decide) rfl (Nat.le_of_ble_eq_true rfl) (wdC_D ha cB cI) ?_
  intro p e s m below meth c ls X hr hk hl hP hS
  have hx := X.1.1
  have hb := X.1.2.1
  have hown := X.1.2.2.2.1
  have hts := X.1.2.2.2.2
  have hl : lv_has ls 2 [(0, .ref (a 2)), (1, .int x1)] := hl
  refine lv_aload_n hx hb d_Reg_loadX_0 rfl (lv_at hl 0 rfl) ?_
  refine lv_iload_n hx hb d_Reg_loadX_1 rfl (lv_at hl 1 rfl) ?_
  refine lv_aload_n hx hb d_Reg_loadX_2 rfl (lv_at hl 0 rfl) ?_
  refine kv_v (rest := [.int (x1), .ref (a 2)]) X hP hS (c_Reg_indexMask l D cB cI a bz ha S) (kw_Reg_indexMask hts q_266 ⟨Nat.le_of_ble_eq_true rfl, Nat.le_of_ble_eq_true rfl⟩) 2 rfl rfl rfl hl.1 rfl (lv_room (Nat.le_of_ble_eq_true rfl)) d_Reg_loadX_3 (fun H locs hP hS => ?_)
  refine lv_iand hx hb d_Reg_loadX_6 ?_
  refine pt_Reg X hP hS 1 (by decide) (v := (x1 &&& (f_Reg_indexMask S))) (S1 := (pr S 1 ((x1 &&& (f_Reg_indexMask S))))) q_114 rfl rfl rfl rfl d_Reg_loadX_7 (fun H locs hP hS => ?_)
  refine lv_aload_n hx hb d_Reg_loadX_10 rfl (lv_at hl 0 rfl) ?_
  refine lv_aload_n hx hb d_Reg_loadX_11 rfl (lv_at hl 0 rfl) ?_
  refine gt_Reg X hP 1 (by decide) (v := .int ((x1 &&& (f_Reg_indexMask S)))) q_114 rfl d_Reg_loadX_12 ?_
  refine lv_aload_n hx hb d_Reg_loadX_15 rfl (lv_at hl 0 rfl) ?_
  refine kv_v (rest := [.int ((x1 &&& (f_Reg_indexMask S))), .ref (a 2)]) X hP hS (c_Reg_wideIndex l D cB cI a bz ha (pr S 1 ((x1 &&& (f_Reg_indexMask S))))) (kw_Reg_wideIndex hts q_254 ⟨Nat.le_of_ble_eq_true rfl, Nat.le_of_ble_eq_true rfl⟩) 2 rfl rfl rfl hl.1 rfl (lv_room (Nat.le_of_ble_eq_true rfl)) d_Reg_loadX_16 (fun H locs hP hS => ?_)
  refine kv_s (rest := []) X hP hS (c_Reg_showResult l D cB cI a bz ha (pr S 1 ((x1 &&& (f_Reg_indexMask S)))) (x1 &&& (f_Reg_indexMask S)) (f_Reg_wideIndex (pr S 1 ((x1 &&& (f_Reg_indexMask S)))))) (kw_Reg_showResult hts q_405 ⟨Nat.le_of_ble_eq_true rfl, Nat.le_of_ble_eq_true rfl⟩) 2 rfl rfl rfl hl.1 rfl (lv_room (Nat.le_of_ble_eq_true rfl)) d_Reg_loadX_19 (fun S1 H locs e2 hP hS => ?_)
  exact rt_s X hr hk hP hS (by rw [f_Reg_loadX, bs_eq e2]) d_Reg_loadX_22
set_option maxHeartbeats 4000000 in
set_option maxRecDepth 100000 in
theorem c_Reg_loadY (l : Launch) (D : va_G) (cB cI : ClassId) (a : Nat → Nat) (bz : Nat) (ha : ap a 8) (S : Sc) (x1 : Int32) : MV l y_Reg_loadY b_Reg_loadY 2 rm_Reg_loadY [.ref (a 2), .int x1] D cB cI (wdC cB cI a) (ow a 8) bz S (f_Reg_loadY S x1) := by
  refine met_in R_Reg (by decide) rfl (Nat.le_of_ble_eq_true rfl) (wdC_D ha cB cI) ?_
  intro p e s m below meth c ls X hr hk hl hP hS
  have hx := X.1.1
  have hb := X.1.2.1
  have hown := X.1.2.2.2.1
  have hts := X.1.2.2.2.2
  have hl : lv_has ls 2 [(0, .ref (a 2)), (1, .int x1)] := hl
  refine lv_aload_n hx hb d_Reg_loadY_0 rfl (lv_at hl 0 rfl) ?_
  refine lv_iload_n hx hb d_Reg_loadY_1 rfl (lv_at hl 1 rfl) ?_
  refine lv_aload_n hx hb d_Reg_loadY_2 rfl (lv_at hl 0 rfl) ?_
  refine kv_v (rest := [.int (x1), .ref (a 2)]) X hP hS (c_Reg_indexMask l D cB cI a bz ha S) (kw_Reg_indexMask hts q_266 ⟨Nat.le_of_ble_eq_true rfl, Nat.le_of_ble_eq_true rfl⟩) 2 rfl rfl rfl hl.1 rfl (lv_room (Nat.le_of_ble_eq_true rfl)) d_Reg_loadY_3 (fun H locs hP hS => ?_)
  refine lv_iand hx hb d_Reg_loadY_6 ?_
  refine pt_Reg X hP hS 2 (by decide) (v := (x1 &&& (f_Reg_indexMask S))) (S1 := (pr S 2 ((x1 &&& (f_Reg_indexMask S))))) q_118 rfl rfl rfl rfl d_Reg_loadY_7 (fun H locs hP hS => ?_)
  refine lv_aload_n hx hb d_Reg_loadY_10 rfl (lv_at hl 0 rfl) ?_
  refine lv_aload_n hx hb d_Reg_loadY_11 rfl (lv_at hl 0 rfl) ?_
  refine gt_Reg X hP 2 (by decide) (v := .int ((x1 &&& (f_Reg_indexMask S)))) q_118 rfl d_Reg_loadY_12 ?_
  refine lv_aload_n hx hb d_Reg_loadY_15 rfl (lv_at hl 0 rfl) ?_
  refine kv_v (rest := [.int ((x1 &&& (f_Reg_indexMask S))), .ref (a 2)]) X hP hS (c_Reg_wideIndex l D cB cI a bz ha (pr S 2 ((x1 &&& (f_Reg_indexMask S))))) (kw_Reg_wideIndex hts q_254 ⟨Nat.le_of_ble_eq_true rfl, Nat.le_of_ble_eq_true rfl⟩) 2 rfl rfl rfl hl.1 rfl (lv_room (Nat.le_of_ble_eq_true rfl)) d_Reg_loadY_16 (fun H locs hP hS => ?_)
  refine kv_s (rest := []) X hP hS (c_Reg_showResult l D cB cI a bz ha (pr S 2 ((x1 &&& (f_Reg_indexMask S)))) (x1 &&& (f_Reg_indexMask S)) (f_Reg_wideIndex (pr S 2 ((x1 &&& (f_Reg_indexMask S)))))) (kw_Reg_showResult hts q_405 ⟨Nat.le_of_ble_eq_true rfl, Nat.le_of_ble_eq_true rfl⟩) 2 rfl rfl rfl hl.1 rfl (lv_room (Nat.le_of_ble_eq_true rfl)) d_Reg_loadY_19 (fun S1 H locs e2 hP hS => ?_)
  exact rt_s X hr hk hP hS (by rw [f_Reg_loadY, bs_eq e2]) d_Reg_loadY_22
set_option maxHeartbeats 4000000 in
set_option maxRecDepth 100000 in
theorem c_Reg_loadD (l : Launch) (D : va_G) (cB cI : ClassId) (a : Nat → Nat) (bz : Nat) (ha : ap a 8) (S : Sc) (x1 : Int32) : MV l y_Reg_loadD b_Reg_loadD 2 rm_Reg_loadD [.ref (a 2), .int x1] D cB cI (wdC cB cI a) (ow a 8) bz S (f_Reg_loadD S x1) := by
  refine met_in R_Reg (by decide) rfl (Nat.le_of_ble_eq_true rfl) (wdC_D ha cB cI) ?_
  intro p e s m below meth c ls X hr hk hl hP hS
  have hx := X.1.1
  have hb := X.1.2.1
  have hown := X.1.2.2.2.1
  have hts := X.1.2.2.2.2
  have hl : lv_has ls 2 [(0, .ref (a 2)), (1, .int x1)] := hl
  refine lv_aload_n hx hb d_Reg_loadD_0 rfl (lv_at hl 0 rfl) ?_
  refine lv_iload_n hx hb d_Reg_loadD_1 rfl (lv_at hl 1 rfl) ?_
  refine pt_Reg X hP hS 4 (by decide) (v := x1) (S1 := (pr S 4 (x1))) q_127 rfl rfl rfl rfl d_Reg_loadD_2 (fun H locs hP hS => ?_)
  refine lv_aload_n hx hb d_Reg_loadD_5 rfl (lv_at hl 0 rfl) ?_
  refine lv_aload_n hx hb d_Reg_loadD_6 rfl (lv_at hl 0 rfl) ?_
  refine gt_Reg X hP 4 (by decide) (v := .int (x1)) q_127 rfl d_Reg_loadD_7 ?_
  refine lv_iconst (v := (1 : Int32)) hx hb d_Reg_loadD_10 (by decide) ?_
  refine kv_s (rest := []) X hP hS (c_Reg_showResult l D cB cI a bz ha (pr S 4 (x1)) x1 (1 : Int32)) (kw_Reg_showResult hts q_405 ⟨Nat.le_of_ble_eq_true rfl, Nat.le_of_ble_eq_true rfl⟩) 2 rfl rfl rfl hl.1 rfl (lv_room (Nat.le_of_ble_eq_true rfl)) d_Reg_loadD_11 (fun S1 H locs e2 hP hS => ?_)
  exact rt_s X hr hk hP hS (by rw [f_Reg_loadD, bs_eq e2]) d_Reg_loadD_14
set_option maxHeartbeats 4000000 in
set_option maxRecDepth 100000 in
theorem c_Reg_loadC (l : Launch) (D : va_G) (cB cI : ClassId) (a : Nat → Nat) (bz : Nat) (ha : ap a 8) (S : Sc) (x1 : Int32) : MV l y_Reg_loadC b_Reg_loadC 2 rm_Reg_loadC [.ref (a 2), .int x1] D cB cI (wdC cB cI a) (ow a 8) bz S (f_Reg_loadC S x1) := by
  refine met_in R_Reg (by decide) rfl (Nat.le_of_ble_eq_true rfl) (wdC_D ha cB cI) ?_
  intro p e s m below meth c ls X hr hk hl hP hS
  have hx := X.1.1
  have hb := X.1.2.1
  have hown := X.1.2.2.2.1
  have hts := X.1.2.2.2.2
  have hl : lv_has ls 2 [(0, .ref (a 2)), (1, .int x1)] := hl
  refine lv_aload_n hx hb d_Reg_loadC_0 rfl (lv_at hl 0 rfl) ?_
  refine lv_iload_n hx hb d_Reg_loadC_1 rfl (lv_at hl 1 rfl) ?_
  refine pt_Reg X hP hS 0 (by decide) (v := x1) (S1 := (pr S 0 (x1))) q_110 rfl rfl rfl rfl d_Reg_loadC_2 (fun H locs hP hS => ?_)
  refine lv_aload_n hx hb d_Reg_loadC_5 rfl (lv_at hl 0 rfl) ?_
  refine lv_aload_n hx hb d_Reg_loadC_6 rfl (lv_at hl 0 rfl) ?_
  refine gt_Reg X hP 0 (by decide) (v := .int (x1)) q_110 rfl d_Reg_loadC_7 ?_
  refine lv_iconst (v := (1 : Int32)) hx hb d_Reg_loadC_10 (by decide) ?_
  refine kv_s (rest := []) X hP hS (c_Reg_showResult l D cB cI a bz ha (pr S 0 (x1)) x1 (1 : Int32)) (kw_Reg_showResult hts q_405 ⟨Nat.le_of_ble_eq_true rfl, Nat.le_of_ble_eq_true rfl⟩) 2 rfl rfl rfl hl.1 rfl (lv_room (Nat.le_of_ble_eq_true rfl)) d_Reg_loadC_11 (fun S1 H locs e2 hP hS => ?_)
  exact rt_s X hr hk hP hS (by rw [f_Reg_loadC, bs_eq e2]) d_Reg_loadC_14
set_option maxHeartbeats 4000000 in
set_option maxRecDepth 100000 in
theorem c_Reg_loadDataBank (l : Launch) (D : va_G) (cB cI : ClassId) (a : Nat → Nat) (bz : Nat) (ha : ap a 8) (S : Sc) (x1 : Int32) : MV l y_Reg_loadDataBank b_Reg_loadDataBank 2 rm_Reg_loadDataBank [.ref (a 2), .int x1] D cB cI (wdC cB cI a) (ow a 8) bz S (f_Reg_loadDataBank S x1) := by
  refine met_in R_Reg (by decide) rfl (Nat.le_of_ble_eq_true rfl) (wdC_D ha cB cI) ?_
  intro p e s m below meth c ls X hr hk hl hP hS
  have hx := X.1.1
  have hb := X.1.2.1
  have hown := X.1.2.2.2.1
  have hts := X.1.2.2.2.2
  have hl : lv_has ls 2 [(0, .ref (a 2)), (1, .int x1)] := hl
  refine lv_aload_n hx hb d_Reg_loadDataBank_0 rfl (lv_at hl 0 rfl) ?_
  refine lv_iload_n hx hb d_Reg_loadDataBank_1 rfl (lv_at hl 1 rfl) ?_
  refine pt_Reg X hP hS 5 (by decide) (v := x1) (S1 := (pr S 5 (x1))) q_131 rfl rfl rfl rfl d_Reg_loadDataBank_2 (fun H locs hP hS => ?_)
  refine lv_aload_n hx hb d_Reg_loadDataBank_5 rfl (lv_at hl 0 rfl) ?_
  refine lv_aload_n hx hb d_Reg_loadDataBank_6 rfl (lv_at hl 0 rfl) ?_
  refine gt_Reg X hP 5 (by decide) (v := .int (x1)) q_131 rfl d_Reg_loadDataBank_7 ?_
  refine lv_iconst (v := (0 : Int32)) hx hb d_Reg_loadDataBank_10 (by decide) ?_
  refine kv_s (rest := []) X hP hS (c_Reg_showResult l D cB cI a bz ha (pr S 5 (x1)) x1 (0 : Int32)) (kw_Reg_showResult hts q_405 ⟨Nat.le_of_ble_eq_true rfl, Nat.le_of_ble_eq_true rfl⟩) 2 rfl rfl rfl hl.1 rfl (lv_room (Nat.le_of_ble_eq_true rfl)) d_Reg_loadDataBank_11 (fun S1 H locs e2 hP hS => ?_)
  exact rt_s X hr hk hP hS (by rw [f_Reg_loadDataBank, bs_eq e2]) d_Reg_loadDataBank_14
set_option maxHeartbeats 4000000 in
set_option maxRecDepth 100000 in
theorem c_Reg_jumpTo (l : Launch) (D : va_G) (cB cI : ClassId) (a : Nat → Nat) (bz : Nat) (ha : ap a 8) (S : Sc) (x1 : Int32) : MV l y_Reg_jumpTo b_Reg_jumpTo 2 rm_Reg_jumpTo [.ref (a 2), .int x1] D cB cI (wdC cB cI a) (ow a 8) bz S (f_Reg_jumpTo S x1) := by
  refine met_in R_Reg (by decide) rfl (Nat.le_of_ble_eq_true rfl) (wdC_D ha cB cI) ?_
  intro p e s m below meth c ls X hr hk hl hP hS
  have hx := X.1.1
  have hb := X.1.2.1
  have hown := X.1.2.2.2.1
  have hts := X.1.2.2.2.2
  have hl : lv_has ls 2 [(0, .ref (a 2)), (1, .int x1)] := hl
  refine lv_aload_n hx hb d_Reg_jumpTo_0 rfl (lv_at hl 0 rfl) ?_
  refine lv_iload_n hx hb d_Reg_jumpTo_1 rfl (lv_at hl 1 rfl) ?_
  refine lv_ldc (v := (65535 : Int32)) hx hb hown (hts _ q_261) d_Reg_jumpTo_2 ?_
  refine lv_iand hx hb d_Reg_jumpTo_4 ?_
  refine pt_Reg X hP hS 7 (by decide) (v := (x1 &&& (65535 : Int32))) (S1 := (pr S 7 ((x1 &&& (65535 : Int32))))) q_139 rfl rfl rfl rfl d_Reg_jumpTo_5 (fun H locs hP hS => ?_)
  exact rt_s X hr hk hP hS (by rw [f_Reg_jumpTo]) d_Reg_jumpTo_8
set_option maxHeartbeats 4000000 in
set_option maxRecDepth 100000 in
theorem c_Reg_jumpLong (l : Launch) (D : va_G) (cB cI : ClassId) (a : Nat → Nat) (bz : Nat) (ha : ap a 8) (S : Sc) (x1 : Int32) : MV l y_Reg_jumpLong b_Reg_jumpLong 2 rm_Reg_jumpLong [.ref (a 2), .int x1] D cB cI (wdC cB cI a) (ow a 8) bz S (f_Reg_jumpLong S x1) := by
  refine met_in R_Reg (by decide) rfl (Nat.le_of_ble_eq_true rfl) (wdC_D ha cB cI) ?_
  intro p e s m below meth c ls X hr hk hl hP hS
  have hx := X.1.1
  have hb := X.1.2.1
  have hown := X.1.2.2.2.1
  have hts := X.1.2.2.2.2
  have hl : lv_has ls 2 [(0, .ref (a 2)), (1, .int x1)] := hl
  refine lv_aload_n hx hb d_Reg_jumpLong_0 rfl (lv_at hl 0 rfl) ?_
  refine lv_iload_n hx hb d_Reg_jumpLong_1 rfl (lv_at hl 1 rfl) ?_
  refine lv_bipush (v := (16 : Int32)) hx hb d_Reg_jumpLong_2 (by decide) ?_
  refine lv_ishr hx hb d_Reg_jumpLong_4 ?_
  refine pt_Reg X hP hS 6 (by decide) (v := (x1 >>> ((16 : Int32) &&& 31))) (S1 := (pr S 6 ((x1 >>> ((16 : Int32) &&& 31))))) q_135 rfl rfl rfl rfl d_Reg_jumpLong_5 (fun H locs hP hS => ?_)
  refine lv_aload_n hx hb d_Reg_jumpLong_8 rfl (lv_at hl 0 rfl) ?_
  refine lv_iload_n hx hb d_Reg_jumpLong_9 rfl (lv_at hl 1 rfl) ?_
  refine lv_ldc (v := (65535 : Int32)) hx hb hown (hts _ q_261) d_Reg_jumpLong_10 ?_
  refine lv_iand hx hb d_Reg_jumpLong_12 ?_
  refine pt_Reg X hP hS 7 (by decide) (v := (x1 &&& (65535 : Int32))) (S1 := (pr (pr S 6 ((x1 >>> ((16 : Int32) &&& 31)))) 7 ((x1 &&& (65535 : Int32))))) q_139 rfl rfl rfl rfl d_Reg_jumpLong_13 (fun H locs hP hS => ?_)
  exact rt_s X hr hk hP hS (by rw [f_Reg_jumpLong]) d_Reg_jumpLong_16
end
section
set_option maxHeartbeats 4000000 in
set_option maxRecDepth 100000 in
theorem c_Stk_pushByte (l : Launch) (D : va_G) (cB cI : ClassId) (a : Nat → Nat) (bz : Nat) (ha : ap a 8) (S : Sc) (x1 : Int32) : MV l y_Stk_pushByte b_Stk_pushByte 2 rm_Stk_pushByte [.ref (a 5), .int x1] D cB cI (wdC cB cI a) (ow a 8) bz S (f_Stk_pushByte S x1) := by
  refine met_in R_Stk (by decide) rfl (Nat.le_of_ble_eq_true rfl) (wdC_D ha cB cI) ?_
  intro p e s m below meth c ls X hr hk hl hP hS
  have hx := X.1.1
  have hb := X.1.2.1
  have hown := X.1.2.2.2.1
  have hts := X.1.2.2.2.2
  have hl : lv_has ls 2 [(0, .ref (a 5)), (1, .int x1)] := hl
  refine lv_aload_n hx hb d_Stk_pushByte_0 rfl (lv_at hl 0 rfl) ?_
  refine gt_Stk X hP 0 (by decide) (v := .ref (a 1)) q_187 rfl d_Stk_pushByte_1 ?_
  refine lv_aload_n hx hb d_Stk_pushByte_4 rfl (lv_at hl 0 rfl) ?_
  refine gt_Stk X hP 1 (by decide) (v := .ref (a 2)) q_188 rfl d_Stk_pushByte_5 ?_
  refine gt_Reg X hP 3 (by decide) (v := .int (S.1 3)) q_120 rfl d_Stk_pushByte_8 ?_
  refine ks_v (rest := [.ref (a 1)]) X hP hS (c_Bus_bank0Place l D cB cI a bz ha S (S.1 3)) (kw_Bus_bank0Place hts q_287 ⟨Nat.le_of_ble_eq_true rfl, Nat.le_of_ble_eq_true rfl⟩) rfl hl.1 rfl (lv_room (Nat.le_of_ble_eq_true rfl)) d_Stk_pushByte_11 (fun H locs hP hS => ?_)
  refine lv_iload_n hx hb d_Stk_pushByte_14 rfl (lv_at hl 1 rfl) ?_
  refine kv_s (rest := []) X hP hS (c_Bus_writeByte l D cB cI a bz ha S (f_Bus_bank0Place (S.1 3)) x1) (kw_Bus_writeByte hts q_292 ⟨Nat.le_of_ble_eq_true rfl, Nat.le_of_ble_eq_true rfl⟩) 1 rfl rfl rfl hl.1 rfl (lv_room (Nat.le_of_ble_eq_true rfl)) d_Stk_pushByte_15 (fun S1 H locs e2 hP hS => ?_)
  refine lv_aload_n hx hb d_Stk_pushByte_18 rfl (lv_at hl 0 rfl) ?_
  refine gt_Stk X hP 1 (by decide) (v := .ref (a 2)) q_188 rfl d_Stk_pushByte_19 ?_
  refine lv_aload_n hx hb d_Stk_pushByte_22 rfl (lv_at hl 0 rfl) ?_
  refine gt_Stk X hP 1 (by decide) (v := .ref (a 2)) q_188 rfl d_Stk_pushByte_23 ?_
  refine gt_Reg X hP 3 (by decide) (v := .int (S1.1 3)) q_120 rfl d_Stk_pushByte_26 ?_
  refine lv_iconst (v := (1 : Int32)) hx hb d_Stk_pushByte_29 (by decide) ?_
  refine lv_isub hx hb d_Stk_pushByte_30 ?_
  refine lv_ldc (v := (65535 : Int32)) hx hb hown (hts _ q_299) d_Stk_pushByte_31 ?_
  refine lv_iand hx hb d_Stk_pushByte_33 ?_
  refine pt_Reg X hP hS 3 (by decide) (v := (((S1.1 3) - (1 : Int32)) &&& (65535 : Int32))) (S1 := (pr S1 3 ((((S1.1 3) - (1 : Int32)) &&& (65535 : Int32))))) q_120 rfl rfl rfl rfl d_Stk_pushByte_34 (fun H locs hP hS => ?_)
  exact rt_s X hr hk hP hS (by rw [f_Stk_pushByte, bs_eq e2]) d_Stk_pushByte_37
set_option maxHeartbeats 4000000 in
set_option maxRecDepth 100000 in
theorem c_Stk_pushWord (l : Launch) (D : va_G) (cB cI : ClassId) (a : Nat → Nat) (bz : Nat) (ha : ap a 8) (S : Sc) (x1 : Int32) : MV l y_Stk_pushWord b_Stk_pushWord 2 rm_Stk_pushWord [.ref (a 5), .int x1] D cB cI (wdC cB cI a) (ow a 8) bz S (f_Stk_pushWord S x1) := by
  refine met_in R_Stk (by decide) rfl (Nat.le_of_ble_eq_true rfl) (wdC_D ha cB cI) ?_
  intro p e s m below meth c ls X hr hk hl hP hS
  have hx := X.1.1
  have hb := X.1.2.1
  have hown := X.1.2.2.2.1
  have hts := X.1.2.2.2.2
  have hl : lv_has ls 2 [(0, .ref (a 5)), (1, .int x1)] := hl
  refine lv_aload_n hx hb d_Stk_pushWord_0 rfl (lv_at hl 0 rfl) ?_
  refine lv_iload_n hx hb d_Stk_pushWord_1 rfl (lv_at hl 1 rfl) ?_
  refine lv_bipush (v := (8 : Int32)) hx hb d_Stk_pushWord_2 (by decide) ?_
  refine lv_ishr hx hb d_Stk_pushWord_4 ?_
  refine kv_s (rest := []) X hP hS (c_Stk_pushByte l D cB cI a bz ha S (x1 >>> ((8 : Int32) &&& 31))) (kw_Stk_pushByte hts q_304 ⟨Nat.le_of_ble_eq_true rfl, Nat.le_of_ble_eq_true rfl⟩) 5 rfl rfl rfl hl.1 rfl (lv_room (Nat.le_of_ble_eq_true rfl)) d_Stk_pushWord_5 (fun S1 H locs e2 hP hS => ?_)
  refine lv_aload_n hx hb d_Stk_pushWord_8 rfl (lv_at hl 0 rfl) ?_
  refine lv_iload_n hx hb d_Stk_pushWord_9 rfl (lv_at hl 1 rfl) ?_
  refine kv_s (rest := []) X hP hS (c_Stk_pushByte l D cB cI a bz ha S1 x1) (kw_Stk_pushByte hts q_304 ⟨Nat.le_of_ble_eq_true rfl, Nat.le_of_ble_eq_true rfl⟩) 5 rfl rfl rfl hl.1 rfl (lv_room (Nat.le_of_ble_eq_true rfl)) d_Stk_pushWord_10 (fun S3 H locs e4 hP hS => ?_)
  exact rt_s X hr hk hP hS (by rw [f_Stk_pushWord, bs_eq e2, bs_eq e4]) d_Stk_pushWord_13
set_option maxHeartbeats 4000000 in
set_option maxRecDepth 100000 in
theorem c_Opd_nextByte (l : Launch) (D : va_G) (cB cI : ClassId) (a : Nat → Nat) (bz : Nat) (ha : ap a 8) (S : Sc) : MI l y_Opd_nextByte b_Opd_nextByte 2 (some .int) rm_Opd_nextByte [.ref (a 4)] D cB cI (wdC cB cI a) (ow a 8) bz S (f_Opd_nextByte S) := by
  refine met_in R_Opd (by decide) rfl (Nat.le_of_ble_eq_true rfl) (wdC_D ha cB cI) ?_
  intro p e s m below meth c ls X hr hk hl hP hS
  have hx := X.1.1
  have hb := X.1.2.1
  have hown := X.1.2.2.2.1
  have hts := X.1.2.2.2.2
  have hl : lv_has ls 2 [(0, .ref (a 4))] := hl
  refine lv_aload_n hx hb d_Opd_nextByte_0 rfl (lv_at hl 0 rfl) ?_
  refine gt_Opd X hP 0 (by decide) (v := .ref (a 1)) q_174 rfl d_Opd_nextByte_1 ?_
  refine lv_aload_n hx hb d_Opd_nextByte_4 rfl (lv_at hl 0 rfl) ?_
  refine gt_Opd X hP 1 (by decide) (v := .ref (a 2)) q_175 rfl d_Opd_nextByte_5 ?_
  refine gt_Reg X hP 6 (by decide) (v := .int (S.1 6)) q_133 rfl d_Opd_nextByte_8 ?_
  refine lv_aload_n hx hb d_Opd_nextByte_11 rfl (lv_at hl 0 rfl) ?_
  refine gt_Opd X hP 1 (by decide) (v := .ref (a 2)) q_175 rfl d_Opd_nextByte_12 ?_
  refine gt_Reg X hP 7 (by decide) (v := .int (S.1 7)) q_136 rfl d_Opd_nextByte_15 ?_
  refine kv_v (rest := []) X hP hS (c_Bus_programByte l D cB cI a bz ha S (S.1 6) (S.1 7)) (kw_Bus_programByte hts q_334 ⟨Nat.le_of_ble_eq_true rfl, Nat.le_of_ble_eq_true rfl⟩) 1 rfl rfl rfl hl.1 rfl (lv_room (Nat.le_of_ble_eq_true rfl)) d_Opd_nextByte_18 (fun H locs hP hS => ?_)
  refine lv_istore_n hx hb d_Opd_nextByte_21 rfl hl (Nat.le_of_ble_eq_true rfl) rfl (fun ls hl => ?_)
  have hl : lv_has ls 2 [(1, .int ((f_Bus_programByte S (S.1 6) (S.1 7)))), (0, .ref (a 4))] := hl
  refine lv_aload_n hx hb d_Opd_nextByte_22 rfl (lv_at hl 1 rfl) ?_
  refine gt_Opd X hP 1 (by decide) (v := .ref (a 2)) q_175 rfl d_Opd_nextByte_23 ?_
  refine lv_aload_n hx hb d_Opd_nextByte_26 rfl (lv_at hl 1 rfl) ?_
  refine gt_Opd X hP 1 (by decide) (v := .ref (a 2)) q_175 rfl d_Opd_nextByte_27 ?_
  refine gt_Reg X hP 7 (by decide) (v := .int (S.1 7)) q_136 rfl d_Opd_nextByte_30 ?_
  refine lv_iconst (v := (1 : Int32)) hx hb d_Opd_nextByte_33 (by decide) ?_
  refine lv_iadd hx hb d_Opd_nextByte_34 ?_
  refine lv_ldc (v := (65535 : Int32)) hx hb hown (hts _ q_338) d_Opd_nextByte_35 ?_
  refine lv_iand hx hb d_Opd_nextByte_37 ?_
  refine pt_Reg X hP hS 7 (by decide) (v := (((S.1 7) + (1 : Int32)) &&& (65535 : Int32))) (S1 := (pr S 7 ((((S.1 7) + (1 : Int32)) &&& (65535 : Int32))))) q_136 rfl rfl rfl rfl d_Opd_nextByte_38 (fun H locs hP hS => ?_)
  refine lv_iload_n hx hb d_Opd_nextByte_41 rfl (lv_at hl 0 rfl) ?_
  exact rt_vs X hr hk hP hS (by rw [f_Opd_nextByte]) d_Opd_nextByte_42
set_option maxHeartbeats 4000000 in
set_option maxRecDepth 100000 in
theorem c_Opd_isMode (l : Launch) (D : va_G) (cB cI : ClassId) (a : Nat → Nat) (bz : Nat) (ha : ap a 8) (S : Sc) (x0 : Int32) : MI l y_Opd_isMode b_Opd_isMode 1 (some .boolean) rm_Opd_isMode [.int x0] D cB cI (wdC cB cI a) (ow a 8) bz S (f_Opd_isMode x0, S) := by
  refine met_in R_Opd (by decide) rfl (Nat.le_of_ble_eq_true rfl) (wdC_D ha cB cI) ?_
  intro p e s m below meth c ls X hr hk hl hP hS
  have hx := X.1.1
  have hb := X.1.2.1
  have hown := X.1.2.2.2.1
  have hts := X.1.2.2.2.2
  have hl : lv_has ls 1 [(0, .int x0)] := hl
  refine lv_iload_n hx hb d_Opd_isMode_0 rfl (lv_at hl 0 rfl) ?_
  refine lv_bipush (v := (18 : Int32)) hx hb d_Opd_isMode_1 (by decide) ?_
  refine lv_icmp_eq (tgt := 22) hx hb d_Opd_isMode_3 rfl (fun h1 => ?_) (fun h1 => ?_)
  ·
    refine lv_iconst (v := (1 : Int32)) hx hb d_Opd_isMode_22 (by decide) ?_
    refine lv_goto (tgt := 27) hx hb d_Opd_isMode_23 rfl ?_
    exact rt_z X hr hk hP hS (by decide) (by rw [f_Opd_isMode, if_pos h1]) d_Opd_isMode_27
  ·
    refine lv_iload_n hx hb d_Opd_isMode_6 rfl (lv_at hl 0 rfl) ?_
    refine lv_iconst (v := (1 : Int32)) hx hb d_Opd_isMode_7 (by decide) ?_
    refine lv_iand hx hb d_Opd_isMode_8 ?_
    refine lv_iconst (v := (1 : Int32)) hx hb d_Opd_isMode_9 (by decide) ?_
    refine lv_icmp_ne (tgt := 26) hx hb d_Opd_isMode_10 rfl (fun h2 => ?_) (fun h2 => ?_)
    ·
      refine lv_iconst (v := (0 : Int32)) hx hb d_Opd_isMode_26 (by decide) ?_
      exact rt_z X hr hk hP hS (by decide) (by rw [f_Opd_isMode, if_neg h1, if_neg h2]) d_Opd_isMode_27
    ·
      refine lv_iload_n hx hb d_Opd_isMode_13 rfl (lv_at hl 0 rfl) ?_
      refine lv_bipush (v := (15 : Int32)) hx hb d_Opd_isMode_14 (by decide) ?_
      refine lv_iand hx hb d_Opd_isMode_16 ?_
      refine lv_bipush (v := (11 : Int32)) hx hb d_Opd_isMode_17 (by decide) ?_
      refine lv_icmp_eq (tgt := 26) hx hb d_Opd_isMode_19 rfl (fun h3 => ?_) (fun h3 => ?_)
      ·
        refine lv_iconst (v := (0 : Int32)) hx hb d_Opd_isMode_26 (by decide) ?_
        exact rt_z X hr hk hP hS (by decide) (by rw [f_Opd_isMode, if_neg h1, if_pos h2, if_pos h3]) d_Opd_isMode_27
      ·
        refine lv_iconst (v := (1 : Int32)) hx hb d_Opd_isMode_22 (by decide) ?_
        refine lv_goto (tgt := 27) hx hb d_Opd_isMode_23 rfl ?_
        exact rt_z X hr hk hP hS (by decide) (by rw [f_Opd_isMode, if_neg h1, if_pos h2, if_neg h3]) d_Opd_isMode_27
set_option maxHeartbeats 4000000 in
set_option maxRecDepth 100000 in
theorem c_Opd_direct (l : Launch) (D : va_G) (cB cI : ClassId) (a : Nat → Nat) (bz : Nat) (ha : ap a 8) (S : Sc) (x1 : Int32) : MI l y_Opd_direct b_Opd_direct 2 (some .int) rm_Opd_direct [.ref (a 4), .int x1] D cB cI (wdC cB cI a) (ow a 8) bz S (f_Opd_direct S x1) := by
  refine met_in R_Opd (by decide) rfl (Nat.le_of_ble_eq_true rfl) (wdC_D ha cB cI) ?_
  intro p e s m below meth c ls X hr hk hl hP hS
  have hx := X.1.1
  have hb := X.1.2.1
  have hown := X.1.2.2.2.1
  have hts := X.1.2.2.2.2
  have hl : lv_has ls 2 [(0, .ref (a 4)), (1, .int x1)] := hl
  refine lv_aload_n hx hb d_Opd_direct_0 rfl (lv_at hl 0 rfl) ?_
  refine gt_Opd X hP 1 (by decide) (v := .ref (a 2)) q_175 rfl d_Opd_direct_1 ?_
  refine gt_Reg X hP 4 (by decide) (v := .int (S.1 4)) q_125 rfl d_Opd_direct_4 ?_
  refine lv_aload_n hx hb d_Opd_direct_7 rfl (lv_at hl 0 rfl) ?_
  refine kv_vs (rest := [.int (S.1 4)]) X hP hS (c_Opd_nextByte l D cB cI a bz ha S) (kw_Opd_nextByte hts q_358 ⟨Nat.le_of_ble_eq_true rfl, Nat.le_of_ble_eq_true rfl⟩) 4 rfl rfl rfl hl.1 rfl (lv_room (Nat.le_of_ble_eq_true rfl)) d_Opd_direct_8 (fun r1 S2 H locs e3 hP hS => ?_)
  refine lv_iadd hx hb d_Opd_direct_11 ?_
  refine lv_iload_n hx hb d_Opd_direct_12 rfl (lv_at hl 1 rfl) ?_
  refine lv_iadd hx hb d_Opd_direct_13 ?_
  refine ks_v (rest := []) X hP hS (c_Bus_bank0Place l D cB cI a bz ha S2 (((S.1 4) + r1) + x1)) (kw_Bus_bank0Place hts q_359 ⟨Nat.le_of_ble_eq_true rfl, Nat.le_of_ble_eq_true rfl⟩) rfl hl.1 rfl (lv_room (Nat.le_of_ble_eq_true rfl)) d_Opd_direct_14 (fun H locs hP hS => ?_)
  exact rt_vs X hr hk hP hS (by rw [f_Opd_direct, bn_eq e3]) d_Opd_direct_17
set_option maxHeartbeats 4000000 in
set_option maxRecDepth 100000 in
theorem c_Opd_nextWord (l : Launch) (D : va_G) (cB cI : ClassId) (a : Nat → Nat) (bz : Nat) (ha : ap a 8) (S : Sc) : MI l y_Opd_nextWord b_Opd_nextWord 2 (some .int) rm_Opd_nextWord [.ref (a 4)] D cB cI (wdC cB cI a) (ow a 8) bz S (f_Opd_nextWord S) := by
  refine met_in R_Opd (by decide) rfl (Nat.le_of_ble_eq_true rfl) (wdC_D ha cB cI) ?_
  intro p e s m below meth c ls X hr hk hl hP hS
  have hx := X.1.1
  have hb := X.1.2.1
  have hown := X.1.2.2.2.1
  have hts := X.1.2.2.2.2
  have hl : lv_has ls 2 [(0, .ref (a 4))] := hl
  refine lv_aload_n hx hb d_Opd_nextWord_0 rfl (lv_at hl 0 rfl) ?_
  refine kv_vs (rest := []) X hP hS (c_Opd_nextByte l D cB cI a bz ha S) (kw_Opd_nextByte hts q_358 ⟨Nat.le_of_ble_eq_true rfl, Nat.le_of_ble_eq_true rfl⟩) 4 rfl rfl rfl hl.1 rfl (lv_room (Nat.le_of_ble_eq_true rfl)) d_Opd_nextWord_1 (fun r1 S2 H locs e3 hP hS => ?_)
  refine lv_istore_n hx hb d_Opd_nextWord_4 rfl hl (Nat.le_of_ble_eq_true rfl) rfl (fun ls hl => ?_)
  have hl : lv_has ls 2 [(1, .int (r1)), (0, .ref (a 4))] := hl
  refine lv_iload_n hx hb d_Opd_nextWord_5 rfl (lv_at hl 0 rfl) ?_
  refine lv_aload_n hx hb d_Opd_nextWord_6 rfl (lv_at hl 1 rfl) ?_
  refine kv_vs (rest := [.int (r1)]) X hP hS (c_Opd_nextByte l D cB cI a bz ha S2) (kw_Opd_nextByte hts q_358 ⟨Nat.le_of_ble_eq_true rfl, Nat.le_of_ble_eq_true rfl⟩) 4 rfl rfl rfl hl.1 rfl (lv_room (Nat.le_of_ble_eq_true rfl)) d_Opd_nextWord_7 (fun r4 S5 H locs e6 hP hS => ?_)
  refine lv_bipush (v := (8 : Int32)) hx hb d_Opd_nextWord_10 (by decide) ?_
  refine lv_ishl hx hb d_Opd_nextWord_12 ?_
  refine lv_ior hx hb d_Opd_nextWord_13 ?_
  exact rt_vs X hr hk hP hS (by rw [f_Opd_nextWord, bn_eq e3, bn_eq e6]) d_Opd_nextWord_14
set_option maxHeartbeats 4000000 in
set_option maxRecDepth 100000 in
theorem c_Opd_inDataBank (l : Launch) (D : va_G) (cB cI : ClassId) (a : Nat → Nat) (bz : Nat) (ha : ap a 8) (S : Sc) (x1 x2 : Int32) : MI l y_Opd_inDataBank b_Opd_inDataBank 3 (some .int) rm_Opd_inDataBank [.ref (a 4), .int x1, .int x2] D cB cI (wdC cB cI a) (ow a 8) bz S (f_Opd_inDataBank S x1 x2, S) := by
  refine met_in R_Opd (by decide) rfl (Nat.le_of_ble_eq_true rfl) (wdC_D ha cB cI) ?_
  intro p e s m below meth c ls X hr hk hl hP hS
  have hx := X.1.1
  have hb := X.1.2.1
  have hown := X.1.2.2.2.1
  have hts := X.1.2.2.2.2
  have hl : lv_has ls 3 [(0, .ref (a 4)), (1, .int x1), (2, .int x2)] := hl
  refine lv_aload_n hx hb d_Opd_inDataBank_0 rfl (lv_at hl 0 rfl) ?_
  refine gt_Opd X hP 1 (by decide) (v := .ref (a 2)) q_175 rfl d_Opd_inDataBank_1 ?_
  refine gt_Reg X hP 5 (by decide) (v := .int (S.1 5)) q_129 rfl d_Opd_inDataBank_4 ?_
  refine lv_bipush (v := (16 : Int32)) hx hb d_Opd_inDataBank_7 (by decide) ?_
  refine lv_ishl hx hb d_Opd_inDataBank_9 ?_
  refine lv_iload_n hx hb d_Opd_inDataBank_10 rfl (lv_at hl 1 rfl) ?_
  refine lv_iadd hx hb d_Opd_inDataBank_11 ?_
  refine lv_iload_n hx hb d_Opd_inDataBank_12 rfl (lv_at hl 2 rfl) ?_
  refine lv_iadd hx hb d_Opd_inDataBank_13 ?_
  refine ks_v (rest := []) X hP hS (c_Bus_longPlace l D cB cI a bz ha S ((((S.1 5) <<< ((16 : Int32) &&& 31)) + x1) + x2)) (kw_Bus_longPlace hts q_368 ⟨Nat.le_of_ble_eq_true rfl, Nat.le_of_ble_eq_true rfl⟩) rfl hl.1 rfl (lv_room (Nat.le_of_ble_eq_true rfl)) d_Opd_inDataBank_14 (fun H locs hP hS => ?_)
  exact rt_vs X hr hk hP hS (by rw [f_Opd_inDataBank]) d_Opd_inDataBank_17
set_option maxHeartbeats 4000000 in
set_option maxRecDepth 100000 in
theorem c_Opd_nextLong (l : Launch) (D : va_G) (cB cI : ClassId) (a : Nat → Nat) (bz : Nat) (ha : ap a 8) (S : Sc) : MI l y_Opd_nextLong b_Opd_nextLong 3 (some .int) rm_Opd_nextLong [.ref (a 4)] D cB cI (wdC cB cI a) (ow a 8) bz S (f_Opd_nextLong S) := by
  refine met_in R_Opd (by decide) rfl (Nat.le_of_ble_eq_true rfl) (wdC_D ha cB cI) ?_
  intro p e s m below meth c ls X hr hk hl hP hS
  have hx := X.1.1
  have hb := X.1.2.1
  have hown := X.1.2.2.2.1
  have hts := X.1.2.2.2.2
  have hl : lv_has ls 3 [(0, .ref (a 4))] := hl
  refine lv_aload_n hx hb d_Opd_nextLong_0 rfl (lv_at hl 0 rfl) ?_
  refine kv_vs (rest := []) X hP hS (c_Opd_nextByte l D cB cI a bz ha S) (kw_Opd_nextByte hts q_358 ⟨Nat.le_of_ble_eq_true rfl, Nat.le_of_ble_eq_true rfl⟩) 4 rfl rfl rfl hl.1 rfl (lv_room (Nat.le_of_ble_eq_true rfl)) d_Opd_nextLong_1 (fun r1 S2 H locs e3 hP hS => ?_)
  refine lv_istore_n hx hb d_Opd_nextLong_4 rfl hl (Nat.le_of_ble_eq_true rfl) rfl (fun ls hl => ?_)
  have hl : lv_has ls 3 [(1, .int (r1)), (0, .ref (a 4))] := hl
  refine lv_aload_n hx hb d_Opd_nextLong_5 rfl (lv_at hl 1 rfl) ?_
  refine kv_vs (rest := []) X hP hS (c_Opd_nextByte l D cB cI a bz ha S2) (kw_Opd_nextByte hts q_358 ⟨Nat.le_of_ble_eq_true rfl, Nat.le_of_ble_eq_true rfl⟩) 4 rfl rfl rfl hl.1 rfl (lv_room (Nat.le_of_ble_eq_true rfl)) d_Opd_nextLong_6 (fun r4 S5 H locs e6 hP hS => ?_)
  refine lv_istore_n hx hb d_Opd_nextLong_9 rfl hl (Nat.le_of_ble_eq_true rfl) rfl (fun ls hl => ?_)
  have hl : lv_has ls 3 [(2, .int (r4)), (1, .int (r1)), (0, .ref (a 4))] := hl
  refine lv_iload_n hx hb d_Opd_nextLong_10 rfl (lv_at hl 1 rfl) ?_
  refine lv_iload_n hx hb d_Opd_nextLong_11 rfl (lv_at hl 0 rfl) ?_
  refine lv_bipush (v := (8 : Int32)) hx hb d_Opd_nextLong_12 (by decide) ?_
  refine lv_ishl hx hb d_Opd_nextLong_14 ?_
  refine lv_ior hx hb d_Opd_nextLong_15 ?_
  refine lv_aload_n hx hb d_Opd_nextLong_16 rfl (lv_at hl 2 rfl) ?_
  refine kv_vs (rest := [.int ((r1 ||| (r4 <<< ((8 : Int32) &&& 31))))]) X hP hS (c_Opd_nextByte l D cB cI a bz ha S5) (kw_Opd_nextByte hts q_358 ⟨Nat.le_of_ble_eq_true rfl, Nat.le_of_ble_eq_true rfl⟩) 4 rfl rfl rfl hl.1 rfl (lv_room (Nat.le_of_ble_eq_true rfl)) d_Opd_nextLong_17 (fun r7 S8 H locs e9 hP hS => ?_)
  refine lv_bipush (v := (16 : Int32)) hx hb d_Opd_nextLong_20 (by decide) ?_
  refine lv_ishl hx hb d_Opd_nextLong_22 ?_
  refine lv_ior hx hb d_Opd_nextLong_23 ?_
  exact rt_vs X hr hk hP hS (by rw [f_Opd_nextLong, bn_eq e3, bn_eq e6, bn_eq e9]) d_Opd_nextLong_24
set_option maxHeartbeats 4000000 in
set_option maxRecDepth 100000 in
theorem c_Opd_onStack (l : Launch) (D : va_G) (cB cI : ClassId) (a : Nat → Nat) (bz : Nat) (ha : ap a 8) (S : Sc) : MI l y_Opd_onStack b_Opd_onStack 1 (some .int) rm_Opd_onStack [.ref (a 4)] D cB cI (wdC cB cI a) (ow a 8) bz S (f_Opd_onStack S) := by
  refine met_in R_Opd (by decide) rfl (Nat.le_of_ble_eq_true rfl) (wdC_D ha cB cI) ?_
  intro p e s m below meth c ls X hr hk hl hP hS
  have hx := X.1.1
  have hb := X.1.2.1
  have hown := X.1.2.2.2.1
  have hts := X.1.2.2.2.2
  have hl : lv_has ls 1 [(0, .ref (a 4))] := hl
  refine lv_aload_n hx hb d_Opd_onStack_0 rfl (lv_at hl 0 rfl) ?_
  refine gt_Opd X hP 1 (by decide) (v := .ref (a 2)) q_175 rfl d_Opd_onStack_1 ?_
  refine gt_Reg X hP 3 (by decide) (v := .int (S.1 3)) q_122 rfl d_Opd_onStack_4 ?_
  refine lv_aload_n hx hb d_Opd_onStack_7 rfl (lv_at hl 0 rfl) ?_
  refine kv_vs (rest := [.int (S.1 3)]) X hP hS (c_Opd_nextByte l D cB cI a bz ha S) (kw_Opd_nextByte hts q_358 ⟨Nat.le_of_ble_eq_true rfl, Nat.le_of_ble_eq_true rfl⟩) 4 rfl rfl rfl hl.1 rfl (lv_room (Nat.le_of_ble_eq_true rfl)) d_Opd_onStack_8 (fun r1 S2 H locs e3 hP hS => ?_)
  refine lv_iadd hx hb d_Opd_onStack_11 ?_
  refine ks_v (rest := []) X hP hS (c_Bus_bank0Place l D cB cI a bz ha S2 ((S.1 3) + r1)) (kw_Bus_bank0Place hts q_359 ⟨Nat.le_of_ble_eq_true rfl, Nat.le_of_ble_eq_true rfl⟩) rfl hl.1 rfl (lv_room (Nat.le_of_ble_eq_true rfl)) d_Opd_onStack_12 (fun H locs hP hS => ?_)
  exact rt_vs X hr hk hP hS (by rw [f_Opd_onStack, bn_eq e3]) d_Opd_onStack_15
set_option maxHeartbeats 4000000 in
set_option maxRecDepth 100000 in
theorem c_Opd_place (l : Launch) (D : va_G) (cB cI : ClassId) (a : Nat → Nat) (bz : Nat) (ha : ap a 8) (S : Sc) (x1 : Int32) : MI l y_Opd_place b_Opd_place 2 (some .int) rm_Opd_place [.ref (a 4), .int x1] D cB cI (wdC cB cI a) (ow a 8) bz S (f_Opd_place S x1) := by
  refine met_in R_Opd (by decide) rfl (Nat.le_of_ble_eq_true rfl) (wdC_D ha cB cI) ?_
  intro p e s m below meth c ls X hr hk hl hP hS
  have hx := X.1.1
  have hb := X.1.2.1
  have hown := X.1.2.2.2.1
  have hts := X.1.2.2.2.2
  have hl : lv_has ls 2 [(0, .ref (a 4)), (1, .int x1)] := hl
  refine lv_iload_n hx hb d_Opd_place_0 rfl (lv_at hl 1 rfl) ?_
  by_cases h1 : x1 = (1 : Int32)
  ·
    refine sw_t (k := (1 : Int32)) (tgt := 255) hx hb d_Opd_place_1 h1 rfl ?_
    refine lv_aload_n hx hb d_Opd_place_255 rfl (lv_at hl 0 rfl) ?_
    refine lv_aload_n hx hb d_Opd_place_256 rfl (lv_at hl 0 rfl) ?_
    refine gt_Opd X hP 0 (by decide) (v := .ref (a 1)) q_174 rfl d_Opd_place_257 ?_
    refine lv_aload_n hx hb d_Opd_place_260 rfl (lv_at hl 0 rfl) ?_
    refine lv_aload_n hx hb d_Opd_place_261 rfl (lv_at hl 0 rfl) ?_
    refine gt_Opd X hP 1 (by decide) (v := .ref (a 2)) q_175 rfl d_Opd_place_262 ?_
    refine gt_Reg X hP 1 (by decide) (v := .int (S.1 1)) q_112 rfl d_Opd_place_265 ?_
    refine kv_vs (rest := [.ref (a 1), .ref (a 4)]) X hP hS (c_Opd_direct l D cB cI a bz ha S (S.1 1)) (kw_Opd_direct hts q_354 ⟨Nat.le_of_ble_eq_true rfl, Nat.le_of_ble_eq_true rfl⟩) 4 rfl rfl rfl hl.1 rfl (lv_room (Nat.le_of_ble_eq_true rfl)) d_Opd_place_268 (fun r2 S3 H locs e4 hP hS => ?_)
    refine kv_vs (rest := [.ref (a 4)]) X hP hS (c_Bus_readWord l D cB cI a bz ha S3 r2) (kw_Bus_readWord hts q_373 ⟨Nat.le_of_ble_eq_true rfl, Nat.le_of_ble_eq_true rfl⟩) 1 rfl rfl rfl hl.1 rfl (lv_room (Nat.le_of_ble_eq_true rfl)) d_Opd_place_271 (fun r5 S6 H locs e7 hP hS => ?_)
    refine lv_iconst (v := (0 : Int32)) hx hb d_Opd_place_274 (by decide) ?_
    refine kv_v (rest := []) X hP hS (c_Opd_inDataBank l D cB cI a bz ha S6 r5 (0 : Int32)) (kw_Opd_inDataBank hts q_364 ⟨Nat.le_of_ble_eq_true rfl, Nat.le_of_ble_eq_true rfl⟩) 4 rfl rfl rfl hl.1 rfl (lv_room (Nat.le_of_ble_eq_true rfl)) d_Opd_place_275 (fun H locs hP hS => ?_)
    refine lv_goto (tgt := 381) hx hb d_Opd_place_278 rfl ?_
    exact rt_vs X hr hk hP hS (by rw [f_Opd_place, if_pos h1, bn_eq e4, bn_eq e7]) d_Opd_place_381
  ·
    by_cases h8 : x1 = (2 : Int32)
    ·
      refine sw_t (k := (2 : Int32)) (tgt := 380) hx hb d_Opd_place_1 h8 rfl ?_
      refine lv_iconst (v := (0 : Int32)) hx hb d_Opd_place_380 (by decide) ?_
      exact rt_vs X hr hk hP hS (by rw [f_Opd_place, if_neg h1, if_pos h8]) d_Opd_place_381
    ·
      by_cases h9 : x1 = (3 : Int32)
      ·
        refine sw_t (k := (3 : Int32)) (tgt := 348) hx hb d_Opd_place_1 h9 rfl ?_
        refine lv_aload_n hx hb d_Opd_place_348 rfl (lv_at hl 0 rfl) ?_
        refine kv_vs (rest := []) X hP hS (c_Opd_onStack l D cB cI a bz ha S) (kw_Opd_onStack hts q_378 ⟨Nat.le_of_ble_eq_true rfl, Nat.le_of_ble_eq_true rfl⟩) 4 rfl rfl rfl hl.1 rfl (lv_room (Nat.le_of_ble_eq_true rfl)) d_Opd_place_349 (fun r10 S11 H locs e12 hP hS => ?_)
        refine lv_goto (tgt := 381) hx hb d_Opd_place_352 rfl ?_
        exact rt_vs X hr hk hP hS (by rw [f_Opd_place, if_neg h1, if_neg h8, if_pos h9, bn_eq e12]) d_Opd_place_381
      ·
        by_cases h13 : x1 = (4 : Int32)
        ·
          refine sw_t (k := (4 : Int32)) (tgt := 380) hx hb d_Opd_place_1 h13 rfl ?_
          refine lv_iconst (v := (0 : Int32)) hx hb d_Opd_place_380 (by decide) ?_
          exact rt_vs X hr hk hP hS (by rw [f_Opd_place, if_neg h1, if_neg h8, if_neg h9, if_pos h13]) d_Opd_place_381
        ·
          by_cases h14 : x1 = (5 : Int32)
          ·
            refine sw_t (k := (5 : Int32)) (tgt := 140) hx hb d_Opd_place_1 h14 rfl ?_
            refine lv_aload_n hx hb d_Opd_place_140 rfl (lv_at hl 0 rfl) ?_
            refine lv_iconst (v := (0 : Int32)) hx hb d_Opd_place_141 (by decide) ?_
            refine kv_vs (rest := []) X hP hS (c_Opd_direct l D cB cI a bz ha S (0 : Int32)) (kw_Opd_direct hts q_354 ⟨Nat.le_of_ble_eq_true rfl, Nat.le_of_ble_eq_true rfl⟩) 4 rfl rfl rfl hl.1 rfl (lv_room (Nat.le_of_ble_eq_true rfl)) d_Opd_place_142 (fun r15 S16 H locs e17 hP hS => ?_)
            refine lv_goto (tgt := 381) hx hb d_Opd_place_145 rfl ?_
            exact rt_vs X hr hk hP hS (by rw [f_Opd_place, if_neg h1, if_neg h8, if_neg h9, if_neg h13, if_pos h14, bn_eq e17]) d_Opd_place_381
          ·
            by_cases h18 : x1 = (6 : Int32)
            ·
              refine sw_t (k := (6 : Int32)) (tgt := 380) hx hb d_Opd_place_1 h18 rfl ?_
              refine lv_iconst (v := (0 : Int32)) hx hb d_Opd_place_380 (by decide) ?_
              exact rt_vs X hr hk hP hS (by rw [f_Opd_place, if_neg h1, if_neg h8, if_neg h9, if_neg h13, if_neg h14, if_pos h18]) d_Opd_place_381
            ·
              by_cases h19 : x1 = (7 : Int32)
              ·
                refine sw_t (k := (7 : Int32)) (tgt := 307) hx hb d_Opd_place_1 h19 rfl ?_
                refine lv_aload_n hx hb d_Opd_place_307 rfl (lv_at hl 0 rfl) ?_
                refine gt_Opd X hP 0 (by decide) (v := .ref (a 1)) q_174 rfl d_Opd_place_308 ?_
                refine lv_aload_n hx hb d_Opd_place_311 rfl (lv_at hl 0 rfl) ?_
                refine lv_iconst (v := (0 : Int32)) hx hb d_Opd_place_312 (by decide) ?_
                refine kv_vs (rest := [.ref (a 1)]) X hP hS (c_Opd_direct l D cB cI a bz ha S (0 : Int32)) (kw_Opd_direct hts q_354 ⟨Nat.le_of_ble_eq_true rfl, Nat.le_of_ble_eq_true rfl⟩) 4 rfl rfl rfl hl.1 rfl (lv_room (Nat.le_of_ble_eq_true rfl)) d_Opd_place_313 (fun r20 S21 H locs e22 hP hS => ?_)
                refine kv_vs (rest := []) X hP hS (c_Bus_readLong l D cB cI a bz ha S21 r20) (kw_Bus_readLong hts q_374 ⟨Nat.le_of_ble_eq_true rfl, Nat.le_of_ble_eq_true rfl⟩) 1 rfl rfl rfl hl.1 rfl (lv_room (Nat.le_of_ble_eq_true rfl)) d_Opd_place_316 (fun r23 S24 H locs e25 hP hS => ?_)
                refine lv_goto (tgt := 381) hx hb d_Opd_place_319 rfl ?_
                exact rt_vs X hr hk hP hS (by rw [f_Opd_place, if_neg h1, if_neg h8, if_neg h9, if_neg h13, if_neg h14, if_neg h18, if_pos h19, bn_eq e22, bn_eq e25]) d_Opd_place_381
              ·
                by_cases h26 : x1 = (8 : Int32)
                ·
                  refine sw_t (k := (8 : Int32)) (tgt := 380) hx hb d_Opd_place_1 h26 rfl ?_
                  refine lv_iconst (v := (0 : Int32)) hx hb d_Opd_place_380 (by decide) ?_
                  exact rt_vs X hr hk hP hS (by rw [f_Opd_place, if_neg h1, if_neg h8, if_neg h9, if_neg h13, if_neg h14, if_neg h18, if_neg h19, if_pos h26]) d_Opd_place_381
                ·
                  by_cases h27 : x1 = (9 : Int32)
                  ·
                    refine sw_t (k := (9 : Int32)) (tgt := 380) hx hb d_Opd_place_1 h27 rfl ?_
                    refine lv_iconst (v := (0 : Int32)) hx hb d_Opd_place_380 (by decide) ?_
                    exact rt_vs X hr hk hP hS (by rw [f_Opd_place, if_neg h1, if_neg h8, if_neg h9, if_neg h13, if_neg h14, if_neg h18, if_neg h19, if_neg h26, if_pos h27]) d_Opd_place_381
                  ·
                    by_cases h28 : x1 = (10 : Int32)
                    ·
                      refine sw_t (k := (10 : Int32)) (tgt := 380) hx hb d_Opd_place_1 h28 rfl ?_
                      refine lv_iconst (v := (0 : Int32)) hx hb d_Opd_place_380 (by decide) ?_
                      exact rt_vs X hr hk hP hS (by rw [f_Opd_place, if_neg h1, if_neg h8, if_neg h9, if_neg h13, if_neg h14, if_neg h18, if_neg h19, if_neg h26, if_neg h27, if_pos h28]) d_Opd_place_381
                    ·
                      by_cases h29 : x1 = (11 : Int32)
                      ·
                        refine sw_t (k := (11 : Int32)) (tgt := 380) hx hb d_Opd_place_1 h29 rfl ?_
                        refine lv_iconst (v := (0 : Int32)) hx hb d_Opd_place_380 (by decide) ?_
                        exact rt_vs X hr hk hP hS (by rw [f_Opd_place, if_neg h1, if_neg h8, if_neg h9, if_neg h13, if_neg h14, if_neg h18, if_neg h19, if_neg h26, if_neg h27, if_neg h28, if_pos h29]) d_Opd_place_381
                      ·
                        by_cases h30 : x1 = (12 : Int32)
                        ·
                          refine sw_t (k := (12 : Int32)) (tgt := 380) hx hb d_Opd_place_1 h30 rfl ?_
                          refine lv_iconst (v := (0 : Int32)) hx hb d_Opd_place_380 (by decide) ?_
                          exact rt_vs X hr hk hP hS (by rw [f_Opd_place, if_neg h1, if_neg h8, if_neg h9, if_neg h13, if_neg h14, if_neg h18, if_neg h19, if_neg h26, if_neg h27, if_neg h28, if_neg h29, if_pos h30]) d_Opd_place_381
                        ·
                          by_cases h31 : x1 = (13 : Int32)
                          ·
                            refine sw_t (k := (13 : Int32)) (tgt := 162) hx hb d_Opd_place_1 h31 rfl ?_
                            refine lv_aload_n hx hb d_Opd_place_162 rfl (lv_at hl 0 rfl) ?_
                            refine lv_aload_n hx hb d_Opd_place_163 rfl (lv_at hl 0 rfl) ?_
                            refine kv_vs (rest := [.ref (a 4)]) X hP hS (c_Opd_nextWord l D cB cI a bz ha S) (kw_Opd_nextWord hts q_360 ⟨Nat.le_of_ble_eq_true rfl, Nat.le_of_ble_eq_true rfl⟩) 4 rfl rfl rfl hl.1 rfl (lv_room (Nat.le_of_ble_eq_true rfl)) d_Opd_place_164 (fun r32 S33 H locs e34 hP hS => ?_)
                            refine lv_iconst (v := (0 : Int32)) hx hb d_Opd_place_167 (by decide) ?_
                            refine kv_v (rest := []) X hP hS (c_Opd_inDataBank l D cB cI a bz ha S33 r32 (0 : Int32)) (kw_Opd_inDataBank hts q_364 ⟨Nat.le_of_ble_eq_true rfl, Nat.le_of_ble_eq_true rfl⟩) 4 rfl rfl rfl hl.1 rfl (lv_room (Nat.le_of_ble_eq_true rfl)) d_Opd_place_168 (fun H locs hP hS => ?_)
                            refine lv_goto (tgt := 381) hx hb d_Opd_place_171 rfl ?_
                            exact rt_vs X hr hk hP hS (by rw [f_Opd_place, if_neg h1, if_neg h8, if_neg h9, if_neg h13, if_neg h14, if_neg h18, if_neg h19, if_neg h26, if_neg h27, if_neg h28, if_neg h29, if_neg h30, if_pos h31, bn_eq e34]) d_Opd_place_381
                          ·
                            by_cases h35 : x1 = (14 : Int32)
                            ·
                              refine sw_t (k := (14 : Int32)) (tgt := 380) hx hb d_Opd_place_1 h35 rfl ?_
                              refine lv_iconst (v := (0 : Int32)) hx hb d_Opd_place_380 (by decide) ?_
                              exact rt_vs X hr hk hP hS (by rw [f_Opd_place, if_neg h1, if_neg h8, if_neg h9, if_neg h13, if_neg h14, if_neg h18, if_neg h19, if_neg h26, if_neg h27, if_neg h28, if_neg h29, if_neg h30, if_neg h31, if_pos h35]) d_Opd_place_381
                            ·
                              by_cases h36 : x1 = (15 : Int32)
                              ·
                                refine sw_t (k := (15 : Int32)) (tgt := 210) hx hb d_Opd_place_1 h36 rfl ?_
                                refine lv_aload_n hx hb d_Opd_place_210 rfl (lv_at hl 0 rfl) ?_
                                refine kv_vs (rest := []) X hP hS (c_Opd_nextLong l D cB cI a bz ha S) (kw_Opd_nextLong hts q_369 ⟨Nat.le_of_ble_eq_true rfl, Nat.le_of_ble_eq_true rfl⟩) 4 rfl rfl rfl hl.1 rfl (lv_room (Nat.le_of_ble_eq_true rfl)) d_Opd_place_211 (fun r37 S38 H locs e39 hP hS => ?_)
                                refine lv_goto (tgt := 381) hx hb d_Opd_place_214 rfl ?_
                                exact rt_vs X hr hk hP hS (by rw [f_Opd_place, if_neg h1, if_neg h8, if_neg h9, if_neg h13, if_neg h14, if_neg h18, if_neg h19, if_neg h26, if_neg h27, if_neg h28, if_neg h29, if_neg h30, if_neg h31, if_neg h35, if_pos h36, bn_eq e39]) d_Opd_place_381
                              ·
                                by_cases h40 : x1 = (16 : Int32)
                                ·
                                  refine sw_t (k := (16 : Int32)) (tgt := 380) hx hb d_Opd_place_1 h40 rfl ?_
                                  refine lv_iconst (v := (0 : Int32)) hx hb d_Opd_place_380 (by decide) ?_
                                  exact rt_vs X hr hk hP hS (by rw [f_Opd_place, if_neg h1, if_neg h8, if_neg h9, if_neg h13, if_neg h14, if_neg h18, if_neg h19, if_neg h26, if_neg h27, if_neg h28, if_neg h29, if_neg h30, if_neg h31, if_neg h35, if_neg h36, if_pos h40]) d_Opd_place_381
                                ·
                                  by_cases h41 : x1 = (17 : Int32)
                                  ·
                                    refine sw_t (k := (17 : Int32)) (tgt := 281) hx hb d_Opd_place_1 h41 rfl ?_
                                    refine lv_aload_n hx hb d_Opd_place_281 rfl (lv_at hl 0 rfl) ?_
                                    refine lv_aload_n hx hb d_Opd_place_282 rfl (lv_at hl 0 rfl) ?_
                                    refine gt_Opd X hP 0 (by decide) (v := .ref (a 1)) q_174 rfl d_Opd_place_283 ?_
                                    refine lv_aload_n hx hb d_Opd_place_286 rfl (lv_at hl 0 rfl) ?_
                                    refine lv_iconst (v := (0 : Int32)) hx hb d_Opd_place_287 (by decide) ?_
                                    refine kv_vs (rest := [.ref (a 1), .ref (a 4)]) X hP hS (c_Opd_direct l D cB cI a bz ha S (0 : Int32)) (kw_Opd_direct hts q_354 ⟨Nat.le_of_ble_eq_true rfl, Nat.le_of_ble_eq_true rfl⟩) 4 rfl rfl rfl hl.1 rfl (lv_room (Nat.le_of_ble_eq_true rfl)) d_Opd_place_288 (fun r42 S43 H locs e44 hP hS => ?_)
                                    refine kv_vs (rest := [.ref (a 4)]) X hP hS (c_Bus_readWord l D cB cI a bz ha S43 r42) (kw_Bus_readWord hts q_373 ⟨Nat.le_of_ble_eq_true rfl, Nat.le_of_ble_eq_true rfl⟩) 1 rfl rfl rfl hl.1 rfl (lv_room (Nat.le_of_ble_eq_true rfl)) d_Opd_place_291 (fun r45 S46 H locs e47 hP hS => ?_)
                                    refine lv_aload_n hx hb d_Opd_place_294 rfl (lv_at hl 0 rfl) ?_
                                    refine gt_Opd X hP 1 (by decide) (v := .ref (a 2)) q_175 rfl d_Opd_place_295 ?_
                                    refine gt_Reg X hP 2 (by decide) (v := .int (S46.1 2)) q_116 rfl d_Opd_place_298 ?_
                                    refine kv_v (rest := []) X hP hS (c_Opd_inDataBank l D cB cI a bz ha S46 r45 (S46.1 2)) (kw_Opd_inDataBank hts q_364 ⟨Nat.le_of_ble_eq_true rfl, Nat.le_of_ble_eq_true rfl⟩) 4 rfl rfl rfl hl.1 rfl (lv_room (Nat.le_of_ble_eq_true rfl)) d_Opd_place_301 (fun H locs hP hS => ?_)
                                    refine lv_goto (tgt := 381) hx hb d_Opd_place_304 rfl ?_
                                    exact rt_vs X hr hk hP hS (by rw [f_Opd_place, if_neg h1, if_neg h8, if_neg h9, if_neg h13, if_neg h14, if_neg h18, if_neg h19, if_neg h26, if_neg h27, if_neg h28, if_neg h29, if_neg h30, if_neg h31, if_neg h35, if_neg h36, if_neg h40, if_pos h41, bn_eq e44, bn_eq e47]) d_Opd_place_381
                                  ·
                                    by_cases h48 : x1 = (18 : Int32)
                                    ·
                                      refine sw_t (k := (18 : Int32)) (tgt := 235) hx hb d_Opd_place_1 h48 rfl ?_
                                      refine lv_aload_n hx hb d_Opd_place_235 rfl (lv_at hl 0 rfl) ?_
                                      refine lv_aload_n hx hb d_Opd_place_236 rfl (lv_at hl 0 rfl) ?_
                                      refine gt_Opd X hP 0 (by decide) (v := .ref (a 1)) q_174 rfl d_Opd_place_237 ?_
                                      refine lv_aload_n hx hb d_Opd_place_240 rfl (lv_at hl 0 rfl) ?_
                                      refine lv_iconst (v := (0 : Int32)) hx hb d_Opd_place_241 (by decide) ?_
                                      refine kv_vs (rest := [.ref (a 1), .ref (a 4)]) X hP hS (c_Opd_direct l D cB cI a bz ha S (0 : Int32)) (kw_Opd_direct hts q_354 ⟨Nat.le_of_ble_eq_true rfl, Nat.le_of_ble_eq_true rfl⟩) 4 rfl rfl rfl hl.1 rfl (lv_room (Nat.le_of_ble_eq_true rfl)) d_Opd_place_242 (fun r49 S50 H locs e51 hP hS => ?_)
                                      refine kv_vs (rest := [.ref (a 4)]) X hP hS (c_Bus_readWord l D cB cI a bz ha S50 r49) (kw_Bus_readWord hts q_373 ⟨Nat.le_of_ble_eq_true rfl, Nat.le_of_ble_eq_true rfl⟩) 1 rfl rfl rfl hl.1 rfl (lv_room (Nat.le_of_ble_eq_true rfl)) d_Opd_place_245 (fun r52 S53 H locs e54 hP hS => ?_)
                                      refine lv_iconst (v := (0 : Int32)) hx hb d_Opd_place_248 (by decide) ?_
                                      refine kv_v (rest := []) X hP hS (c_Opd_inDataBank l D cB cI a bz ha S53 r52 (0 : Int32)) (kw_Opd_inDataBank hts q_364 ⟨Nat.le_of_ble_eq_true rfl, Nat.le_of_ble_eq_true rfl⟩) 4 rfl rfl rfl hl.1 rfl (lv_room (Nat.le_of_ble_eq_true rfl)) d_Opd_place_249 (fun H locs hP hS => ?_)
                                      refine lv_goto (tgt := 381) hx hb d_Opd_place_252 rfl ?_
                                      exact rt_vs X hr hk hP hS (by rw [f_Opd_place, if_neg h1, if_neg h8, if_neg h9, if_neg h13, if_neg h14, if_neg h18, if_neg h19, if_neg h26, if_neg h27, if_neg h28, if_neg h29, if_neg h30, if_neg h31, if_neg h35, if_neg h36, if_neg h40, if_neg h41, if_pos h48, bn_eq e51, bn_eq e54]) d_Opd_place_381
                                    ·
                                      by_cases h55 : x1 = (19 : Int32)
                                      ·
                                        refine sw_t (k := (19 : Int32)) (tgt := 355) hx hb d_Opd_place_1 h55 rfl ?_
                                        refine lv_aload_n hx hb d_Opd_place_355 rfl (lv_at hl 0 rfl) ?_
                                        refine lv_aload_n hx hb d_Opd_place_356 rfl (lv_at hl 0 rfl) ?_
                                        refine gt_Opd X hP 0 (by decide) (v := .ref (a 1)) q_174 rfl d_Opd_place_357 ?_
                                        refine lv_aload_n hx hb d_Opd_place_360 rfl (lv_at hl 0 rfl) ?_
                                        refine kv_vs (rest := [.ref (a 1), .ref (a 4)]) X hP hS (c_Opd_onStack l D cB cI a bz ha S) (kw_Opd_onStack hts q_378 ⟨Nat.le_of_ble_eq_true rfl, Nat.le_of_ble_eq_true rfl⟩) 4 rfl rfl rfl hl.1 rfl (lv_room (Nat.le_of_ble_eq_true rfl)) d_Opd_place_361 (fun r56 S57 H locs e58 hP hS => ?_)
                                        refine kv_vs (rest := [.ref (a 4)]) X hP hS (c_Bus_readWord l D cB cI a bz ha S57 r56) (kw_Bus_readWord hts q_373 ⟨Nat.le_of_ble_eq_true rfl, Nat.le_of_ble_eq_true rfl⟩) 1 rfl rfl rfl hl.1 rfl (lv_room (Nat.le_of_ble_eq_true rfl)) d_Opd_place_364 (fun r59 S60 H locs e61 hP hS => ?_)
                                        refine lv_aload_n hx hb d_Opd_place_367 rfl (lv_at hl 0 rfl) ?_
                                        refine gt_Opd X hP 1 (by decide) (v := .ref (a 2)) q_175 rfl d_Opd_place_368 ?_
                                        refine gt_Reg X hP 2 (by decide) (v := .int (S60.1 2)) q_116 rfl d_Opd_place_371 ?_
                                        refine kv_v (rest := []) X hP hS (c_Opd_inDataBank l D cB cI a bz ha S60 r59 (S60.1 2)) (kw_Opd_inDataBank hts q_364 ⟨Nat.le_of_ble_eq_true rfl, Nat.le_of_ble_eq_true rfl⟩) 4 rfl rfl rfl hl.1 rfl (lv_room (Nat.le_of_ble_eq_true rfl)) d_Opd_place_374 (fun H locs hP hS => ?_)
                                        refine lv_goto (tgt := 381) hx hb d_Opd_place_377 rfl ?_
                                        exact rt_vs X hr hk hP hS (by rw [f_Opd_place, if_neg h1, if_neg h8, if_neg h9, if_neg h13, if_neg h14, if_neg h18, if_neg h19, if_neg h26, if_neg h27, if_neg h28, if_neg h29, if_neg h30, if_neg h31, if_neg h35, if_neg h36, if_neg h40, if_neg h41, if_neg h48, if_pos h55, bn_eq e58, bn_eq e61]) d_Opd_place_381
                                      ·
                                        by_cases h62 : x1 = (20 : Int32)
                                        ·
                                          refine sw_t (k := (20 : Int32)) (tgt := 380) hx hb d_Opd_place_1 h62 rfl ?_
                                          refine lv_iconst (v := (0 : Int32)) hx hb d_Opd_place_380 (by decide) ?_
                                          exact rt_vs X hr hk hP hS (by rw [f_Opd_place, if_neg h1, if_neg h8, if_neg h9, if_neg h13, if_neg h14, if_neg h18, if_neg h19, if_neg h26, if_neg h27, if_neg h28, if_neg h29, if_neg h30, if_neg h31, if_neg h35, if_neg h36, if_neg h40, if_neg h41, if_neg h48, if_neg h55, if_pos h62]) d_Opd_place_381
                                        ·
                                          by_cases h63 : x1 = (21 : Int32)
                                          ·
                                            refine sw_t (k := (21 : Int32)) (tgt := 148) hx hb d_Opd_place_1 h63 rfl ?_
                                            refine lv_aload_n hx hb d_Opd_place_148 rfl (lv_at hl 0 rfl) ?_
                                            refine lv_aload_n hx hb d_Opd_place_149 rfl (lv_at hl 0 rfl) ?_
                                            refine gt_Opd X hP 1 (by decide) (v := .ref (a 2)) q_175 rfl d_Opd_place_150 ?_
                                            refine gt_Reg X hP 1 (by decide) (v := .int (S.1 1)) q_112 rfl d_Opd_place_153 ?_
                                            refine kv_vs (rest := []) X hP hS (c_Opd_direct l D cB cI a bz ha S (S.1 1)) (kw_Opd_direct hts q_354 ⟨Nat.le_of_ble_eq_true rfl, Nat.le_of_ble_eq_true rfl⟩) 4 rfl rfl rfl hl.1 rfl (lv_room (Nat.le_of_ble_eq_true rfl)) d_Opd_place_156 (fun r64 S65 H locs e66 hP hS => ?_)
                                            refine lv_goto (tgt := 381) hx hb d_Opd_place_159 rfl ?_
                                            exact rt_vs X hr hk hP hS (by rw [f_Opd_place, if_neg h1, if_neg h8, if_neg h9, if_neg h13, if_neg h14, if_neg h18, if_neg h19, if_neg h26, if_neg h27, if_neg h28, if_neg h29, if_neg h30, if_neg h31, if_neg h35, if_neg h36, if_neg h40, if_neg h41, if_neg h48, if_neg h55, if_neg h62, if_pos h63, bn_eq e66]) d_Opd_place_381
                                          ·
                                            by_cases h67 : x1 = (22 : Int32)
                                            ·
                                              refine sw_t (k := (22 : Int32)) (tgt := 380) hx hb d_Opd_place_1 h67 rfl ?_
                                              refine lv_iconst (v := (0 : Int32)) hx hb d_Opd_place_380 (by decide) ?_
                                              exact rt_vs X hr hk hP hS (by rw [f_Opd_place, if_neg h1, if_neg h8, if_neg h9, if_neg h13, if_neg h14, if_neg h18, if_neg h19, if_neg h26, if_neg h27, if_neg h28, if_neg h29, if_neg h30, if_neg h31, if_neg h35, if_neg h36, if_neg h40, if_neg h41, if_neg h48, if_neg h55, if_neg h62, if_neg h63, if_pos h67]) d_Opd_place_381
                                            ·
                                              by_cases h68 : x1 = (23 : Int32)
                                              ·
                                                refine sw_t (k := (23 : Int32)) (tgt := 322) hx hb d_Opd_place_1 h68 rfl ?_
                                                refine lv_aload_n hx hb d_Opd_place_322 rfl (lv_at hl 0 rfl) ?_
                                                refine gt_Opd X hP 0 (by decide) (v := .ref (a 1)) q_174 rfl d_Opd_place_323 ?_
                                                refine lv_aload_n hx hb d_Opd_place_326 rfl (lv_at hl 0 rfl) ?_
                                                refine lv_iconst (v := (0 : Int32)) hx hb d_Opd_place_327 (by decide) ?_
                                                refine kv_vs (rest := [.ref (a 1)]) X hP hS (c_Opd_direct l D cB cI a bz ha S (0 : Int32)) (kw_Opd_direct hts q_354 ⟨Nat.le_of_ble_eq_true rfl, Nat.le_of_ble_eq_true rfl⟩) 4 rfl rfl rfl hl.1 rfl (lv_room (Nat.le_of_ble_eq_true rfl)) d_Opd_place_328 (fun r69 S70 H locs e71 hP hS => ?_)
                                                refine kv_vs (rest := []) X hP hS (c_Bus_readLong l D cB cI a bz ha S70 r69) (kw_Bus_readLong hts q_374 ⟨Nat.le_of_ble_eq_true rfl, Nat.le_of_ble_eq_true rfl⟩) 1 rfl rfl rfl hl.1 rfl (lv_room (Nat.le_of_ble_eq_true rfl)) d_Opd_place_331 (fun r72 S73 H locs e74 hP hS => ?_)
                                                refine lv_aload_n hx hb d_Opd_place_334 rfl (lv_at hl 0 rfl) ?_
                                                refine gt_Opd X hP 1 (by decide) (v := .ref (a 2)) q_175 rfl d_Opd_place_335 ?_
                                                refine gt_Reg X hP 2 (by decide) (v := .int (S73.1 2)) q_116 rfl d_Opd_place_338 ?_
                                                refine lv_iadd hx hb d_Opd_place_341 ?_
                                                refine ks_v (rest := []) X hP hS (c_Bus_longPlace l D cB cI a bz ha S73 (r72 + (S73.1 2))) (kw_Bus_longPlace hts q_368 ⟨Nat.le_of_ble_eq_true rfl, Nat.le_of_ble_eq_true rfl⟩) rfl hl.1 rfl (lv_room (Nat.le_of_ble_eq_true rfl)) d_Opd_place_342 (fun H locs hP hS => ?_)
                                                refine lv_goto (tgt := 381) hx hb d_Opd_place_345 rfl ?_
                                                exact rt_vs X hr hk hP hS (by rw [f_Opd_place, if_neg h1, if_neg h8, if_neg h9, if_neg h13, if_neg h14, if_neg h18, if_neg h19, if_neg h26, if_neg h27, if_neg h28, if_neg h29, if_neg h30, if_neg h31, if_neg h35, if_neg h36, if_neg h40, if_neg h41, if_neg h48, if_neg h55, if_neg h62, if_neg h63, if_neg h67, if_pos h68, bn_eq e71, bn_eq e74]) d_Opd_place_381
                                              ·
                                                by_cases h75 : x1 = (24 : Int32)
                                                ·
                                                  refine sw_t (k := (24 : Int32)) (tgt := 380) hx hb d_Opd_place_1 h75 rfl ?_
                                                  refine lv_iconst (v := (0 : Int32)) hx hb d_Opd_place_380 (by decide) ?_
                                                  exact rt_vs X hr hk hP hS (by rw [f_Opd_place, if_neg h1, if_neg h8, if_neg h9, if_neg h13, if_neg h14, if_neg h18, if_neg h19, if_neg h26, if_neg h27, if_neg h28, if_neg h29, if_neg h30, if_neg h31, if_neg h35, if_neg h36, if_neg h40, if_neg h41, if_neg h48, if_neg h55, if_neg h62, if_neg h63, if_neg h67, if_neg h68, if_pos h75]) d_Opd_place_381
                                                ·
                                                  by_cases h76 : x1 = (25 : Int32)
                                                  ·
                                                    refine sw_t (k := (25 : Int32)) (tgt := 192) hx hb d_Opd_place_1 h76 rfl ?_
                                                    refine lv_aload_n hx hb d_Opd_place_192 rfl (lv_at hl 0 rfl) ?_
                                                    refine lv_aload_n hx hb d_Opd_place_193 rfl (lv_at hl 0 rfl) ?_
                                                    refine kv_vs (rest := [.ref (a 4)]) X hP hS (c_Opd_nextWord l D cB cI a bz ha S) (kw_Opd_nextWord hts q_360 ⟨Nat.le_of_ble_eq_true rfl, Nat.le_of_ble_eq_true rfl⟩) 4 rfl rfl rfl hl.1 rfl (lv_room (Nat.le_of_ble_eq_true rfl)) d_Opd_place_194 (fun r77 S78 H locs e79 hP hS => ?_)
                                                    refine lv_aload_n hx hb d_Opd_place_197 rfl (lv_at hl 0 rfl) ?_
                                                    refine gt_Opd X hP 1 (by decide) (v := .ref (a 2)) q_175 rfl d_Opd_place_198 ?_
                                                    refine gt_Reg X hP 2 (by decide) (v := .int (S78.1 2)) q_116 rfl d_Opd_place_201 ?_
                                                    refine kv_v (rest := []) X hP hS (c_Opd_inDataBank l D cB cI a bz ha S78 r77 (S78.1 2)) (kw_Opd_inDataBank hts q_364 ⟨Nat.le_of_ble_eq_true rfl, Nat.le_of_ble_eq_true rfl⟩) 4 rfl rfl rfl hl.1 rfl (lv_room (Nat.le_of_ble_eq_true rfl)) d_Opd_place_204 (fun H locs hP hS => ?_)
                                                    refine lv_goto (tgt := 381) hx hb d_Opd_place_207 rfl ?_
                                                    exact rt_vs X hr hk hP hS (by rw [f_Opd_place, if_neg h1, if_neg h8, if_neg h9, if_neg h13, if_neg h14, if_neg h18, if_neg h19, if_neg h26, if_neg h27, if_neg h28, if_neg h29, if_neg h30, if_neg h31, if_neg h35, if_neg h36, if_neg h40, if_neg h41, if_neg h48, if_neg h55, if_neg h62, if_neg h63, if_neg h67, if_neg h68, if_neg h75, if_pos h76, bn_eq e79]) d_Opd_place_381
                                                  ·
                                                    by_cases h80 : x1 = (26 : Int32)
                                                    ·
                                                      refine sw_t (k := (26 : Int32)) (tgt := 380) hx hb d_Opd_place_1 h80 rfl ?_
                                                      refine lv_iconst (v := (0 : Int32)) hx hb d_Opd_place_380 (by decide) ?_
                                                      exact rt_vs X hr hk hP hS (by rw [f_Opd_place, if_neg h1, if_neg h8, if_neg h9, if_neg h13, if_neg h14, if_neg h18, if_neg h19, if_neg h26, if_neg h27, if_neg h28, if_neg h29, if_neg h30, if_neg h31, if_neg h35, if_neg h36, if_neg h40, if_neg h41, if_neg h48, if_neg h55, if_neg h62, if_neg h63, if_neg h67, if_neg h68, if_neg h75, if_neg h76, if_pos h80]) d_Opd_place_381
                                                    ·
                                                      by_cases h81 : x1 = (27 : Int32)
                                                      ·
                                                        refine sw_t (k := (27 : Int32)) (tgt := 380) hx hb d_Opd_place_1 h81 rfl ?_
                                                        refine lv_iconst (v := (0 : Int32)) hx hb d_Opd_place_380 (by decide) ?_
                                                        exact rt_vs X hr hk hP hS (by rw [f_Opd_place, if_neg h1, if_neg h8, if_neg h9, if_neg h13, if_neg h14, if_neg h18, if_neg h19, if_neg h26, if_neg h27, if_neg h28, if_neg h29, if_neg h30, if_neg h31, if_neg h35, if_neg h36, if_neg h40, if_neg h41, if_neg h48, if_neg h55, if_neg h62, if_neg h63, if_neg h67, if_neg h68, if_neg h75, if_neg h76, if_neg h80, if_pos h81]) d_Opd_place_381
                                                      ·
                                                        by_cases h82 : x1 = (28 : Int32)
                                                        ·
                                                          refine sw_t (k := (28 : Int32)) (tgt := 380) hx hb d_Opd_place_1 h82 rfl ?_
                                                          refine lv_iconst (v := (0 : Int32)) hx hb d_Opd_place_380 (by decide) ?_
                                                          exact rt_vs X hr hk hP hS (by rw [f_Opd_place, if_neg h1, if_neg h8, if_neg h9, if_neg h13, if_neg h14, if_neg h18, if_neg h19, if_neg h26, if_neg h27, if_neg h28, if_neg h29, if_neg h30, if_neg h31, if_neg h35, if_neg h36, if_neg h40, if_neg h41, if_neg h48, if_neg h55, if_neg h62, if_neg h63, if_neg h67, if_neg h68, if_neg h75, if_neg h76, if_neg h80, if_neg h81, if_pos h82]) d_Opd_place_381
                                                        ·
                                                          by_cases h83 : x1 = (29 : Int32)
                                                          ·
                                                            refine sw_t (k := (29 : Int32)) (tgt := 174) hx hb d_Opd_place_1 h83 rfl ?_
                                                            refine lv_aload_n hx hb d_Opd_place_174 rfl (lv_at hl 0 rfl) ?_
                                                            refine lv_aload_n hx hb d_Opd_place_175 rfl (lv_at hl 0 rfl) ?_
                                                            refine kv_vs (rest := [.ref (a 4)]) X hP hS (c_Opd_nextWord l D cB cI a bz ha S) (kw_Opd_nextWord hts q_360 ⟨Nat.le_of_ble_eq_true rfl, Nat.le_of_ble_eq_true rfl⟩) 4 rfl rfl rfl hl.1 rfl (lv_room (Nat.le_of_ble_eq_true rfl)) d_Opd_place_176 (fun r84 S85 H locs e86 hP hS => ?_)
                                                            refine lv_aload_n hx hb d_Opd_place_179 rfl (lv_at hl 0 rfl) ?_
                                                            refine gt_Opd X hP 1 (by decide) (v := .ref (a 2)) q_175 rfl d_Opd_place_180 ?_
                                                            refine gt_Reg X hP 1 (by decide) (v := .int (S85.1 1)) q_112 rfl d_Opd_place_183 ?_
                                                            refine kv_v (rest := []) X hP hS (c_Opd_inDataBank l D cB cI a bz ha S85 r84 (S85.1 1)) (kw_Opd_inDataBank hts q_364 ⟨Nat.le_of_ble_eq_true rfl, Nat.le_of_ble_eq_true rfl⟩) 4 rfl rfl rfl hl.1 rfl (lv_room (Nat.le_of_ble_eq_true rfl)) d_Opd_place_186 (fun H locs hP hS => ?_)
                                                            refine lv_goto (tgt := 381) hx hb d_Opd_place_189 rfl ?_
                                                            exact rt_vs X hr hk hP hS (by rw [f_Opd_place, if_neg h1, if_neg h8, if_neg h9, if_neg h13, if_neg h14, if_neg h18, if_neg h19, if_neg h26, if_neg h27, if_neg h28, if_neg h29, if_neg h30, if_neg h31, if_neg h35, if_neg h36, if_neg h40, if_neg h41, if_neg h48, if_neg h55, if_neg h62, if_neg h63, if_neg h67, if_neg h68, if_neg h75, if_neg h76, if_neg h80, if_neg h81, if_neg h82, if_pos h83, bn_eq e86]) d_Opd_place_381
                                                          ·
                                                            by_cases h87 : x1 = (30 : Int32)
                                                            ·
                                                              refine sw_t (k := (30 : Int32)) (tgt := 380) hx hb d_Opd_place_1 h87 rfl ?_
                                                              refine lv_iconst (v := (0 : Int32)) hx hb d_Opd_place_380 (by decide) ?_
                                                              exact rt_vs X hr hk hP hS (by rw [f_Opd_place, if_neg h1, if_neg h8, if_neg h9, if_neg h13, if_neg h14, if_neg h18, if_neg h19, if_neg h26, if_neg h27, if_neg h28, if_neg h29, if_neg h30, if_neg h31, if_neg h35, if_neg h36, if_neg h40, if_neg h41, if_neg h48, if_neg h55, if_neg h62, if_neg h63, if_neg h67, if_neg h68, if_neg h75, if_neg h76, if_neg h80, if_neg h81, if_neg h82, if_neg h83, if_pos h87]) d_Opd_place_381
                                                            ·
                                                              by_cases h88 : x1 = (31 : Int32)
                                                              ·
                                                                refine sw_t (k := (31 : Int32)) (tgt := 217) hx hb d_Opd_place_1 h88 rfl ?_
                                                                refine lv_aload_n hx hb d_Opd_place_217 rfl (lv_at hl 0 rfl) ?_
                                                                refine kv_vs (rest := []) X hP hS (c_Opd_nextLong l D cB cI a bz ha S) (kw_Opd_nextLong hts q_369 ⟨Nat.le_of_ble_eq_true rfl, Nat.le_of_ble_eq_true rfl⟩) 4 rfl rfl rfl hl.1 rfl (lv_room (Nat.le_of_ble_eq_true rfl)) d_Opd_place_218 (fun r89 S90 H locs e91 hP hS => ?_)
                                                                refine lv_aload_n hx hb d_Opd_place_221 rfl (lv_at hl 0 rfl) ?_
                                                                refine gt_Opd X hP 1 (by decide) (v := .ref (a 2)) q_175 rfl d_Opd_place_222 ?_
                                                                refine gt_Reg X hP 1 (by decide) (v := .int (S90.1 1)) q_112 rfl d_Opd_place_225 ?_
                                                                refine lv_iadd hx hb d_Opd_place_228 ?_
                                                                refine ks_v (rest := []) X hP hS (c_Bus_longPlace l D cB cI a bz ha S90 (r89 + (S90.1 1))) (kw_Bus_longPlace hts q_368 ⟨Nat.le_of_ble_eq_true rfl, Nat.le_of_ble_eq_true rfl⟩) rfl hl.1 rfl (lv_room (Nat.le_of_ble_eq_true rfl)) d_Opd_place_229 (fun H locs hP hS => ?_)
                                                                refine lv_goto (tgt := 381) hx hb d_Opd_place_232 rfl ?_
                                                                exact rt_vs X hr hk hP hS (by rw [f_Opd_place, if_neg h1, if_neg h8, if_neg h9, if_neg h13, if_neg h14, if_neg h18, if_neg h19, if_neg h26, if_neg h27, if_neg h28, if_neg h29, if_neg h30, if_neg h31, if_neg h35, if_neg h36, if_neg h40, if_neg h41, if_neg h48, if_neg h55, if_neg h62, if_neg h63, if_neg h67, if_neg h68, if_neg h75, if_neg h76, if_neg h80, if_neg h81, if_neg h82, if_neg h83, if_neg h87, if_pos h88, bn_eq e91]) d_Opd_place_381
                                                              ·
                                                                refine sn_t (tgt := 380) hx hb d_Opd_place_1 (by have g0 := lv_neT (a := 1) h1 rfl; have g1 := lv_neT (a := 2) h8 rfl; have g2 := lv_neT (a := 3) h9 rfl; have g3 := lv_neT (a := 4) h13 rfl; have g4 := lv_neT (a := 5) h14 rfl; have g5 := lv_neT (a := 6) h18 rfl; have g6 := lv_neT (a := 7) h19 rfl; have g7 := lv_neT (a := 8) h26 rfl; have g8 := lv_neT (a := 9) h27 rfl; have g9 := lv_neT (a := 10) h28 rfl; have g10 := lv_neT (a := 11) h29 rfl; have g11 := lv_neT (a := 12) h30 rfl; have g12 := lv_neT (a := 13) h31 rfl; have g13 := lv_neT (a := 14) h35 rfl; have g14 := lv_neT (a := 15) h36 rfl; have g15 := lv_neT (a := 16) h40 rfl; have g16 := lv_neT (a := 17) h41 rfl; have g17 := lv_neT (a := 18) h48 rfl; have g18 := lv_neT (a := 19) h55 rfl; have g19 := lv_neT (a := 20) h62 rfl; have g20 := lv_neT (a := 21) h63 rfl; have g21 := lv_neT (a := 22) h67 rfl; have g22 := lv_neT (a := 23) h68 rfl; have g23 := lv_neT (a := 24) h75 rfl; have g24 := lv_neT (a := 25) h76 rfl; have g25 := lv_neT (a := 26) h80 rfl; have g26 := lv_neT (a := 27) h81 rfl; have g27 := lv_neT (a := 28) h82 rfl; have g28 := lv_neT (a := 29) h83 rfl; have g29 := lv_neT (a := 30) h87 rfl; have g30 := lv_neT (a := 31) h88 rfl; omega) rfl ?_
                                                                refine lv_iconst (v := (0 : Int32)) hx hb d_Opd_place_380 (by decide) ?_
                                                                exact rt_vs X hr hk hP hS (by rw [f_Opd_place, if_neg h1, if_neg h8, if_neg h9, if_neg h13, if_neg h14, if_neg h18, if_neg h19, if_neg h26, if_neg h27, if_neg h28, if_neg h29, if_neg h30, if_neg h31, if_neg h35, if_neg h36, if_neg h40, if_neg h41, if_neg h48, if_neg h55, if_neg h62, if_neg h63, if_neg h67, if_neg h68, if_neg h75, if_neg h76, if_neg h80, if_neg h81, if_neg h82, if_neg h83, if_neg h87, if_neg h88]) d_Opd_place_381
set_option maxHeartbeats 4000000 in
set_option maxRecDepth 100000 in
theorem c_Opd_nextValue (l : Launch) (D : va_G) (cB cI : ClassId) (a : Nat → Nat) (bz : Nat) (ha : ap a 8) (S : Sc) (x1 : Int32) : MI l y_Opd_nextValue b_Opd_nextValue 2 (some .int) rm_Opd_nextValue [.ref (a 4), .int x1] D cB cI (wdC cB cI a) (ow a 8) bz S (f_Opd_nextValue S x1) := by
  refine met_in R_Opd (by decide) rfl (Nat.le_of_ble_eq_true rfl) (wdC_D ha cB cI) ?_
  intro p e s m below meth c ls X hr hk hl hP hS
  have hx := X.1.1
  have hb := X.1.2.1
  have hown := X.1.2.2.2.1
  have hts := X.1.2.2.2.2
  have hl : lv_has ls 2 [(0, .ref (a 4)), (1, .int x1)] := hl
  refine lv_iload_n hx hb d_Opd_nextValue_0 rfl (lv_at hl 1 rfl) ?_
  refine lv_if_eq (tgt := 11) hx hb d_Opd_nextValue_1 rfl (fun h1 => ?_) (fun h1 => ?_)
  ·
    refine lv_aload_n hx hb d_Opd_nextValue_11 rfl (lv_at hl 0 rfl) ?_
    refine kv_vs (rest := []) X hP hS (c_Opd_nextByte l D cB cI a bz ha S) (kw_Opd_nextByte hts q_358 ⟨Nat.le_of_ble_eq_true rfl, Nat.le_of_ble_eq_true rfl⟩) 4 rfl rfl rfl hl.1 rfl (lv_room (Nat.le_of_ble_eq_true rfl)) d_Opd_nextValue_12 (fun r2 S3 H locs e4 hP hS => ?_)
    exact rt_vs X hr hk hP hS (by rw [f_Opd_nextValue, if_pos h1, bn_eq e4]) d_Opd_nextValue_15
  ·
    refine lv_aload_n hx hb d_Opd_nextValue_4 rfl (lv_at hl 0 rfl) ?_
    refine kv_vs (rest := []) X hP hS (c_Opd_nextWord l D cB cI a bz ha S) (kw_Opd_nextWord hts q_360 ⟨Nat.le_of_ble_eq_true rfl, Nat.le_of_ble_eq_true rfl⟩) 4 rfl rfl rfl hl.1 rfl (lv_room (Nat.le_of_ble_eq_true rfl)) d_Opd_nextValue_5 (fun r5 S6 H locs e7 hP hS => ?_)
    refine lv_goto (tgt := 15) hx hb d_Opd_nextValue_8 rfl ?_
    exact rt_vs X hr hk hP hS (by rw [f_Opd_nextValue, if_neg h1, bn_eq e7]) d_Opd_nextValue_15
set_option maxHeartbeats 4000000 in
set_option maxRecDepth 100000 in
theorem c_Stk_pushValue (l : Launch) (D : va_G) (cB cI : ClassId) (a : Nat → Nat) (bz : Nat) (ha : ap a 8) (S : Sc) (x1 x2 : Int32) : MV l y_Stk_pushValue b_Stk_pushValue 3 rm_Stk_pushValue [.ref (a 5), .int x1, .int x2] D cB cI (wdC cB cI a) (ow a 8) bz S (f_Stk_pushValue S x1 x2) := by
  refine met_in R_Stk (by decide) rfl (Nat.le_of_ble_eq_true rfl) (wdC_D ha cB cI) ?_
  intro p e s m below meth c ls X hr hk hl hP hS
  have hx := X.1.1
  have hb := X.1.2.1
  have hown := X.1.2.2.2.1
  have hts := X.1.2.2.2.2
  have hl : lv_has ls 3 [(0, .ref (a 5)), (1, .int x1), (2, .int x2)] := hl
  refine lv_iload_n hx hb d_Stk_pushValue_0 rfl (lv_at hl 2 rfl) ?_
  refine lv_if_eq (tgt := 12) hx hb d_Stk_pushValue_1 rfl (fun h1 => ?_) (fun h1 => ?_)
  ·
    refine lv_aload_n hx hb d_Stk_pushValue_12 rfl (lv_at hl 0 rfl) ?_
    refine lv_iload_n hx hb d_Stk_pushValue_13 rfl (lv_at hl 1 rfl) ?_
    refine kv_s (rest := []) X hP hS (c_Stk_pushByte l D cB cI a bz ha S x1) (kw_Stk_pushByte hts q_304 ⟨Nat.le_of_ble_eq_true rfl, Nat.le_of_ble_eq_true rfl⟩) 5 rfl rfl rfl hl.1 rfl (lv_room (Nat.le_of_ble_eq_true rfl)) d_Stk_pushValue_14 (fun S2 H locs e3 hP hS => ?_)
    exact rt_s X hr hk hP hS (by rw [f_Stk_pushValue, if_pos h1, bs_eq e3]) d_Stk_pushValue_17
  ·
    refine lv_aload_n hx hb d_Stk_pushValue_4 rfl (lv_at hl 0 rfl) ?_
    refine lv_iload_n hx hb d_Stk_pushValue_5 rfl (lv_at hl 1 rfl) ?_
    refine lv_bipush (v := (8 : Int32)) hx hb d_Stk_pushValue_6 (by decide) ?_
    refine lv_ishr hx hb d_Stk_pushValue_8 ?_
    refine kv_s (rest := []) X hP hS (c_Stk_pushByte l D cB cI a bz ha S (x1 >>> ((8 : Int32) &&& 31))) (kw_Stk_pushByte hts q_304 ⟨Nat.le_of_ble_eq_true rfl, Nat.le_of_ble_eq_true rfl⟩) 5 rfl rfl rfl hl.1 rfl (lv_room (Nat.le_of_ble_eq_true rfl)) d_Stk_pushValue_9 (fun S4 H locs e5 hP hS => ?_)
    refine lv_aload_n hx hb d_Stk_pushValue_12 rfl (lv_at hl 0 rfl) ?_
    refine lv_iload_n hx hb d_Stk_pushValue_13 rfl (lv_at hl 1 rfl) ?_
    refine kv_s (rest := []) X hP hS (c_Stk_pushByte l D cB cI a bz ha S4 x1) (kw_Stk_pushByte hts q_304 ⟨Nat.le_of_ble_eq_true rfl, Nat.le_of_ble_eq_true rfl⟩) 5 rfl rfl rfl hl.1 rfl (lv_room (Nat.le_of_ble_eq_true rfl)) d_Stk_pushValue_14 (fun S6 H locs e7 hP hS => ?_)
    exact rt_s X hr hk hP hS (by rw [f_Stk_pushValue, if_neg h1, bs_eq e5, bs_eq e7]) d_Stk_pushValue_17
set_option maxHeartbeats 4000000 in
set_option maxRecDepth 100000 in
theorem c_Stk_pullByte (l : Launch) (D : va_G) (cB cI : ClassId) (a : Nat → Nat) (bz : Nat) (ha : ap a 8) (S : Sc) : MI l y_Stk_pullByte b_Stk_pullByte 1 (some .int) rm_Stk_pullByte [.ref (a 5)] D cB cI (wdC cB cI a) (ow a 8) bz S (f_Stk_pullByte S) := by
  refine met_in R_Stk (by decide) rfl (Nat.le_of_ble_eq_true rfl) (wdC_D ha cB cI) ?_
  intro p e s m below meth c ls X hr hk hl hP hS
  have hx := X.1.1
  have hb := X.1.2.1
  have hown := X.1.2.2.2.1
  have hts := X.1.2.2.2.2
  have hl : lv_has ls 1 [(0, .ref (a 5))] := hl
  refine lv_aload_n hx hb d_Stk_pullByte_0 rfl (lv_at hl 0 rfl) ?_
  refine gt_Stk X hP 1 (by decide) (v := .ref (a 2)) q_188 rfl d_Stk_pullByte_1 ?_
  refine lv_aload_n hx hb d_Stk_pullByte_4 rfl (lv_at hl 0 rfl) ?_
  refine gt_Stk X hP 1 (by decide) (v := .ref (a 2)) q_188 rfl d_Stk_pullByte_5 ?_
  refine gt_Reg X hP 3 (by decide) (v := .int (S.1 3)) q_120 rfl d_Stk_pullByte_8 ?_
  refine lv_iconst (v := (1 : Int32)) hx hb d_Stk_pullByte_11 (by decide) ?_
  refine lv_iadd hx hb d_Stk_pullByte_12 ?_
  refine lv_ldc (v := (65535 : Int32)) hx hb hown (hts _ q_299) d_Stk_pullByte_13 ?_
  refine lv_iand hx hb d_Stk_pullByte_15 ?_
  refine pt_Reg X hP hS 3 (by decide) (v := (((S.1 3) + (1 : Int32)) &&& (65535 : Int32))) (S1 := (pr S 3 ((((S.1 3) + (1 : Int32)) &&& (65535 : Int32))))) q_120 rfl rfl rfl rfl d_Stk_pullByte_16 (fun H locs hP hS => ?_)
  refine lv_aload_n hx hb d_Stk_pullByte_19 rfl (lv_at hl 0 rfl) ?_
  refine gt_Stk X hP 0 (by decide) (v := .ref (a 1)) q_187 rfl d_Stk_pullByte_20 ?_
  refine lv_aload_n hx hb d_Stk_pullByte_23 rfl (lv_at hl 0 rfl) ?_
  refine gt_Stk X hP 1 (by decide) (v := .ref (a 2)) q_188 rfl d_Stk_pullByte_24 ?_
  refine gt_Reg X hP 3 (by decide) (v := .int ((((S.1 3) + (1 : Int32)) &&& (65535 : Int32)))) q_120 rfl d_Stk_pullByte_27 ?_
  refine ks_v (rest := [.ref (a 1)]) X hP hS (c_Bus_bank0Place l D cB cI a bz ha (pr S 3 ((((S.1 3) + (1 : Int32)) &&& (65535 : Int32)))) (((S.1 3) + (1 : Int32)) &&& (65535 : Int32))) (kw_Bus_bank0Place hts q_287 ⟨Nat.le_of_ble_eq_true rfl, Nat.le_of_ble_eq_true rfl⟩) rfl hl.1 rfl (lv_room (Nat.le_of_ble_eq_true rfl)) d_Stk_pullByte_30 (fun H locs hP hS => ?_)
  refine kv_vs (rest := []) X hP hS (c_Bus_readByte l D cB cI a bz ha (pr S 3 ((((S.1 3) + (1 : Int32)) &&& (65535 : Int32)))) (f_Bus_bank0Place (((S.1 3) + (1 : Int32)) &&& (65535 : Int32)))) (kw_Bus_readByte hts q_490 ⟨Nat.le_of_ble_eq_true rfl, Nat.le_of_ble_eq_true rfl⟩) 1 rfl rfl rfl hl.1 rfl (lv_room (Nat.le_of_ble_eq_true rfl)) d_Stk_pullByte_33 (fun r1 S2 H locs e3 hP hS => ?_)
  exact rt_vs X hr hk hP hS (by rw [f_Stk_pullByte, bn_eq e3]) d_Stk_pullByte_36
set_option maxHeartbeats 4000000 in
set_option maxRecDepth 100000 in
theorem c_Stk_pullWord (l : Launch) (D : va_G) (cB cI : ClassId) (a : Nat → Nat) (bz : Nat) (ha : ap a 8) (S : Sc) : MI l y_Stk_pullWord b_Stk_pullWord 2 (some .int) rm_Stk_pullWord [.ref (a 5)] D cB cI (wdC cB cI a) (ow a 8) bz S (f_Stk_pullWord S) := by
  refine met_in R_Stk (by decide) rfl (Nat.le_of_ble_eq_true rfl) (wdC_D ha cB cI) ?_
  intro p e s m below meth c ls X hr hk hl hP hS
  have hx := X.1.1
  have hb := X.1.2.1
  have hown := X.1.2.2.2.1
  have hts := X.1.2.2.2.2
  have hl : lv_has ls 2 [(0, .ref (a 5))] := hl
  refine lv_aload_n hx hb d_Stk_pullWord_0 rfl (lv_at hl 0 rfl) ?_
  refine kv_vs (rest := []) X hP hS (c_Stk_pullByte l D cB cI a bz ha S) (kw_Stk_pullByte hts q_486 ⟨Nat.le_of_ble_eq_true rfl, Nat.le_of_ble_eq_true rfl⟩) 5 rfl rfl rfl hl.1 rfl (lv_room (Nat.le_of_ble_eq_true rfl)) d_Stk_pullWord_1 (fun r1 S2 H locs e3 hP hS => ?_)
  refine lv_istore_n hx hb d_Stk_pullWord_4 rfl hl (Nat.le_of_ble_eq_true rfl) rfl (fun ls hl => ?_)
  have hl : lv_has ls 2 [(1, .int (r1)), (0, .ref (a 5))] := hl
  refine lv_iload_n hx hb d_Stk_pullWord_5 rfl (lv_at hl 0 rfl) ?_
  refine lv_aload_n hx hb d_Stk_pullWord_6 rfl (lv_at hl 1 rfl) ?_
  refine kv_vs (rest := [.int (r1)]) X hP hS (c_Stk_pullByte l D cB cI a bz ha S2) (kw_Stk_pullByte hts q_486 ⟨Nat.le_of_ble_eq_true rfl, Nat.le_of_ble_eq_true rfl⟩) 5 rfl rfl rfl hl.1 rfl (lv_room (Nat.le_of_ble_eq_true rfl)) d_Stk_pullWord_7 (fun r4 S5 H locs e6 hP hS => ?_)
  refine lv_bipush (v := (8 : Int32)) hx hb d_Stk_pullWord_10 (by decide) ?_
  refine lv_ishl hx hb d_Stk_pullWord_12 ?_
  refine lv_ior hx hb d_Stk_pullWord_13 ?_
  exact rt_vs X hr hk hP hS (by rw [f_Stk_pullWord, bn_eq e3, bn_eq e6]) d_Stk_pullWord_14
set_option maxHeartbeats 4000000 in
set_option maxRecDepth 100000 in
theorem c_Stk_pullValue (l : Launch) (D : va_G) (cB cI : ClassId) (a : Nat → Nat) (bz : Nat) (ha : ap a 8) (S : Sc) (x1 : Int32) : MI l y_Stk_pullValue b_Stk_pullValue 2 (some .int) rm_Stk_pullValue [.ref (a 5), .int x1] D cB cI (wdC cB cI a) (ow a 8) bz S (f_Stk_pullValue S x1) := by
  refine met_in R_Stk (by decide) rfl (Nat.le_of_ble_eq_true rfl) (wdC_D ha cB cI) ?_
  intro p e s m below meth c ls X hr hk hl hP hS
  have hx := X.1.1
  have hb := X.1.2.1
  have hown := X.1.2.2.2.1
  have hts := X.1.2.2.2.2
  have hl : lv_has ls 2 [(0, .ref (a 5)), (1, .int x1)] := hl
  refine lv_iload_n hx hb d_Stk_pullValue_0 rfl (lv_at hl 1 rfl) ?_
  refine lv_if_eq (tgt := 11) hx hb d_Stk_pullValue_1 rfl (fun h1 => ?_) (fun h1 => ?_)
  ·
    refine lv_aload_n hx hb d_Stk_pullValue_11 rfl (lv_at hl 0 rfl) ?_
    refine kv_vs (rest := []) X hP hS (c_Stk_pullByte l D cB cI a bz ha S) (kw_Stk_pullByte hts q_486 ⟨Nat.le_of_ble_eq_true rfl, Nat.le_of_ble_eq_true rfl⟩) 5 rfl rfl rfl hl.1 rfl (lv_room (Nat.le_of_ble_eq_true rfl)) d_Stk_pullValue_12 (fun r2 S3 H locs e4 hP hS => ?_)
    exact rt_vs X hr hk hP hS (by rw [f_Stk_pullValue, if_pos h1, bn_eq e4]) d_Stk_pullValue_15
  ·
    refine lv_aload_n hx hb d_Stk_pullValue_4 rfl (lv_at hl 0 rfl) ?_
    refine kv_vs (rest := []) X hP hS (c_Stk_pullWord l D cB cI a bz ha S) (kw_Stk_pullWord hts q_482 ⟨Nat.le_of_ble_eq_true rfl, Nat.le_of_ble_eq_true rfl⟩) 5 rfl rfl rfl hl.1 rfl (lv_room (Nat.le_of_ble_eq_true rfl)) d_Stk_pullValue_5 (fun r5 S6 H locs e7 hP hS => ?_)
    refine lv_goto (tgt := 15) hx hb d_Stk_pullValue_8 rfl ?_
    exact rt_vs X hr hk hP hS (by rw [f_Stk_pullValue, if_neg h1, bn_eq e7]) d_Stk_pullValue_15
end

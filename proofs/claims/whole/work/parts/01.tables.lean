-- ===== PART A: goes FIRST, ahead of the names: the tables' words, and 'selects' of the private methods out of them =====
/-- a private method of a class that the tables say can be made, by its rows of tables_1 -/
def lw_okq (q : MethodName × Nat) : Prop := (q.1.cls ≠ "java/lang/invoke/MethodHandle" ∧ q.1.cls ≠ "java/lang/invoke/VarHandle") ∧ Cond.instantiable q.1.cls q.2 ∈ tables_1 ∧ Cond.privateMethod q.1 ∈ tables_1 ∧ Cond.instanceMethod q.1 ∈ tables_1
theorem lw_p0 : lw_okq (⟨"UseOnceMachine$Processor", "fetch", "()Z"⟩, 6) := ⟨⟨by decide +kernel, by decide +kernel⟩, List.mem_of_getElem? (i := 121) (by decide +kernel), List.mem_of_getElem? (i := 274) (by decide +kernel), List.mem_of_getElem? (i := 275) (by decide +kernel)⟩
theorem lw_p1 : lw_okq (⟨"UseOnceMachine$Processor", "isWellFormed", "()Z"⟩, 6) := ⟨⟨by decide +kernel, by decide +kernel⟩, List.mem_of_getElem? (i := 121) (by decide +kernel), List.mem_of_getElem? (i := 291) (by decide +kernel), List.mem_of_getElem? (i := 292) (by decide +kernel)⟩
theorem lw_p2 : lw_okq (⟨"UseOnceMachine$Processor", "perform", "()I"⟩, 6) := ⟨⟨by decide +kernel, by decide +kernel⟩, List.mem_of_getElem? (i := 121) (by decide +kernel), List.mem_of_getElem? (i := 300) (by decide +kernel), List.mem_of_getElem? (i := 301) (by decide +kernel)⟩
theorem lw_p3 : lw_okq (⟨"UseOnceMachine$Processor", "setNumber", "()I"⟩, 6) := ⟨⟨by decide +kernel, by decide +kernel⟩, List.mem_of_getElem? (i := 121) (by decide +kernel), List.mem_of_getElem? (i := 304) (by decide +kernel), List.mem_of_getElem? (i := 305) (by decide +kernel)⟩
theorem lw_p4 : lw_okq (⟨"UseOnceMachine$Processor", "isFull", "(I)Z"⟩, 6) := ⟨⟨by decide +kernel, by decide +kernel⟩, List.mem_of_getElem? (i := 121) (by decide +kernel), List.mem_of_getElem? (i := 308) (by decide +kernel), List.mem_of_getElem? (i := 309) (by decide +kernel)⟩
theorem lw_p5 : lw_okq (⟨"UseOnceMachine$Processor", "goOn", "()I"⟩, 6) := ⟨⟨by decide +kernel, by decide +kernel⟩, List.mem_of_getElem? (i := 121) (by decide +kernel), List.mem_of_getElem? (i := 327) (by decide +kernel), List.mem_of_getElem? (i := 328) (by decide +kernel)⟩
theorem lw_p6 : lw_okq (⟨"UseOnceMachine$Processor", "goOnAt", "(I)I"⟩, 6) := ⟨⟨by decide +kernel, by decide +kernel⟩, List.mem_of_getElem? (i := 121) (by decide +kernel), List.mem_of_getElem? (i := 331) (by decide +kernel), List.mem_of_getElem? (i := 332) (by decide +kernel)⟩
theorem lw_p7 : lw_okq (⟨"UseOnceMachine$Processor", "move", "()I"⟩, 6) := ⟨⟨by decide +kernel, by decide +kernel⟩, List.mem_of_getElem? (i := 121) (by decide +kernel), List.mem_of_getElem? (i := 335) (by decide +kernel), List.mem_of_getElem? (i := 336) (by decide +kernel)⟩
theorem lw_p8 : lw_okq (⟨"UseOnceMachine$Processor", "add", "(I)I"⟩, 6) := ⟨⟨by decide +kernel, by decide +kernel⟩, List.mem_of_getElem? (i := 121) (by decide +kernel), List.mem_of_getElem? (i := 360) (by decide +kernel), List.mem_of_getElem? (i := 361) (by decide +kernel)⟩
theorem lw_p9 : lw_okq (⟨"UseOnceMachine$Processor", "split", "()I"⟩, 6) := ⟨⟨by decide +kernel, by decide +kernel⟩, List.mem_of_getElem? (i := 121) (by decide +kernel), List.mem_of_getElem? (i := 364) (by decide +kernel), List.mem_of_getElem? (i := 365) (by decide +kernel)⟩
theorem lw_p10 : lw_okq (⟨"UseOnceMachine$Processor", "isExclusive", "(I)Z"⟩, 6) := ⟨⟨by decide +kernel, by decide +kernel⟩, List.mem_of_getElem? (i := 121) (by decide +kernel), List.mem_of_getElem? (i := 368) (by decide +kernel), List.mem_of_getElem? (i := 369) (by decide +kernel)⟩
theorem lw_p11 : lw_okq (⟨"UseOnceMachine$Processor", "merge", "()I"⟩, 6) := ⟨⟨by decide +kernel, by decide +kernel⟩, List.mem_of_getElem? (i := 121) (by decide +kernel), List.mem_of_getElem? (i := 388) (by decide +kernel), List.mem_of_getElem? (i := 389) (by decide +kernel)⟩
theorem lw_p12 : lw_okq (⟨"UseOnceMachine$Processor", "restrict", "()I"⟩, 6) := ⟨⟨by decide +kernel, by decide +kernel⟩, List.mem_of_getElem? (i := 121) (by decide +kernel), List.mem_of_getElem? (i := 402) (by decide +kernel), List.mem_of_getElem? (i := 403) (by decide +kernel)⟩
theorem lw_p13 : lw_okq (⟨"UseOnceMachine$Processor", "freeze", "()I"⟩, 6) := ⟨⟨by decide +kernel, by decide +kernel⟩, List.mem_of_getElem? (i := 121) (by decide +kernel), List.mem_of_getElem? (i := 406) (by decide +kernel), List.mem_of_getElem? (i := 407) (by decide +kernel)⟩
theorem lw_p14 : lw_okq (⟨"UseOnceMachine$Processor", "thaw", "()I"⟩, 6) := ⟨⟨by decide +kernel, by decide +kernel⟩, List.mem_of_getElem? (i := 121) (by decide +kernel), List.mem_of_getElem? (i := 418) (by decide +kernel), List.mem_of_getElem? (i := 419) (by decide +kernel)⟩
theorem lw_p15 : lw_okq (⟨"UseOnceMachine$Processor", "isShared", "(I)Z"⟩, 6) := ⟨⟨by decide +kernel, by decide +kernel⟩, List.mem_of_getElem? (i := 121) (by decide +kernel), List.mem_of_getElem? (i := 422) (by decide +kernel), List.mem_of_getElem? (i := 423) (by decide +kernel)⟩
def lw_privs_1 : List (MethodName × Nat) := [(⟨"UseOnceMachine$Processor", "fetch", "()Z"⟩, 6), (⟨"UseOnceMachine$Processor", "isWellFormed", "()Z"⟩, 6), (⟨"UseOnceMachine$Processor", "perform", "()I"⟩, 6), (⟨"UseOnceMachine$Processor", "setNumber", "()I"⟩, 6), (⟨"UseOnceMachine$Processor", "isFull", "(I)Z"⟩, 6), (⟨"UseOnceMachine$Processor", "goOn", "()I"⟩, 6), (⟨"UseOnceMachine$Processor", "goOnAt", "(I)I"⟩, 6), (⟨"UseOnceMachine$Processor", "move", "()I"⟩, 6), (⟨"UseOnceMachine$Processor", "add", "(I)I"⟩, 6), (⟨"UseOnceMachine$Processor", "split", "()I"⟩, 6), (⟨"UseOnceMachine$Processor", "isExclusive", "(I)Z"⟩, 6), (⟨"UseOnceMachine$Processor", "merge", "()I"⟩, 6), (⟨"UseOnceMachine$Processor", "restrict", "()I"⟩, 6), (⟨"UseOnceMachine$Processor", "freeze", "()I"⟩, 6), (⟨"UseOnceMachine$Processor", "thaw", "()I"⟩, 6), (⟨"UseOnceMachine$Processor", "isShared", "(I)Z"⟩, 6)]
theorem lw_r1 : ∀ q ∈ lw_privs_1, lw_okq q := List.forall_mem_cons.mpr ⟨lw_p0, List.forall_mem_cons.mpr ⟨lw_p1, List.forall_mem_cons.mpr ⟨lw_p2, List.forall_mem_cons.mpr ⟨lw_p3, List.forall_mem_cons.mpr ⟨lw_p4, List.forall_mem_cons.mpr ⟨lw_p5, List.forall_mem_cons.mpr ⟨lw_p6, List.forall_mem_cons.mpr ⟨lw_p7, List.forall_mem_cons.mpr ⟨lw_p8, List.forall_mem_cons.mpr ⟨lw_p9, List.forall_mem_cons.mpr ⟨lw_p10, List.forall_mem_cons.mpr ⟨lw_p11, List.forall_mem_cons.mpr ⟨lw_p12, List.forall_mem_cons.mpr ⟨lw_p13, List.forall_mem_cons.mpr ⟨lw_p14, List.forall_mem_cons.mpr ⟨lw_p15, fun _ h => absurd h List.not_mem_nil⟩⟩⟩⟩⟩⟩⟩⟩⟩⟩⟩⟩⟩⟩⟩⟩
theorem lw_p16 : lw_okq (⟨"UseOnceMachine$Processor", "drop", "()I"⟩, 6) := ⟨⟨by decide +kernel, by decide +kernel⟩, List.mem_of_getElem? (i := 121) (by decide +kernel), List.mem_of_getElem? (i := 431) (by decide +kernel), List.mem_of_getElem? (i := 432) (by decide +kernel)⟩
theorem lw_p17 : lw_okq (⟨"UseOnceMachine$Processor", "load", "()I"⟩, 6) := ⟨⟨by decide +kernel, by decide +kernel⟩, List.mem_of_getElem? (i := 121) (by decide +kernel), List.mem_of_getElem? (i := 435) (by decide +kernel), List.mem_of_getElem? (i := 436) (by decide +kernel)⟩
theorem lw_p18 : lw_okq (⟨"UseOnceMachine$Processor", "isInside", "(J)Z"⟩, 6) := ⟨⟨by decide +kernel, by decide +kernel⟩, List.mem_of_getElem? (i := 121) (by decide +kernel), List.mem_of_getElem? (i := 442) (by decide +kernel), List.mem_of_getElem? (i := 443) (by decide +kernel)⟩
theorem lw_p19 : lw_okq (⟨"UseOnceMachine$Processor", "store", "()I"⟩, 6) := ⟨⟨by decide +kernel, by decide +kernel⟩, List.mem_of_getElem? (i := 121) (by decide +kernel), List.mem_of_getElem? (i := 452) (by decide +kernel), List.mem_of_getElem? (i := 453) (by decide +kernel)⟩
theorem lw_p20 : lw_okq (⟨"UseOnceMachine$Processor", "jumpIfZero", "()I"⟩, 6) := ⟨⟨by decide +kernel, by decide +kernel⟩, List.mem_of_getElem? (i := 121) (by decide +kernel), List.mem_of_getElem? (i := 456) (by decide +kernel), List.mem_of_getElem? (i := 457) (by decide +kernel)⟩
theorem lw_p21 : lw_okq (⟨"UseOnceMachine$Processor", "jumpIfLess", "()I"⟩, 6) := ⟨⟨by decide +kernel, by decide +kernel⟩, List.mem_of_getElem? (i := 121) (by decide +kernel), List.mem_of_getElem? (i := 460) (by decide +kernel), List.mem_of_getElem? (i := 461) (by decide +kernel)⟩
theorem lw_p22 : lw_okq (⟨"UseOnceMachine$Processor", "seal", "()I"⟩, 6) := ⟨⟨by decide +kernel, by decide +kernel⟩, List.mem_of_getElem? (i := 121) (by decide +kernel), List.mem_of_getElem? (i := 464) (by decide +kernel), List.mem_of_getElem? (i := 465) (by decide +kernel)⟩
theorem lw_p23 : lw_okq (⟨"UseOnceMachine$Processor", "call", "()I"⟩, 6) := ⟨⟨by decide +kernel, by decide +kernel⟩, List.mem_of_getElem? (i := 121) (by decide +kernel), List.mem_of_getElem? (i := 479) (by decide +kernel), List.mem_of_getElem? (i := 480) (by decide +kernel)⟩
theorem lw_p24 : lw_okq (⟨"UseOnceMachine$State", "writeNotes", "(II)V"⟩, 15) := ⟨⟨by decide +kernel, by decide +kernel⟩, List.mem_of_getElem? (i := 37) (by decide +kernel), List.mem_of_getElem? (i := 492) (by decide +kernel), List.mem_of_getElem? (i := 493) (by decide +kernel)⟩
theorem lw_p25 : lw_okq (⟨"UseOnceMachine$Processor", "comeBack", "()I"⟩, 6) := ⟨⟨by decide +kernel, by decide +kernel⟩, List.mem_of_getElem? (i := 121) (by decide +kernel), List.mem_of_getElem? (i := 499) (by decide +kernel), List.mem_of_getElem? (i := 500) (by decide +kernel)⟩
theorem lw_p26 : lw_okq (⟨"UseOnceMachine$Processor", "halt", "()I"⟩, 6) := ⟨⟨by decide +kernel, by decide +kernel⟩, List.mem_of_getElem? (i := 121) (by decide +kernel), List.mem_of_getElem? (i := 512) (by decide +kernel), List.mem_of_getElem? (i := 513) (by decide +kernel)⟩
theorem lw_p27 : lw_okq (⟨"UseOnceMachine$Reach", "follow", "()V"⟩, 5) := ⟨⟨by decide +kernel, by decide +kernel⟩, List.mem_of_getElem? (i := 165) (by decide +kernel), List.mem_of_getElem? (i := 581) (by decide +kernel), List.mem_of_getElem? (i := 582) (by decide +kernel)⟩
theorem lw_p28 : lw_okq (⟨"UseOnceMachine$Reach", "mark", "(J)V"⟩, 5) := ⟨⟨by decide +kernel, by decide +kernel⟩, List.mem_of_getElem? (i := 165) (by decide +kernel), List.mem_of_getElem? (i := 586) (by decide +kernel), List.mem_of_getElem? (i := 587) (by decide +kernel)⟩
theorem lw_p29 : lw_okq (⟨"UseOnceMachine$Owners", "tallyAll", "()V"⟩, 4) := ⟨⟨by decide +kernel, by decide +kernel⟩, List.mem_of_getElem? (i := 146) (by decide +kernel), List.mem_of_getElem? (i := 610) (by decide +kernel), List.mem_of_getElem? (i := 611) (by decide +kernel)⟩
theorem lw_p30 : lw_okq (⟨"UseOnceMachine$Owners", "tallyExclusive", "(J)V"⟩, 4) := ⟨⟨by decide +kernel, by decide +kernel⟩, List.mem_of_getElem? (i := 146) (by decide +kernel), List.mem_of_getElem? (i := 615) (by decide +kernel), List.mem_of_getElem? (i := 616) (by decide +kernel)⟩
theorem lw_p31 : lw_okq (⟨"UseOnceMachine$Owners", "tallyShared", "(J)V"⟩, 4) := ⟨⟨by decide +kernel, by decide +kernel⟩, List.mem_of_getElem? (i := 146) (by decide +kernel), List.mem_of_getElem? (i := 622) (by decide +kernel), List.mem_of_getElem? (i := 623) (by decide +kernel)⟩
def lw_privs_2 : List (MethodName × Nat) := [(⟨"UseOnceMachine$Processor", "drop", "()I"⟩, 6), (⟨"UseOnceMachine$Processor", "load", "()I"⟩, 6), (⟨"UseOnceMachine$Processor", "isInside", "(J)Z"⟩, 6), (⟨"UseOnceMachine$Processor", "store", "()I"⟩, 6), (⟨"UseOnceMachine$Processor", "jumpIfZero", "()I"⟩, 6), (⟨"UseOnceMachine$Processor", "jumpIfLess", "()I"⟩, 6), (⟨"UseOnceMachine$Processor", "seal", "()I"⟩, 6), (⟨"UseOnceMachine$Processor", "call", "()I"⟩, 6), (⟨"UseOnceMachine$State", "writeNotes", "(II)V"⟩, 15), (⟨"UseOnceMachine$Processor", "comeBack", "()I"⟩, 6), (⟨"UseOnceMachine$Processor", "halt", "()I"⟩, 6), (⟨"UseOnceMachine$Reach", "follow", "()V"⟩, 5), (⟨"UseOnceMachine$Reach", "mark", "(J)V"⟩, 5), (⟨"UseOnceMachine$Owners", "tallyAll", "()V"⟩, 4), (⟨"UseOnceMachine$Owners", "tallyExclusive", "(J)V"⟩, 4), (⟨"UseOnceMachine$Owners", "tallyShared", "(J)V"⟩, 4)]
theorem lw_r2 : ∀ q ∈ lw_privs_2, lw_okq q := List.forall_mem_cons.mpr ⟨lw_p16, List.forall_mem_cons.mpr ⟨lw_p17, List.forall_mem_cons.mpr ⟨lw_p18, List.forall_mem_cons.mpr ⟨lw_p19, List.forall_mem_cons.mpr ⟨lw_p20, List.forall_mem_cons.mpr ⟨lw_p21, List.forall_mem_cons.mpr ⟨lw_p22, List.forall_mem_cons.mpr ⟨lw_p23, List.forall_mem_cons.mpr ⟨lw_p24, List.forall_mem_cons.mpr ⟨lw_p25, List.forall_mem_cons.mpr ⟨lw_p26, List.forall_mem_cons.mpr ⟨lw_p27, List.forall_mem_cons.mpr ⟨lw_p28, List.forall_mem_cons.mpr ⟨lw_p29, List.forall_mem_cons.mpr ⟨lw_p30, List.forall_mem_cons.mpr ⟨lw_p31, fun _ h => absurd h List.not_mem_nil⟩⟩⟩⟩⟩⟩⟩⟩⟩⟩⟩⟩⟩⟩⟩⟩
theorem lw_p32 : lw_okq (⟨"UseOnceMachine$Owners", "hasOneOwnerEach", "(I)Z"⟩, 4) := ⟨⟨by decide +kernel, by decide +kernel⟩, List.mem_of_getElem? (i := 146) (by decide +kernel), List.mem_of_getElem? (i := 626) (by decide +kernel), List.mem_of_getElem? (i := 627) (by decide +kernel)⟩
theorem lw_p33 : lw_okq (⟨"UseOnceMachineModel", "begin", "()V"⟩, 20) := ⟨⟨by decide +kernel, by decide +kernel⟩, List.mem_of_getElem? (i := 637) (by decide +kernel), List.mem_of_getElem? (i := 715) (by decide +kernel), List.mem_of_getElem? (i := 716) (by decide +kernel)⟩
theorem lw_p34 : lw_okq (⟨"UseOnceMachineModel", "clear", "(I)V"⟩, 20) := ⟨⟨by decide +kernel, by decide +kernel⟩, List.mem_of_getElem? (i := 637) (by decide +kernel), List.mem_of_getElem? (i := 719) (by decide +kernel), List.mem_of_getElem? (i := 720) (by decide +kernel)⟩
theorem lw_p35 : lw_okq (⟨"UseOnceMachineModel", "put", "(IIIIII)V"⟩, 20) := ⟨⟨by decide +kernel, by decide +kernel⟩, List.mem_of_getElem? (i := 637) (by decide +kernel), List.mem_of_getElem? (i := 723) (by decide +kernel), List.mem_of_getElem? (i := 724) (by decide +kernel)⟩
theorem lw_p36 : lw_okq (⟨"UseOnceMachineModel", "order", "()V"⟩, 20) := ⟨⟨by decide +kernel, by decide +kernel⟩, List.mem_of_getElem? (i := 637) (by decide +kernel), List.mem_of_getElem? (i := 731) (by decide +kernel), List.mem_of_getElem? (i := 732) (by decide +kernel)⟩
theorem lw_p37 : lw_okq (⟨"UseOnceMachineModel", "simple", "(III)I"⟩, 20) := ⟨⟨by decide +kernel, by decide +kernel⟩, List.mem_of_getElem? (i := 637) (by decide +kernel), List.mem_of_getElem? (i := 735) (by decide +kernel), List.mem_of_getElem? (i := 736) (by decide +kernel)⟩
theorem lw_p38 : lw_okq (⟨"UseOnceMachineModel", "isNumber", "(I)Z"⟩, 20) := ⟨⟨by decide +kernel, by decide +kernel⟩, List.mem_of_getElem? (i := 637) (by decide +kernel), List.mem_of_getElem? (i := 739) (by decide +kernel), List.mem_of_getElem? (i := 740) (by decide +kernel)⟩
theorem lw_p39 : lw_okq (⟨"UseOnceMachineModel", "what", "(I)I"⟩, 20) := ⟨⟨by decide +kernel, by decide +kernel⟩, List.mem_of_getElem? (i := 637) (by decide +kernel), List.mem_of_getElem? (i := 743) (by decide +kernel), List.mem_of_getElem? (i := 744) (by decide +kernel)⟩
theorem lw_p40 : lw_okq (⟨"UseOnceMachineModel", "assign", "(II)V"⟩, 20) := ⟨⟨by decide +kernel, by decide +kernel⟩, List.mem_of_getElem? (i := 637) (by decide +kernel), List.mem_of_getElem? (i := 747) (by decide +kernel), List.mem_of_getElem? (i := 748) (by decide +kernel)⟩
theorem lw_p41 : lw_okq (⟨"UseOnceMachineModel", "shift", "(II)V"⟩, 20) := ⟨⟨by decide +kernel, by decide +kernel⟩, List.mem_of_getElem? (i := 637) (by decide +kernel), List.mem_of_getElem? (i := 751) (by decide +kernel), List.mem_of_getElem? (i := 752) (by decide +kernel)⟩
theorem lw_p42 : lw_okq (⟨"UseOnceMachineModel", "get", "(II)I"⟩, 20) := ⟨⟨by decide +kernel, by decide +kernel⟩, List.mem_of_getElem? (i := 637) (by decide +kernel), List.mem_of_getElem? (i := 755) (by decide +kernel), List.mem_of_getElem? (i := 756) (by decide +kernel)⟩
theorem lw_p43 : lw_okq (⟨"UseOnceMachineModel", "ranges", "(IIII)I"⟩, 20) := ⟨⟨by decide +kernel, by decide +kernel⟩, List.mem_of_getElem? (i := 637) (by decide +kernel), List.mem_of_getElem? (i := 759) (by decide +kernel), List.mem_of_getElem? (i := 760) (by decide +kernel)⟩
theorem lw_p44 : lw_okq (⟨"UseOnceMachineModel", "merge", "(II)I"⟩, 20) := ⟨⟨by decide +kernel, by decide +kernel⟩, List.mem_of_getElem? (i := 637) (by decide +kernel), List.mem_of_getElem? (i := 763) (by decide +kernel), List.mem_of_getElem? (i := 764) (by decide +kernel)⟩
theorem lw_p45 : lw_okq (⟨"UseOnceMachineModel", "cells", "(II)I"⟩, 20) := ⟨⟨by decide +kernel, by decide +kernel⟩, List.mem_of_getElem? (i := 637) (by decide +kernel), List.mem_of_getElem? (i := 767) (by decide +kernel), List.mem_of_getElem? (i := 768) (by decide +kernel)⟩
theorem lw_p46 : lw_okq (⟨"UseOnceMachineModel", "lowestCell", "()I"⟩, 20) := ⟨⟨by decide +kernel, by decide +kernel⟩, List.mem_of_getElem? (i := 637) (by decide +kernel), List.mem_of_getElem? (i := 771) (by decide +kernel), List.mem_of_getElem? (i := 772) (by decide +kernel)⟩
theorem lw_p47 : lw_okq (⟨"UseOnceMachineModel", "memory", "(IIII)I"⟩, 20) := ⟨⟨by decide +kernel, by decide +kernel⟩, List.mem_of_getElem? (i := 637) (by decide +kernel), List.mem_of_getElem? (i := 775) (by decide +kernel), List.mem_of_getElem? (i := 776) (by decide +kernel)⟩
def lw_privs_3 : List (MethodName × Nat) := [(⟨"UseOnceMachine$Owners", "hasOneOwnerEach", "(I)Z"⟩, 4), (⟨"UseOnceMachineModel", "begin", "()V"⟩, 20), (⟨"UseOnceMachineModel", "clear", "(I)V"⟩, 20), (⟨"UseOnceMachineModel", "put", "(IIIIII)V"⟩, 20), (⟨"UseOnceMachineModel", "order", "()V"⟩, 20), (⟨"UseOnceMachineModel", "simple", "(III)I"⟩, 20), (⟨"UseOnceMachineModel", "isNumber", "(I)Z"⟩, 20), (⟨"UseOnceMachineModel", "what", "(I)I"⟩, 20), (⟨"UseOnceMachineModel", "assign", "(II)V"⟩, 20), (⟨"UseOnceMachineModel", "shift", "(II)V"⟩, 20), (⟨"UseOnceMachineModel", "get", "(II)I"⟩, 20), (⟨"UseOnceMachineModel", "ranges", "(IIII)I"⟩, 20), (⟨"UseOnceMachineModel", "merge", "(II)I"⟩, 20), (⟨"UseOnceMachineModel", "cells", "(II)I"⟩, 20), (⟨"UseOnceMachineModel", "lowestCell", "()I"⟩, 20), (⟨"UseOnceMachineModel", "memory", "(IIII)I"⟩, 20)]
theorem lw_r3 : ∀ q ∈ lw_privs_3, lw_okq q := List.forall_mem_cons.mpr ⟨lw_p32, List.forall_mem_cons.mpr ⟨lw_p33, List.forall_mem_cons.mpr ⟨lw_p34, List.forall_mem_cons.mpr ⟨lw_p35, List.forall_mem_cons.mpr ⟨lw_p36, List.forall_mem_cons.mpr ⟨lw_p37, List.forall_mem_cons.mpr ⟨lw_p38, List.forall_mem_cons.mpr ⟨lw_p39, List.forall_mem_cons.mpr ⟨lw_p40, List.forall_mem_cons.mpr ⟨lw_p41, List.forall_mem_cons.mpr ⟨lw_p42, List.forall_mem_cons.mpr ⟨lw_p43, List.forall_mem_cons.mpr ⟨lw_p44, List.forall_mem_cons.mpr ⟨lw_p45, List.forall_mem_cons.mpr ⟨lw_p46, List.forall_mem_cons.mpr ⟨lw_p47, fun _ h => absurd h List.not_mem_nil⟩⟩⟩⟩⟩⟩⟩⟩⟩⟩⟩⟩⟩⟩⟩⟩
theorem lw_p48 : lw_okq (⟨"UseOnceMachineModel", "length", "(I)I"⟩, 20) := ⟨⟨by decide +kernel, by decide +kernel⟩, List.mem_of_getElem? (i := 637) (by decide +kernel), List.mem_of_getElem? (i := 779) (by decide +kernel), List.mem_of_getElem? (i := 780) (by decide +kernel)⟩
theorem lw_p49 : lw_okq (⟨"UseOnceMachineModel", "has", "(II)Z"⟩, 20) := ⟨⟨by decide +kernel, by decide +kernel⟩, List.mem_of_getElem? (i := 637) (by decide +kernel), List.mem_of_getElem? (i := 783) (by decide +kernel), List.mem_of_getElem? (i := 784) (by decide +kernel)⟩
theorem lw_p50 : lw_okq (⟨"UseOnceMachineModel", "jumps", "(IIII)I"⟩, 20) := ⟨⟨by decide +kernel, by decide +kernel⟩, List.mem_of_getElem? (i := 637) (by decide +kernel), List.mem_of_getElem? (i := 787) (by decide +kernel), List.mem_of_getElem? (i := 788) (by decide +kernel)⟩
theorem lw_p51 : lw_okq (⟨"UseOnceMachineModel", "seal", "(III)I"⟩, 20) := ⟨⟨by decide +kernel, by decide +kernel⟩, List.mem_of_getElem? (i := 637) (by decide +kernel), List.mem_of_getElem? (i := 791) (by decide +kernel), List.mem_of_getElem? (i := 792) (by decide +kernel)⟩
theorem lw_p52 : lw_okq (⟨"UseOnceMachineModel", "lowestGate", "()I"⟩, 20) := ⟨⟨by decide +kernel, by decide +kernel⟩, List.mem_of_getElem? (i := 637) (by decide +kernel), List.mem_of_getElem? (i := 795) (by decide +kernel), List.mem_of_getElem? (i := 796) (by decide +kernel)⟩
theorem lw_p53 : lw_okq (⟨"UseOnceMachineModel", "call", "(II)I"⟩, 20) := ⟨⟨by decide +kernel, by decide +kernel⟩, List.mem_of_getElem? (i := 637) (by decide +kernel), List.mem_of_getElem? (i := 799) (by decide +kernel), List.mem_of_getElem? (i := 800) (by decide +kernel)⟩
theorem lw_p54 : lw_okq (⟨"UseOnceMachineModel", "noteDown", "(III)V"⟩, 20) := ⟨⟨by decide +kernel, by decide +kernel⟩, List.mem_of_getElem? (i := 637) (by decide +kernel), List.mem_of_getElem? (i := 803) (by decide +kernel), List.mem_of_getElem? (i := 804) (by decide +kernel)⟩
theorem lw_p55 : lw_okq (⟨"UseOnceMachineModel", "comeBack", "()I"⟩, 20) := ⟨⟨by decide +kernel, by decide +kernel⟩, List.mem_of_getElem? (i := 637) (by decide +kernel), List.mem_of_getElem? (i := 807) (by decide +kernel), List.mem_of_getElem? (i := 808) (by decide +kernel)⟩
theorem lw_p56 : lw_okq (⟨"UseOnceMachineModel", "isAsNoted", "(III)Z"⟩, 20) := ⟨⟨by decide +kernel, by decide +kernel⟩, List.mem_of_getElem? (i := 637) (by decide +kernel), List.mem_of_getElem? (i := 811) (by decide +kernel), List.mem_of_getElem? (i := 812) (by decide +kernel)⟩
theorem lw_p57 : lw_okq (⟨"UseOnceMachineModel", "isLent", "(III)Z"⟩, 20) := ⟨⟨by decide +kernel, by decide +kernel⟩, List.mem_of_getElem? (i := 637) (by decide +kernel), List.mem_of_getElem? (i := 815) (by decide +kernel), List.mem_of_getElem? (i := 816) (by decide +kernel)⟩
theorem lw_p58 : lw_okq (⟨"UseOnceMachineModel", "shown", "(II)I"⟩, 20) := ⟨⟨by decide +kernel, by decide +kernel⟩, List.mem_of_getElem? (i := 637) (by decide +kernel), List.mem_of_getElem? (i := 827) (by decide +kernel), List.mem_of_getElem? (i := 828) (by decide +kernel)⟩
theorem lw_p59 : lw_okq (⟨"UseOnceMachineModel", "owns", "(III)Z"⟩, 20) := ⟨⟨by decide +kernel, by decide +kernel⟩, List.mem_of_getElem? (i := 637) (by decide +kernel), List.mem_of_getElem? (i := 843) (by decide +kernel), List.mem_of_getElem? (i := 844) (by decide +kernel)⟩
theorem lw_p60 : lw_okq (⟨"UseOnceMachineModel", "cellOwns", "(III)Z"⟩, 20) := ⟨⟨by decide +kernel, by decide +kernel⟩, List.mem_of_getElem? (i := 637) (by decide +kernel), List.mem_of_getElem? (i := 847) (by decide +kernel), List.mem_of_getElem? (i := 848) (by decide +kernel)⟩
theorem lw_p61 : lw_okq (⟨"UseOnceMachineModel", "spread", "()I"⟩, 20) := ⟨⟨by decide +kernel, by decide +kernel⟩, List.mem_of_getElem? (i := 637) (by decide +kernel), List.mem_of_getElem? (i := 863) (by decide +kernel), List.mem_of_getElem? (i := 864) (by decide +kernel)⟩
def lw_privs_4 : List (MethodName × Nat) := [(⟨"UseOnceMachineModel", "length", "(I)I"⟩, 20), (⟨"UseOnceMachineModel", "has", "(II)Z"⟩, 20), (⟨"UseOnceMachineModel", "jumps", "(IIII)I"⟩, 20), (⟨"UseOnceMachineModel", "seal", "(III)I"⟩, 20), (⟨"UseOnceMachineModel", "lowestGate", "()I"⟩, 20), (⟨"UseOnceMachineModel", "call", "(II)I"⟩, 20), (⟨"UseOnceMachineModel", "noteDown", "(III)V"⟩, 20), (⟨"UseOnceMachineModel", "comeBack", "()I"⟩, 20), (⟨"UseOnceMachineModel", "isAsNoted", "(III)Z"⟩, 20), (⟨"UseOnceMachineModel", "isLent", "(III)Z"⟩, 20), (⟨"UseOnceMachineModel", "shown", "(II)I"⟩, 20), (⟨"UseOnceMachineModel", "owns", "(III)Z"⟩, 20), (⟨"UseOnceMachineModel", "cellOwns", "(III)Z"⟩, 20), (⟨"UseOnceMachineModel", "spread", "()I"⟩, 20)]
theorem lw_r4 : ∀ q ∈ lw_privs_4, lw_okq q := List.forall_mem_cons.mpr ⟨lw_p48, List.forall_mem_cons.mpr ⟨lw_p49, List.forall_mem_cons.mpr ⟨lw_p50, List.forall_mem_cons.mpr ⟨lw_p51, List.forall_mem_cons.mpr ⟨lw_p52, List.forall_mem_cons.mpr ⟨lw_p53, List.forall_mem_cons.mpr ⟨lw_p54, List.forall_mem_cons.mpr ⟨lw_p55, List.forall_mem_cons.mpr ⟨lw_p56, List.forall_mem_cons.mpr ⟨lw_p57, List.forall_mem_cons.mpr ⟨lw_p58, List.forall_mem_cons.mpr ⟨lw_p59, List.forall_mem_cons.mpr ⟨lw_p60, List.forall_mem_cons.mpr ⟨lw_p61, fun _ h => absurd h List.not_mem_nil⟩⟩⟩⟩⟩⟩⟩⟩⟩⟩⟩⟩⟩⟩
def lw_privs : List (MethodName × Nat) := lw_privs_1 ++ (lw_privs_2 ++ (lw_privs_3 ++ (lw_privs_4)))
def lw_tbl : List Cond := k2_sels lw_privs ++ tables_1
theorem lw_privs_ok : ∀ q ∈ lw_privs, lw_okq q := by
  show ∀ q ∈ lw_privs_1 ++ (lw_privs_2 ++ (lw_privs_3 ++ (lw_privs_4))), lw_okq q
  exact List.forall_mem_append.mpr ⟨lw_r1, List.forall_mem_append.mpr ⟨lw_r2, List.forall_mem_append.mpr ⟨lw_r3, lw_r4⟩⟩⟩
/-! written by gen_tables.py out of the claim: the good words, the classes, the methods -/
def Tb : List Cond := lw_tbl.filter goodWord
theorem tb_good : ∀ w ∈ Tb, (w.onTables && w.keeps) = true ∨ ∃ ty, w = .arrayClass ty := fun w hw => good_of_word (List.mem_filter.mp hw).2
theorem tbi (i : Nat) {w : Cond} (h : lw_tbl[i]? = some w) (g : goodWord w = true) : w ∈ Tb := List.mem_filter.mpr ⟨List.mem_of_getElem? h, g⟩
theorem w_0 : Cond.selects "UseOnceMachine$Processor" ⟨"UseOnceMachine$Processor", "fetch", "()Z"⟩ ⟨"UseOnceMachine$Processor", "fetch", "()Z"⟩ ∈ Tb := tbi 0 rfl rfl
theorem w_1 : Cond.selects "UseOnceMachine$Processor" ⟨"UseOnceMachine$Processor", "isWellFormed", "()Z"⟩ ⟨"UseOnceMachine$Processor", "isWellFormed", "()Z"⟩ ∈ Tb := tbi 1 rfl rfl
theorem w_2 : Cond.selects "UseOnceMachine$Processor" ⟨"UseOnceMachine$Processor", "perform", "()I"⟩ ⟨"UseOnceMachine$Processor", "perform", "()I"⟩ ∈ Tb := tbi 2 rfl rfl
theorem w_3 : Cond.selects "UseOnceMachine$Processor" ⟨"UseOnceMachine$Processor", "setNumber", "()I"⟩ ⟨"UseOnceMachine$Processor", "setNumber", "()I"⟩ ∈ Tb := tbi 3 rfl rfl
theorem w_4 : Cond.selects "UseOnceMachine$Processor" ⟨"UseOnceMachine$Processor", "isFull", "(I)Z"⟩ ⟨"UseOnceMachine$Processor", "isFull", "(I)Z"⟩ ∈ Tb := tbi 4 rfl rfl
theorem w_5 : Cond.selects "UseOnceMachine$Processor" ⟨"UseOnceMachine$Processor", "goOn", "()I"⟩ ⟨"UseOnceMachine$Processor", "goOn", "()I"⟩ ∈ Tb := tbi 5 rfl rfl
theorem w_6 : Cond.selects "UseOnceMachine$Processor" ⟨"UseOnceMachine$Processor", "goOnAt", "(I)I"⟩ ⟨"UseOnceMachine$Processor", "goOnAt", "(I)I"⟩ ∈ Tb := tbi 6 rfl rfl
theorem w_7 : Cond.selects "UseOnceMachine$Processor" ⟨"UseOnceMachine$Processor", "move", "()I"⟩ ⟨"UseOnceMachine$Processor", "move", "()I"⟩ ∈ Tb := tbi 7 rfl rfl
theorem w_8 : Cond.selects "UseOnceMachine$Processor" ⟨"UseOnceMachine$Processor", "add", "(I)I"⟩ ⟨"UseOnceMachine$Processor", "add", "(I)I"⟩ ∈ Tb := tbi 8 rfl rfl
theorem w_9 : Cond.selects "UseOnceMachine$Processor" ⟨"UseOnceMachine$Processor", "split", "()I"⟩ ⟨"UseOnceMachine$Processor", "split", "()I"⟩ ∈ Tb := tbi 9 rfl rfl
theorem w_10 : Cond.selects "UseOnceMachine$Processor" ⟨"UseOnceMachine$Processor", "isExclusive", "(I)Z"⟩ ⟨"UseOnceMachine$Processor", "isExclusive", "(I)Z"⟩ ∈ Tb := tbi 10 rfl rfl
theorem w_11 : Cond.selects "UseOnceMachine$Processor" ⟨"UseOnceMachine$Processor", "merge", "()I"⟩ ⟨"UseOnceMachine$Processor", "merge", "()I"⟩ ∈ Tb := tbi 11 rfl rfl
theorem w_12 : Cond.selects "UseOnceMachine$Processor" ⟨"UseOnceMachine$Processor", "restrict", "()I"⟩ ⟨"UseOnceMachine$Processor", "restrict", "()I"⟩ ∈ Tb := tbi 12 rfl rfl
theorem w_13 : Cond.selects "UseOnceMachine$Processor" ⟨"UseOnceMachine$Processor", "freeze", "()I"⟩ ⟨"UseOnceMachine$Processor", "freeze", "()I"⟩ ∈ Tb := tbi 13 rfl rfl
theorem w_14 : Cond.selects "UseOnceMachine$Processor" ⟨"UseOnceMachine$Processor", "thaw", "()I"⟩ ⟨"UseOnceMachine$Processor", "thaw", "()I"⟩ ∈ Tb := tbi 14 rfl rfl
theorem w_15 : Cond.selects "UseOnceMachine$Processor" ⟨"UseOnceMachine$Processor", "isShared", "(I)Z"⟩ ⟨"UseOnceMachine$Processor", "isShared", "(I)Z"⟩ ∈ Tb := tbi 15 rfl rfl
theorem w_16 : Cond.selects "UseOnceMachine$Processor" ⟨"UseOnceMachine$Processor", "drop", "()I"⟩ ⟨"UseOnceMachine$Processor", "drop", "()I"⟩ ∈ Tb := tbi 16 rfl rfl
theorem w_17 : Cond.selects "UseOnceMachine$Processor" ⟨"UseOnceMachine$Processor", "load", "()I"⟩ ⟨"UseOnceMachine$Processor", "load", "()I"⟩ ∈ Tb := tbi 17 rfl rfl
theorem w_18 : Cond.selects "UseOnceMachine$Processor" ⟨"UseOnceMachine$Processor", "isInside", "(J)Z"⟩ ⟨"UseOnceMachine$Processor", "isInside", "(J)Z"⟩ ∈ Tb := tbi 18 rfl rfl
theorem w_19 : Cond.selects "UseOnceMachine$Processor" ⟨"UseOnceMachine$Processor", "store", "()I"⟩ ⟨"UseOnceMachine$Processor", "store", "()I"⟩ ∈ Tb := tbi 19 rfl rfl
theorem w_20 : Cond.selects "UseOnceMachine$Processor" ⟨"UseOnceMachine$Processor", "jumpIfZero", "()I"⟩ ⟨"UseOnceMachine$Processor", "jumpIfZero", "()I"⟩ ∈ Tb := tbi 20 rfl rfl
theorem w_21 : Cond.selects "UseOnceMachine$Processor" ⟨"UseOnceMachine$Processor", "jumpIfLess", "()I"⟩ ⟨"UseOnceMachine$Processor", "jumpIfLess", "()I"⟩ ∈ Tb := tbi 21 rfl rfl
theorem w_22 : Cond.selects "UseOnceMachine$Processor" ⟨"UseOnceMachine$Processor", "seal", "()I"⟩ ⟨"UseOnceMachine$Processor", "seal", "()I"⟩ ∈ Tb := tbi 22 rfl rfl
theorem w_23 : Cond.selects "UseOnceMachine$Processor" ⟨"UseOnceMachine$Processor", "call", "()I"⟩ ⟨"UseOnceMachine$Processor", "call", "()I"⟩ ∈ Tb := tbi 23 rfl rfl
theorem w_24 : Cond.selects "UseOnceMachine$State" ⟨"UseOnceMachine$State", "writeNotes", "(II)V"⟩ ⟨"UseOnceMachine$State", "writeNotes", "(II)V"⟩ ∈ Tb := tbi 24 rfl rfl
theorem w_25 : Cond.selects "UseOnceMachine$Processor" ⟨"UseOnceMachine$Processor", "comeBack", "()I"⟩ ⟨"UseOnceMachine$Processor", "comeBack", "()I"⟩ ∈ Tb := tbi 25 rfl rfl
theorem w_26 : Cond.selects "UseOnceMachine$Processor" ⟨"UseOnceMachine$Processor", "halt", "()I"⟩ ⟨"UseOnceMachine$Processor", "halt", "()I"⟩ ∈ Tb := tbi 26 rfl rfl
theorem w_27 : Cond.selects "UseOnceMachine$Reach" ⟨"UseOnceMachine$Reach", "follow", "()V"⟩ ⟨"UseOnceMachine$Reach", "follow", "()V"⟩ ∈ Tb := tbi 27 rfl rfl
theorem w_28 : Cond.selects "UseOnceMachine$Reach" ⟨"UseOnceMachine$Reach", "mark", "(J)V"⟩ ⟨"UseOnceMachine$Reach", "mark", "(J)V"⟩ ∈ Tb := tbi 28 rfl rfl
theorem w_29 : Cond.selects "UseOnceMachine$Owners" ⟨"UseOnceMachine$Owners", "tallyAll", "()V"⟩ ⟨"UseOnceMachine$Owners", "tallyAll", "()V"⟩ ∈ Tb := tbi 29 rfl rfl
theorem w_30 : Cond.selects "UseOnceMachine$Owners" ⟨"UseOnceMachine$Owners", "tallyExclusive", "(J)V"⟩ ⟨"UseOnceMachine$Owners", "tallyExclusive", "(J)V"⟩ ∈ Tb := tbi 30 rfl rfl
theorem w_31 : Cond.selects "UseOnceMachine$Owners" ⟨"UseOnceMachine$Owners", "tallyShared", "(J)V"⟩ ⟨"UseOnceMachine$Owners", "tallyShared", "(J)V"⟩ ∈ Tb := tbi 31 rfl rfl
theorem w_32 : Cond.selects "UseOnceMachine$Owners" ⟨"UseOnceMachine$Owners", "hasOneOwnerEach", "(I)Z"⟩ ⟨"UseOnceMachine$Owners", "hasOneOwnerEach", "(I)Z"⟩ ∈ Tb := tbi 32 rfl rfl
theorem w_33 : Cond.selects "UseOnceMachineModel" ⟨"UseOnceMachineModel", "begin", "()V"⟩ ⟨"UseOnceMachineModel", "begin", "()V"⟩ ∈ Tb := tbi 33 rfl rfl
theorem w_34 : Cond.selects "UseOnceMachineModel" ⟨"UseOnceMachineModel", "clear", "(I)V"⟩ ⟨"UseOnceMachineModel", "clear", "(I)V"⟩ ∈ Tb := tbi 34 rfl rfl
theorem w_35 : Cond.selects "UseOnceMachineModel" ⟨"UseOnceMachineModel", "put", "(IIIIII)V"⟩ ⟨"UseOnceMachineModel", "put", "(IIIIII)V"⟩ ∈ Tb := tbi 35 rfl rfl
theorem w_36 : Cond.selects "UseOnceMachineModel" ⟨"UseOnceMachineModel", "order", "()V"⟩ ⟨"UseOnceMachineModel", "order", "()V"⟩ ∈ Tb := tbi 36 rfl rfl
theorem w_37 : Cond.selects "UseOnceMachineModel" ⟨"UseOnceMachineModel", "simple", "(III)I"⟩ ⟨"UseOnceMachineModel", "simple", "(III)I"⟩ ∈ Tb := tbi 37 rfl rfl
theorem w_38 : Cond.selects "UseOnceMachineModel" ⟨"UseOnceMachineModel", "isNumber", "(I)Z"⟩ ⟨"UseOnceMachineModel", "isNumber", "(I)Z"⟩ ∈ Tb := tbi 38 rfl rfl
theorem w_39 : Cond.selects "UseOnceMachineModel" ⟨"UseOnceMachineModel", "what", "(I)I"⟩ ⟨"UseOnceMachineModel", "what", "(I)I"⟩ ∈ Tb := tbi 39 rfl rfl
theorem w_40 : Cond.selects "UseOnceMachineModel" ⟨"UseOnceMachineModel", "assign", "(II)V"⟩ ⟨"UseOnceMachineModel", "assign", "(II)V"⟩ ∈ Tb := tbi 40 rfl rfl
theorem w_41 : Cond.selects "UseOnceMachineModel" ⟨"UseOnceMachineModel", "shift", "(II)V"⟩ ⟨"UseOnceMachineModel", "shift", "(II)V"⟩ ∈ Tb := tbi 41 rfl rfl
theorem w_42 : Cond.selects "UseOnceMachineModel" ⟨"UseOnceMachineModel", "get", "(II)I"⟩ ⟨"UseOnceMachineModel", "get", "(II)I"⟩ ∈ Tb := tbi 42 rfl rfl
theorem w_43 : Cond.selects "UseOnceMachineModel" ⟨"UseOnceMachineModel", "ranges", "(IIII)I"⟩ ⟨"UseOnceMachineModel", "ranges", "(IIII)I"⟩ ∈ Tb := tbi 43 rfl rfl
theorem w_44 : Cond.selects "UseOnceMachineModel" ⟨"UseOnceMachineModel", "merge", "(II)I"⟩ ⟨"UseOnceMachineModel", "merge", "(II)I"⟩ ∈ Tb := tbi 44 rfl rfl
theorem w_45 : Cond.selects "UseOnceMachineModel" ⟨"UseOnceMachineModel", "cells", "(II)I"⟩ ⟨"UseOnceMachineModel", "cells", "(II)I"⟩ ∈ Tb := tbi 45 rfl rfl
theorem w_46 : Cond.selects "UseOnceMachineModel" ⟨"UseOnceMachineModel", "lowestCell", "()I"⟩ ⟨"UseOnceMachineModel", "lowestCell", "()I"⟩ ∈ Tb := tbi 46 rfl rfl
theorem w_47 : Cond.selects "UseOnceMachineModel" ⟨"UseOnceMachineModel", "memory", "(IIII)I"⟩ ⟨"UseOnceMachineModel", "memory", "(IIII)I"⟩ ∈ Tb := tbi 47 rfl rfl
theorem w_48 : Cond.selects "UseOnceMachineModel" ⟨"UseOnceMachineModel", "length", "(I)I"⟩ ⟨"UseOnceMachineModel", "length", "(I)I"⟩ ∈ Tb := tbi 48 rfl rfl
theorem w_49 : Cond.selects "UseOnceMachineModel" ⟨"UseOnceMachineModel", "has", "(II)Z"⟩ ⟨"UseOnceMachineModel", "has", "(II)Z"⟩ ∈ Tb := tbi 49 rfl rfl
theorem w_50 : Cond.selects "UseOnceMachineModel" ⟨"UseOnceMachineModel", "jumps", "(IIII)I"⟩ ⟨"UseOnceMachineModel", "jumps", "(IIII)I"⟩ ∈ Tb := tbi 50 rfl rfl
theorem w_51 : Cond.selects "UseOnceMachineModel" ⟨"UseOnceMachineModel", "seal", "(III)I"⟩ ⟨"UseOnceMachineModel", "seal", "(III)I"⟩ ∈ Tb := tbi 51 rfl rfl
theorem w_52 : Cond.selects "UseOnceMachineModel" ⟨"UseOnceMachineModel", "lowestGate", "()I"⟩ ⟨"UseOnceMachineModel", "lowestGate", "()I"⟩ ∈ Tb := tbi 52 rfl rfl
theorem w_53 : Cond.selects "UseOnceMachineModel" ⟨"UseOnceMachineModel", "call", "(II)I"⟩ ⟨"UseOnceMachineModel", "call", "(II)I"⟩ ∈ Tb := tbi 53 rfl rfl
theorem w_54 : Cond.selects "UseOnceMachineModel" ⟨"UseOnceMachineModel", "noteDown", "(III)V"⟩ ⟨"UseOnceMachineModel", "noteDown", "(III)V"⟩ ∈ Tb := tbi 54 rfl rfl
theorem w_55 : Cond.selects "UseOnceMachineModel" ⟨"UseOnceMachineModel", "comeBack", "()I"⟩ ⟨"UseOnceMachineModel", "comeBack", "()I"⟩ ∈ Tb := tbi 55 rfl rfl
theorem w_56 : Cond.selects "UseOnceMachineModel" ⟨"UseOnceMachineModel", "isAsNoted", "(III)Z"⟩ ⟨"UseOnceMachineModel", "isAsNoted", "(III)Z"⟩ ∈ Tb := tbi 56 rfl rfl
theorem w_57 : Cond.selects "UseOnceMachineModel" ⟨"UseOnceMachineModel", "isLent", "(III)Z"⟩ ⟨"UseOnceMachineModel", "isLent", "(III)Z"⟩ ∈ Tb := tbi 57 rfl rfl
theorem w_58 : Cond.selects "UseOnceMachineModel" ⟨"UseOnceMachineModel", "shown", "(II)I"⟩ ⟨"UseOnceMachineModel", "shown", "(II)I"⟩ ∈ Tb := tbi 58 rfl rfl
theorem w_59 : Cond.selects "UseOnceMachineModel" ⟨"UseOnceMachineModel", "owns", "(III)Z"⟩ ⟨"UseOnceMachineModel", "owns", "(III)Z"⟩ ∈ Tb := tbi 59 rfl rfl
theorem w_60 : Cond.selects "UseOnceMachineModel" ⟨"UseOnceMachineModel", "cellOwns", "(III)Z"⟩ ⟨"UseOnceMachineModel", "cellOwns", "(III)Z"⟩ ∈ Tb := tbi 60 rfl rfl
theorem w_61 : Cond.selects "UseOnceMachineModel" ⟨"UseOnceMachineModel", "spread", "()I"⟩ ⟨"UseOnceMachineModel", "spread", "()I"⟩ ∈ Tb := tbi 61 rfl rfl
theorem tb1 (i : Nat) {w : Cond} (h : tables_1_1[i]? = some w) (g : goodWord w = true) : w ∈ Tb := by
  have h := List.mem_of_getElem? h
  exact List.mem_filter.mpr ⟨List.mem_append_right _ (show w ∈ tables_1 from List.mem_append_left _ h), g⟩
theorem tb2 (i : Nat) {w : Cond} (h : tables_1_2[i]? = some w) (g : goodWord w = true) : w ∈ Tb := by
  have h := List.mem_of_getElem? h
  exact List.mem_filter.mpr ⟨List.mem_append_right _ (show w ∈ tables_1 from List.mem_append_right _ (List.mem_append_left _ h)), g⟩
theorem tb3 (i : Nat) {w : Cond} (h : tables_1_3[i]? = some w) (g : goodWord w = true) : w ∈ Tb := by
  have h := List.mem_of_getElem? h
  exact List.mem_filter.mpr ⟨List.mem_append_right _ (show w ∈ tables_1 from List.mem_append_right _ (List.mem_append_right _ (List.mem_append_left _ h))), g⟩
theorem tb4 (i : Nat) {w : Cond} (h : tables_1_4[i]? = some w) (g : goodWord w = true) : w ∈ Tb := by
  have h := List.mem_of_getElem? h
  exact List.mem_filter.mpr ⟨List.mem_append_right _ (show w ∈ tables_1 from List.mem_append_right _ (List.mem_append_right _ (List.mem_append_right _ (h)))), g⟩
theorem w_62 : (Jvm.Cond.initialized "UseOnceMachineLaw") ∈ Tb := tb1 0 rfl rfl
theorem w_63 : (Jvm.Cond.initialized "UseOnceMachine") ∈ Tb := tb1 1 rfl rfl
theorem w_64 : (Jvm.Cond.initialized "UseOnceMachine$Code") ∈ Tb := tb1 2 rfl rfl
theorem w_65 : (Jvm.Cond.initialized "UseOnceMachine$State") ∈ Tb := tb1 3 rfl rfl
theorem w_66 : (Jvm.Cond.initialized "UseOnceMachine$History") ∈ Tb := tb1 4 rfl rfl
theorem w_67 : (Jvm.Cond.initialized "UseOnceMachine$Processor") ∈ Tb := tb1 5 rfl rfl
theorem w_68 : (Jvm.Cond.initialized "UseOnceMachine$Owners") ∈ Tb := tb1 6 rfl rfl
theorem w_69 : (Jvm.Cond.initialized "UseOnceMachine$Reach") ∈ Tb := tb1 7 rfl rfl
theorem w_70 : (Jvm.Cond.initialized "UseOnceMachineModel") ∈ Tb := tb1 8 rfl rfl
theorem w_71 : (Jvm.Cond.initialized "java/util/Arrays") ∈ Tb := tb1 9 rfl rfl
theorem w_72 : (Jvm.Cond.initialized "UseOnceMachine$Value") ∈ Tb := tb1 10 rfl rfl
theorem w_73 : (Jvm.Cond.initialized "java/lang/System") ∈ Tb := tb1 11 rfl rfl
theorem w_74 : (Jvm.Cond.initialized "java/lang/Math") ∈ Tb := tb1 12 rfl rfl
theorem w_75 : (Jvm.Cond.initialized "java/lang/Integer") ∈ Tb := tb1 13 rfl rfl
theorem w_76 : (Jvm.Cond.classLink "UseOnceMachineLaw" (7 : Nat) "UseOnceMachine") ∈ Tb := tb1 14 rfl rfl
theorem w_77 : (Jvm.Cond.instantiable "UseOnceMachine" (7 : Nat)) ∈ Tb := tb1 15 rfl rfl
theorem w_78 : (Jvm.Cond.methodLink "UseOnceMachineLaw" (9 : Nat) ({ cls := "UseOnceMachine", name := "<init>", desc := "()V" } : Jvm.MethodName)) ∈ Tb := tb1 16 rfl rfl
theorem w_79 : (Jvm.Cond.instanceMethod ({ cls := "UseOnceMachine", name := "<init>", desc := "()V" } : Jvm.MethodName)) ∈ Tb := tb1 17 rfl rfl
theorem w_80 : (Jvm.Cond.code ({ cls := "UseOnceMachine", name := "<init>", desc := "()V" } : Jvm.MethodName) prog_1_method_1_code (1 : Nat) (Option.none : Option Jvm.ClassFile.FieldType)) ∈ Tb := tb1 18 rfl rfl
theorem w_81 : (Jvm.Cond.methodLink "UseOnceMachine" (3 : Nat) ({ cls := "java/lang/Object", name := "<init>", desc := "()V" } : Jvm.MethodName)) ∈ Tb := tb1 19 rfl rfl
theorem w_82 : (Jvm.Cond.instanceMethod ({ cls := "java/lang/Object", name := "<init>", desc := "()V" } : Jvm.MethodName)) ∈ Tb := tb1 20 rfl rfl
theorem w_83 : (Jvm.Cond.code ({ cls := "java/lang/Object", name := "<init>", desc := "()V" } : Jvm.MethodName) object_method_1_code (1 : Nat) (Option.none : Option Jvm.ClassFile.FieldType)) ∈ Tb := tb1 21 rfl rfl
theorem w_84 : (Jvm.Cond.classLink "UseOnceMachine" (9 : Nat) "UseOnceMachine$Code") ∈ Tb := tb1 22 rfl rfl
theorem w_85 : (Jvm.Cond.instantiable "UseOnceMachine$Code" (2 : Nat)) ∈ Tb := tb1 23 rfl rfl
theorem w_87 : (Jvm.Cond.instanceMethod ({ cls := "UseOnceMachine$Code", name := "<init>", desc := "()V" } : Jvm.MethodName)) ∈ Tb := tb1 25 rfl rfl
theorem w_88 : (Jvm.Cond.code ({ cls := "UseOnceMachine$Code", name := "<init>", desc := "()V" } : Jvm.MethodName) prog_2_method_1_code (1 : Nat) (Option.none : Option Jvm.ClassFile.FieldType)) ∈ Tb := tb1 26 rfl rfl
theorem w_89 : (Jvm.Cond.methodLink "UseOnceMachine$Code" (3 : Nat) ({ cls := "java/lang/Object", name := "<init>", desc := "()V" } : Jvm.MethodName)) ∈ Tb := tb1 27 rfl rfl
theorem w_90 : (Jvm.Cond.fieldLink "UseOnceMachine$Code" (11 : Nat) "UseOnceMachine$Code" "orders" "[I") ∈ Tb := tb1 28 rfl rfl
theorem w_91 : (Jvm.Cond.fieldLink "UseOnceMachine$Code" (15 : Nat) "UseOnceMachine$Code" "sizes" "[I") ∈ Tb := tb1 29 rfl rfl
theorem w_92 : (Jvm.Cond.laysFinal "UseOnceMachine$Code" "UseOnceMachine$Code" "orders" "[I") ∈ Tb := tb1 30 rfl rfl
theorem w_94 : (Jvm.Cond.laysFinal "UseOnceMachine$Code" "UseOnceMachine$Code" "sizes" "[I") ∈ Tb := tb1 32 rfl rfl
theorem w_97 : (Jvm.Cond.arrayClass Jvm.ClassFile.FieldType.int) ∈ Tb := tb1 35 rfl rfl
theorem w_98 : (Jvm.Cond.classLink "UseOnceMachine" (16 : Nat) "UseOnceMachine$State") ∈ Tb := tb1 36 rfl rfl
theorem w_99 : (Jvm.Cond.instantiable "UseOnceMachine$State" (15 : Nat)) ∈ Tb := tb1 37 rfl rfl
theorem w_101 : (Jvm.Cond.instanceMethod ({ cls := "UseOnceMachine$State", name := "<init>", desc := "()V" } : Jvm.MethodName)) ∈ Tb := tb1 39 rfl rfl
theorem w_102 : (Jvm.Cond.code ({ cls := "UseOnceMachine$State", name := "<init>", desc := "()V" } : Jvm.MethodName) prog_7_method_1_code (1 : Nat) (Option.none : Option Jvm.ClassFile.FieldType)) ∈ Tb := tb1 40 rfl rfl
theorem w_103 : (Jvm.Cond.methodLink "UseOnceMachine$State" (3 : Nat) ({ cls := "java/lang/Object", name := "<init>", desc := "()V" } : Jvm.MethodName)) ∈ Tb := tb1 41 rfl rfl
theorem w_104 : (Jvm.Cond.fieldLink "UseOnceMachine$State" (9 : Nat) "UseOnceMachine$State" "places" "[J") ∈ Tb := tb1 42 rfl rfl
theorem w_105 : (Jvm.Cond.fieldLink "UseOnceMachine$State" (15 : Nat) "UseOnceMachine$State" "notes" "[J") ∈ Tb := tb1 43 rfl rfl
theorem w_106 : (Jvm.Cond.fieldLink "UseOnceMachine$State" (18 : Nat) "UseOnceMachine$State" "counts" "[I") ∈ Tb := tb1 44 rfl rfl
theorem w_107 : (Jvm.Cond.fieldLink "UseOnceMachine" (120 : Nat) "UseOnceMachine$State" "counts" "[I") ∈ Tb := tb1 45 rfl rfl
theorem w_108 : (Jvm.Cond.fieldLink "UseOnceMachine$State" (22 : Nat) "UseOnceMachine$State" "gateStates" "[I") ∈ Tb := tb1 46 rfl rfl
theorem w_109 : (Jvm.Cond.fieldLink "UseOnceMachine" (124 : Nat) "UseOnceMachine$State" "gateStates" "[I") ∈ Tb := tb1 47 rfl rfl
theorem w_110 : (Jvm.Cond.fieldLink "UseOnceMachine$State" (25 : Nat) "UseOnceMachine$State" "gateModules" "[I") ∈ Tb := tb1 48 rfl rfl
theorem w_111 : (Jvm.Cond.fieldLink "UseOnceMachine" (127 : Nat) "UseOnceMachine$State" "gateModules" "[I") ∈ Tb := tb1 49 rfl rfl
theorem w_112 : (Jvm.Cond.fieldLink "UseOnceMachine$State" (28 : Nat) "UseOnceMachine$State" "gatePatterns" "[I") ∈ Tb := tb1 50 rfl rfl
theorem w_113 : (Jvm.Cond.fieldLink "UseOnceMachine" (130 : Nat) "UseOnceMachine$State" "gatePatterns" "[I") ∈ Tb := tb1 51 rfl rfl
theorem w_114 : (Jvm.Cond.fieldLink "UseOnceMachine$State" (31 : Nat) "UseOnceMachine$State" "frameOrders" "[I") ∈ Tb := tb1 52 rfl rfl
theorem w_115 : (Jvm.Cond.fieldLink "UseOnceMachine$State" (34 : Nat) "UseOnceMachine$State" "frameModules" "[I") ∈ Tb := tb1 53 rfl rfl
theorem w_116 : (Jvm.Cond.fieldLink "UseOnceMachine$State" (37 : Nat) "UseOnceMachine$State" "frameGates" "[I") ∈ Tb := tb1 54 rfl rfl
theorem w_117 : (Jvm.Cond.fieldLink "UseOnceMachine$State" (40 : Nat) "UseOnceMachine$State" "framePassed" "[I") ∈ Tb := tb1 55 rfl rfl
theorem w_118 : (Jvm.Cond.fieldLink "UseOnceMachine$State" (43 : Nat) "UseOnceMachine$State" "depth" "I") ∈ Tb := tb1 56 rfl rfl
theorem w_119 : (Jvm.Cond.fieldLink "UseOnceMachine" (100 : Nat) "UseOnceMachine$State" "depth" "I") ∈ Tb := tb1 57 rfl rfl
theorem w_120 : (Jvm.Cond.fieldLink "UseOnceMachine$State" (47 : Nat) "UseOnceMachine$State" "module" "I") ∈ Tb := tb1 58 rfl rfl
theorem w_121 : (Jvm.Cond.fieldLink "UseOnceMachine$Processor" (51 : Nat) "UseOnceMachine$State" "module" "I") ∈ Tb := tb1 59 rfl rfl
theorem w_122 : (Jvm.Cond.fieldLink "UseOnceMachine" (103 : Nat) "UseOnceMachine$State" "module" "I") ∈ Tb := tb1 60 rfl rfl
theorem w_123 : (Jvm.Cond.fieldLink "UseOnceMachine$State" (50 : Nat) "UseOnceMachine$State" "order" "I") ∈ Tb := tb1 61 rfl rfl
theorem w_124 : (Jvm.Cond.fieldLink "UseOnceMachine$Processor" (54 : Nat) "UseOnceMachine$State" "order" "I") ∈ Tb := tb1 62 rfl rfl
theorem w_125 : (Jvm.Cond.fieldLink "UseOnceMachine" (106 : Nat) "UseOnceMachine$State" "order" "I") ∈ Tb := tb1 63 rfl rfl
theorem w_126 : (Jvm.Cond.fieldLink "UseOnceMachine$State" (53 : Nat) "UseOnceMachine$State" "done" "I") ∈ Tb := tb1 64 rfl rfl
theorem w_127 : (Jvm.Cond.fieldLink "UseOnceMachine$Processor" (48 : Nat) "UseOnceMachine$State" "done" "I") ∈ Tb := tb1 65 rfl rfl
theorem w_128 : (Jvm.Cond.fieldLink "UseOnceMachine" (109 : Nat) "UseOnceMachine$State" "done" "I") ∈ Tb := tb1 66 rfl rfl
theorem w_129 : (Jvm.Cond.fieldLink "UseOnceMachine$State" (56 : Nat) "UseOnceMachine$State" "stop" "I") ∈ Tb := tb1 67 rfl rfl
theorem w_130 : (Jvm.Cond.fieldLink "UseOnceMachine$Processor" (43 : Nat) "UseOnceMachine$State" "stop" "I") ∈ Tb := tb1 68 rfl rfl
theorem w_131 : (Jvm.Cond.fieldLink "UseOnceMachine" (78 : Nat) "UseOnceMachine$State" "stop" "I") ∈ Tb := tb1 69 rfl rfl
theorem w_132 : (Jvm.Cond.laysFinal "UseOnceMachine$State" "UseOnceMachine$State" "places" "[J") ∈ Tb := tb1 70 rfl rfl
theorem w_134 : (Jvm.Cond.laysFinal "UseOnceMachine$State" "UseOnceMachine$State" "notes" "[J") ∈ Tb := tb1 72 rfl rfl
theorem w_136 : (Jvm.Cond.laysFinal "UseOnceMachine$State" "UseOnceMachine$State" "counts" "[I") ∈ Tb := tb1 74 rfl rfl
theorem w_138 : (Jvm.Cond.laysFinal "UseOnceMachine$State" "UseOnceMachine$State" "gateStates" "[I") ∈ Tb := tb1 76 rfl rfl
theorem w_140 : (Jvm.Cond.laysFinal "UseOnceMachine$State" "UseOnceMachine$State" "gateModules" "[I") ∈ Tb := tb1 78 rfl rfl
theorem w_142 : (Jvm.Cond.laysFinal "UseOnceMachine$State" "UseOnceMachine$State" "gatePatterns" "[I") ∈ Tb := tb1 80 rfl rfl
theorem w_144 : (Jvm.Cond.laysFinal "UseOnceMachine$State" "UseOnceMachine$State" "frameOrders" "[I") ∈ Tb := tb1 82 rfl rfl
theorem w_146 : (Jvm.Cond.laysFinal "UseOnceMachine$State" "UseOnceMachine$State" "frameModules" "[I") ∈ Tb := tb1 84 rfl rfl
theorem w_148 : (Jvm.Cond.laysFinal "UseOnceMachine$State" "UseOnceMachine$State" "frameGates" "[I") ∈ Tb := tb1 86 rfl rfl
theorem w_150 : (Jvm.Cond.laysFinal "UseOnceMachine$State" "UseOnceMachine$State" "framePassed" "[I") ∈ Tb := tb1 88 rfl rfl
theorem w_152 : (Jvm.Cond.lays "UseOnceMachine$State" "UseOnceMachine$State" "depth" "I") ∈ Tb := tb1 90 rfl rfl
theorem w_154 : (Jvm.Cond.lays "UseOnceMachine$State" "UseOnceMachine$State" "module" "I") ∈ Tb := tb1 92 rfl rfl
theorem w_156 : (Jvm.Cond.lays "UseOnceMachine$State" "UseOnceMachine$State" "order" "I") ∈ Tb := tb1 94 rfl rfl
theorem w_158 : (Jvm.Cond.lays "UseOnceMachine$State" "UseOnceMachine$State" "done" "I") ∈ Tb := tb1 96 rfl rfl
theorem w_160 : (Jvm.Cond.lays "UseOnceMachine$State" "UseOnceMachine$State" "stop" "I") ∈ Tb := tb1 98 rfl rfl
theorem w_163 : (Jvm.Cond.arrayClass Jvm.ClassFile.FieldType.long) ∈ Tb := tb1 101 rfl rfl
theorem w_164 : (Jvm.Cond.classLink "UseOnceMachine" (23 : Nat) "UseOnceMachine$History") ∈ Tb := tb1 102 rfl rfl
theorem w_165 : (Jvm.Cond.instantiable "UseOnceMachine$History" (3 : Nat)) ∈ Tb := tb1 103 rfl rfl
theorem w_167 : (Jvm.Cond.instanceMethod ({ cls := "UseOnceMachine$History", name := "<init>", desc := "()V" } : Jvm.MethodName)) ∈ Tb := tb1 105 rfl rfl
theorem w_168 : (Jvm.Cond.code ({ cls := "UseOnceMachine$History", name := "<init>", desc := "()V" } : Jvm.MethodName) prog_3_method_1_code (1 : Nat) (Option.none : Option Jvm.ClassFile.FieldType)) ∈ Tb := tb1 106 rfl rfl
theorem w_169 : (Jvm.Cond.methodLink "UseOnceMachine$History" (3 : Nat) ({ cls := "java/lang/Object", name := "<init>", desc := "()V" } : Jvm.MethodName)) ∈ Tb := tb1 107 rfl rfl
theorem w_170 : (Jvm.Cond.classLink "UseOnceMachine$History" (9 : Nat) "UseOnceMachine$State") ∈ Tb := tb1 108 rfl rfl
theorem w_172 : (Jvm.Cond.fieldLink "UseOnceMachine$History" (11 : Nat) "UseOnceMachine$History" "ring" "[LUseOnceMachine$State;") ∈ Tb := tb1 110 rfl rfl
theorem w_173 : (Jvm.Cond.fieldLink "UseOnceMachine$History" (17 : Nat) "UseOnceMachine$History" "next" "I") ∈ Tb := tb1 111 rfl rfl
theorem w_174 : (Jvm.Cond.fieldLink "UseOnceMachine$History" (21 : Nat) "UseOnceMachine$History" "size" "I") ∈ Tb := tb1 112 rfl rfl
theorem w_175 : (Jvm.Cond.laysFinal "UseOnceMachine$History" "UseOnceMachine$History" "ring" "[LUseOnceMachine$State;") ∈ Tb := tb1 113 rfl rfl
theorem w_177 : (Jvm.Cond.lays "UseOnceMachine$History" "UseOnceMachine$History" "next" "I") ∈ Tb := tb1 115 rfl rfl
theorem w_179 : (Jvm.Cond.lays "UseOnceMachine$History" "UseOnceMachine$History" "size" "I") ∈ Tb := tb1 117 rfl rfl
theorem w_182 : (Jvm.Cond.classLink "UseOnceMachine" (30 : Nat) "UseOnceMachine$Processor") ∈ Tb := tb1 120 rfl rfl
theorem w_183 : (Jvm.Cond.instantiable "UseOnceMachine$Processor" (6 : Nat)) ∈ Tb := tb1 121 rfl rfl
theorem w_184 : (Jvm.Cond.methodLink "UseOnceMachine" (32 : Nat) ({ cls := "UseOnceMachine$Processor", name := "<init>", desc := "(LUseOnceMachine$Code;LUseOnceMachine$State;)V" } : Jvm.MethodName)) ∈ Tb := tb1 122 rfl rfl
theorem w_185 : (Jvm.Cond.instanceMethod ({ cls := "UseOnceMachine$Processor", name := "<init>", desc := "(LUseOnceMachine$Code;LUseOnceMachine$State;)V" } : Jvm.MethodName)) ∈ Tb := tb1 123 rfl rfl
theorem w_186 : (Jvm.Cond.code ({ cls := "UseOnceMachine$Processor", name := "<init>", desc := "(LUseOnceMachine$Code;LUseOnceMachine$State;)V" } : Jvm.MethodName) prog_5_method_1_code (3 : Nat) (Option.none : Option Jvm.ClassFile.FieldType)) ∈ Tb := tb1 124 rfl rfl
theorem w_187 : (Jvm.Cond.methodLink "UseOnceMachine$Processor" (3 : Nat) ({ cls := "java/lang/Object", name := "<init>", desc := "()V" } : Jvm.MethodName)) ∈ Tb := tb1 125 rfl rfl
theorem w_188 : (Jvm.Cond.fieldLink "UseOnceMachine$Processor" (24 : Nat) "UseOnceMachine$Processor" "code" "LUseOnceMachine$Code;") ∈ Tb := tb1 126 rfl rfl
theorem w_189 : (Jvm.Cond.fieldLink "UseOnceMachine$Processor" (28 : Nat) "UseOnceMachine$Processor" "state" "LUseOnceMachine$State;") ∈ Tb := tb1 127 rfl rfl
theorem w_190 : (Jvm.Cond.fieldLink "UseOnceMachine$Processor" (9 : Nat) "UseOnceMachine$Processor" "operation" "I") ∈ Tb := tb1 128 rfl rfl
theorem w_191 : (Jvm.Cond.fieldLink "UseOnceMachine$Processor" (15 : Nat) "UseOnceMachine$Processor" "a" "I") ∈ Tb := tb1 129 rfl rfl
theorem w_192 : (Jvm.Cond.fieldLink "UseOnceMachine$Processor" (18 : Nat) "UseOnceMachine$Processor" "b" "I") ∈ Tb := tb1 130 rfl rfl
theorem w_193 : (Jvm.Cond.fieldLink "UseOnceMachine$Processor" (21 : Nat) "UseOnceMachine$Processor" "c" "I") ∈ Tb := tb1 131 rfl rfl
theorem w_194 : (Jvm.Cond.laysFinal "UseOnceMachine$Processor" "UseOnceMachine$Processor" "code" "LUseOnceMachine$Code;") ∈ Tb := tb1 132 rfl rfl
theorem w_196 : (Jvm.Cond.laysFinal "UseOnceMachine$Processor" "UseOnceMachine$Processor" "state" "LUseOnceMachine$State;") ∈ Tb := tb1 134 rfl rfl
theorem w_198 : (Jvm.Cond.lays "UseOnceMachine$Processor" "UseOnceMachine$Processor" "operation" "I") ∈ Tb := tb1 136 rfl rfl
theorem w_200 : (Jvm.Cond.lays "UseOnceMachine$Processor" "UseOnceMachine$Processor" "a" "I") ∈ Tb := tb1 138 rfl rfl
theorem w_202 : (Jvm.Cond.lays "UseOnceMachine$Processor" "UseOnceMachine$Processor" "b" "I") ∈ Tb := tb1 140 rfl rfl
theorem w_204 : (Jvm.Cond.lays "UseOnceMachine$Processor" "UseOnceMachine$Processor" "c" "I") ∈ Tb := tb1 142 rfl rfl
theorem w_207 : (Jvm.Cond.classLink "UseOnceMachine" (39 : Nat) "UseOnceMachine$Owners") ∈ Tb := tb1 145 rfl rfl
theorem w_208 : (Jvm.Cond.instantiable "UseOnceMachine$Owners" (4 : Nat)) ∈ Tb := tb1 146 rfl rfl
theorem w_209 : (Jvm.Cond.methodLink "UseOnceMachine" (41 : Nat) ({ cls := "UseOnceMachine$Owners", name := "<init>", desc := "(LUseOnceMachine$State;)V" } : Jvm.MethodName)) ∈ Tb := tb1 147 rfl rfl
theorem w_210 : (Jvm.Cond.instanceMethod ({ cls := "UseOnceMachine$Owners", name := "<init>", desc := "(LUseOnceMachine$State;)V" } : Jvm.MethodName)) ∈ Tb := tb1 148 rfl rfl
theorem w_211 : (Jvm.Cond.code ({ cls := "UseOnceMachine$Owners", name := "<init>", desc := "(LUseOnceMachine$State;)V" } : Jvm.MethodName) prog_4_method_1_code (2 : Nat) (Option.none : Option Jvm.ClassFile.FieldType)) ∈ Tb := tb1 149 rfl rfl
theorem w_212 : (Jvm.Cond.methodLink "UseOnceMachine$Owners" (3 : Nat) ({ cls := "java/lang/Object", name := "<init>", desc := "()V" } : Jvm.MethodName)) ∈ Tb := tb1 150 rfl rfl
theorem w_213 : (Jvm.Cond.fieldLink "UseOnceMachine$Owners" (21 : Nat) "UseOnceMachine$Owners" "state" "LUseOnceMachine$State;") ∈ Tb := tb1 151 rfl rfl
theorem w_214 : (Jvm.Cond.fieldLink "UseOnceMachine$Owners" (9 : Nat) "UseOnceMachine$Owners" "tallies" "[I") ∈ Tb := tb1 152 rfl rfl
theorem w_215 : (Jvm.Cond.fieldLink "UseOnceMachine$Owners" (15 : Nat) "UseOnceMachine$Owners" "cellsOver" "[I") ∈ Tb := tb1 153 rfl rfl
theorem w_216 : (Jvm.Cond.fieldLink "UseOnceMachine$Owners" (18 : Nat) "UseOnceMachine$Owners" "holders" "[I") ∈ Tb := tb1 154 rfl rfl
theorem w_217 : (Jvm.Cond.laysFinal "UseOnceMachine$Owners" "UseOnceMachine$Owners" "state" "LUseOnceMachine$State;") ∈ Tb := tb1 155 rfl rfl
theorem w_219 : (Jvm.Cond.laysFinal "UseOnceMachine$Owners" "UseOnceMachine$Owners" "tallies" "[I") ∈ Tb := tb1 157 rfl rfl
theorem w_221 : (Jvm.Cond.laysFinal "UseOnceMachine$Owners" "UseOnceMachine$Owners" "cellsOver" "[I") ∈ Tb := tb1 159 rfl rfl
theorem w_223 : (Jvm.Cond.laysFinal "UseOnceMachine$Owners" "UseOnceMachine$Owners" "holders" "[I") ∈ Tb := tb1 161 rfl rfl
theorem w_226 : (Jvm.Cond.classLink "UseOnceMachine" (48 : Nat) "UseOnceMachine$Reach") ∈ Tb := tb1 164 rfl rfl
theorem w_227 : (Jvm.Cond.instantiable "UseOnceMachine$Reach" (5 : Nat)) ∈ Tb := tb1 165 rfl rfl
theorem w_228 : (Jvm.Cond.methodLink "UseOnceMachine" (50 : Nat) ({ cls := "UseOnceMachine$Reach", name := "<init>", desc := "(LUseOnceMachine$State;)V" } : Jvm.MethodName)) ∈ Tb := tb1 166 rfl rfl
theorem w_229 : (Jvm.Cond.instanceMethod ({ cls := "UseOnceMachine$Reach", name := "<init>", desc := "(LUseOnceMachine$State;)V" } : Jvm.MethodName)) ∈ Tb := tb1 167 rfl rfl
theorem w_230 : (Jvm.Cond.code ({ cls := "UseOnceMachine$Reach", name := "<init>", desc := "(LUseOnceMachine$State;)V" } : Jvm.MethodName) prog_6_method_1_code (2 : Nat) (Option.none : Option Jvm.ClassFile.FieldType)) ∈ Tb := tb1 168 rfl rfl
theorem w_231 : (Jvm.Cond.methodLink "UseOnceMachine$Reach" (3 : Nat) ({ cls := "java/lang/Object", name := "<init>", desc := "()V" } : Jvm.MethodName)) ∈ Tb := tb1 169 rfl rfl
theorem w_232 : (Jvm.Cond.fieldLink "UseOnceMachine$Reach" (26 : Nat) "UseOnceMachine$Reach" "state" "LUseOnceMachine$State;") ∈ Tb := tb1 170 rfl rfl
theorem w_233 : (Jvm.Cond.fieldLink "UseOnceMachine$Reach" (9 : Nat) "UseOnceMachine$Reach" "reached" "[Z") ∈ Tb := tb1 171 rfl rfl
theorem w_234 : (Jvm.Cond.fieldLink "UseOnceMachine$Reach" (15 : Nat) "UseOnceMachine$Reach" "readable" "[Z") ∈ Tb := tb1 172 rfl rfl
theorem w_235 : (Jvm.Cond.fieldLink "UseOnceMachine$Reach" (18 : Nat) "UseOnceMachine$Reach" "found" "[I") ∈ Tb := tb1 173 rfl rfl
theorem w_236 : (Jvm.Cond.fieldLink "UseOnceMachine$Reach" (22 : Nat) "UseOnceMachine$Reach" "foundSize" "I") ∈ Tb := tb1 174 rfl rfl
theorem w_237 : (Jvm.Cond.laysFinal "UseOnceMachine$Reach" "UseOnceMachine$Reach" "state" "LUseOnceMachine$State;") ∈ Tb := tb1 175 rfl rfl
theorem w_239 : (Jvm.Cond.laysFinal "UseOnceMachine$Reach" "UseOnceMachine$Reach" "reached" "[Z") ∈ Tb := tb1 177 rfl rfl
theorem w_241 : (Jvm.Cond.laysFinal "UseOnceMachine$Reach" "UseOnceMachine$Reach" "readable" "[Z") ∈ Tb := tb1 179 rfl rfl
theorem w_243 : (Jvm.Cond.laysFinal "UseOnceMachine$Reach" "UseOnceMachine$Reach" "found" "[I") ∈ Tb := tb1 181 rfl rfl
theorem w_245 : (Jvm.Cond.lays "UseOnceMachine$Reach" "UseOnceMachine$Reach" "foundSize" "I") ∈ Tb := tb1 183 rfl rfl
theorem w_248 : (Jvm.Cond.arrayClass Jvm.ClassFile.FieldType.boolean) ∈ Tb := tb1 186 rfl rfl
theorem w_249 : (Jvm.Cond.fieldLink "UseOnceMachine" (12 : Nat) "UseOnceMachine" "code" "LUseOnceMachine$Code;") ∈ Tb := tb1 187 rfl rfl
theorem w_250 : (Jvm.Cond.fieldLink "UseOnceMachine" (19 : Nat) "UseOnceMachine" "state" "LUseOnceMachine$State;") ∈ Tb := tb1 188 rfl rfl
theorem w_251 : (Jvm.Cond.fieldLink "UseOnceMachine" (26 : Nat) "UseOnceMachine" "history" "LUseOnceMachine$History;") ∈ Tb := tb1 189 rfl rfl
theorem w_252 : (Jvm.Cond.fieldLink "UseOnceMachine" (35 : Nat) "UseOnceMachine" "processor" "LUseOnceMachine$Processor;") ∈ Tb := tb1 190 rfl rfl
theorem w_253 : (Jvm.Cond.fieldLink "UseOnceMachine" (44 : Nat) "UseOnceMachine" "owners" "LUseOnceMachine$Owners;") ∈ Tb := tb1 191 rfl rfl
theorem w_254 : (Jvm.Cond.fieldLink "UseOnceMachine" (51 : Nat) "UseOnceMachine" "reach" "LUseOnceMachine$Reach;") ∈ Tb := tb1 192 rfl rfl
theorem w_255 : (Jvm.Cond.fieldLink "UseOnceMachine" (55 : Nat) "UseOnceMachine" "booted" "Z") ∈ Tb := tb1 193 rfl rfl
theorem w_256 : (Jvm.Cond.laysFinal "UseOnceMachine" "UseOnceMachine" "code" "LUseOnceMachine$Code;") ∈ Tb := tb1 194 rfl rfl
theorem w_258 : (Jvm.Cond.laysFinal "UseOnceMachine" "UseOnceMachine" "state" "LUseOnceMachine$State;") ∈ Tb := tb1 196 rfl rfl
theorem w_260 : (Jvm.Cond.laysFinal "UseOnceMachine" "UseOnceMachine" "history" "LUseOnceMachine$History;") ∈ Tb := tb1 198 rfl rfl
theorem w_262 : (Jvm.Cond.laysFinal "UseOnceMachine" "UseOnceMachine" "processor" "LUseOnceMachine$Processor;") ∈ Tb := tb1 200 rfl rfl
theorem w_264 : (Jvm.Cond.laysFinal "UseOnceMachine" "UseOnceMachine" "owners" "LUseOnceMachine$Owners;") ∈ Tb := tb1 202 rfl rfl
theorem w_266 : (Jvm.Cond.laysFinal "UseOnceMachine" "UseOnceMachine" "reach" "LUseOnceMachine$Reach;") ∈ Tb := tb1 204 rfl rfl
theorem w_268 : (Jvm.Cond.lays "UseOnceMachine" "UseOnceMachine" "booted" "Z") ∈ Tb := tb1 206 rfl rfl
theorem w_271 : (Jvm.Cond.methodLink "UseOnceMachineLaw" (13 : Nat) ({ cls := "UseOnceMachine", name := "code", desc := "(IIIII)I" } : Jvm.MethodName)) ∈ Tb := tb1 209 rfl rfl
theorem w_272 : (Jvm.Cond.instanceMethod ({ cls := "UseOnceMachine", name := "code", desc := "(IIIII)I" } : Jvm.MethodName)) ∈ Tb := tb1 210 rfl rfl
theorem w_273 : (Jvm.Cond.selects "UseOnceMachine" ({ cls := "UseOnceMachine", name := "code", desc := "(IIIII)I" } : Jvm.MethodName) ({ cls := "UseOnceMachine", name := "code", desc := "(IIIII)I" } : Jvm.MethodName)) ∈ Tb := tb1 211 rfl rfl
theorem w_274 : (Jvm.Cond.code ({ cls := "UseOnceMachine", name := "code", desc := "(IIIII)I" } : Jvm.MethodName) prog_1_method_2_code (6 : Nat) (Option.some Jvm.ClassFile.FieldType.int)) ∈ Tb := tb1 212 rfl rfl
theorem w_275 : (Jvm.Cond.methodLink "UseOnceMachine" (59 : Nat) ({ cls := "UseOnceMachine$Code", name := "append", desc := "(IIIII)I" } : Jvm.MethodName)) ∈ Tb := tb1 213 rfl rfl
theorem w_276 : (Jvm.Cond.instanceMethod ({ cls := "UseOnceMachine$Code", name := "append", desc := "(IIIII)I" } : Jvm.MethodName)) ∈ Tb := tb1 214 rfl rfl
theorem w_277 : (Jvm.Cond.selects "UseOnceMachine$Code" ({ cls := "UseOnceMachine$Code", name := "append", desc := "(IIIII)I" } : Jvm.MethodName) ({ cls := "UseOnceMachine$Code", name := "append", desc := "(IIIII)I" } : Jvm.MethodName)) ∈ Tb := tb1 215 rfl rfl
theorem w_278 : (Jvm.Cond.code ({ cls := "UseOnceMachine$Code", name := "append", desc := "(IIIII)I" } : Jvm.MethodName) prog_2_method_4_code (8 : Nat) (Option.some Jvm.ClassFile.FieldType.int)) ∈ Tb := tb1 216 rfl rfl
theorem w_279 : (Jvm.Cond.methodLink "UseOnceMachineLaw" (18 : Nat) ({ cls := "UseOnceMachine", name := "boot", desc := "()Z" } : Jvm.MethodName)) ∈ Tb := tb1 217 rfl rfl
theorem w_280 : (Jvm.Cond.instanceMethod ({ cls := "UseOnceMachine", name := "boot", desc := "()Z" } : Jvm.MethodName)) ∈ Tb := tb1 218 rfl rfl
theorem w_281 : (Jvm.Cond.selects "UseOnceMachine" ({ cls := "UseOnceMachine", name := "boot", desc := "()Z" } : Jvm.MethodName) ({ cls := "UseOnceMachine", name := "boot", desc := "()Z" } : Jvm.MethodName)) ∈ Tb := tb1 219 rfl rfl
theorem w_282 : (Jvm.Cond.code ({ cls := "UseOnceMachine", name := "boot", desc := "()Z" } : Jvm.MethodName) prog_1_method_3_code (1 : Nat) (Option.some Jvm.ClassFile.FieldType.boolean)) ∈ Tb := tb1 220 rfl rfl
theorem w_283 : (Jvm.Cond.methodLink "UseOnceMachine" (63 : Nat) ({ cls := "UseOnceMachine$History", name := "clear", desc := "()V" } : Jvm.MethodName)) ∈ Tb := tb1 221 rfl rfl
theorem w_284 : (Jvm.Cond.instanceMethod ({ cls := "UseOnceMachine$History", name := "clear", desc := "()V" } : Jvm.MethodName)) ∈ Tb := tb1 222 rfl rfl
theorem w_285 : (Jvm.Cond.selects "UseOnceMachine$History" ({ cls := "UseOnceMachine$History", name := "clear", desc := "()V" } : Jvm.MethodName) ({ cls := "UseOnceMachine$History", name := "clear", desc := "()V" } : Jvm.MethodName)) ∈ Tb := tb1 223 rfl rfl
theorem w_286 : (Jvm.Cond.code ({ cls := "UseOnceMachine$History", name := "clear", desc := "()V" } : Jvm.MethodName) prog_3_method_2_code (1 : Nat) (Option.none : Option Jvm.ClassFile.FieldType)) ∈ Tb := tb1 224 rfl rfl
theorem w_287 : (Jvm.Cond.methodLink "UseOnceMachine" (66 : Nat) ({ cls := "UseOnceMachine$State", name := "clear", desc := "()V" } : Jvm.MethodName)) ∈ Tb := tb1 225 rfl rfl
theorem w_288 : (Jvm.Cond.instanceMethod ({ cls := "UseOnceMachine$State", name := "clear", desc := "()V" } : Jvm.MethodName)) ∈ Tb := tb1 226 rfl rfl
theorem w_289 : (Jvm.Cond.selects "UseOnceMachine$State" ({ cls := "UseOnceMachine$State", name := "clear", desc := "()V" } : Jvm.MethodName) ({ cls := "UseOnceMachine$State", name := "clear", desc := "()V" } : Jvm.MethodName)) ∈ Tb := tb1 227 rfl rfl
theorem w_290 : (Jvm.Cond.code ({ cls := "UseOnceMachine$State", name := "clear", desc := "()V" } : Jvm.MethodName) prog_7_method_2_code (1 : Nat) (Option.none : Option Jvm.ClassFile.FieldType)) ∈ Tb := tb1 228 rfl rfl
theorem w_291 : (Jvm.Cond.methodLink "UseOnceMachine$State" (61 : Nat) ({ cls := "java/util/Arrays", name := "fill", desc := "([JJ)V" } : Jvm.MethodName)) ∈ Tb := tb1 229 rfl rfl
theorem w_292 : (Jvm.Cond.static ({ cls := "java/util/Arrays", name := "fill", desc := "([JJ)V" } : Jvm.MethodName)) ∈ Tb := tb1 230 rfl rfl
theorem w_293 : (Jvm.Cond.code ({ cls := "java/util/Arrays", name := "fill", desc := "([JJ)V" } : Jvm.MethodName) prog_14_method_101_code (5 : Nat) (Option.none : Option Jvm.ClassFile.FieldType)) ∈ Tb := tb1 231 rfl rfl
theorem w_294 : (Jvm.Cond.methodLink "UseOnceMachine$State" (67 : Nat) ({ cls := "java/util/Arrays", name := "fill", desc := "([II)V" } : Jvm.MethodName)) ∈ Tb := tb1 232 rfl rfl
theorem w_295 : (Jvm.Cond.static ({ cls := "java/util/Arrays", name := "fill", desc := "([II)V" } : Jvm.MethodName)) ∈ Tb := tb1 233 rfl rfl
theorem w_296 : (Jvm.Cond.code ({ cls := "java/util/Arrays", name := "fill", desc := "([II)V" } : Jvm.MethodName) prog_14_method_103_code (4 : Nat) (Option.none : Option Jvm.ClassFile.FieldType)) ∈ Tb := tb1 234 rfl rfl
theorem w_297 : (Jvm.Cond.methodLink "UseOnceMachine" (67 : Nat) ({ cls := "UseOnceMachine$Value", name := "exclusive", desc := "(III)J" } : Jvm.MethodName)) ∈ Tb := tb1 235 rfl rfl
theorem w_298 : (Jvm.Cond.static ({ cls := "UseOnceMachine$Value", name := "exclusive", desc := "(III)J" } : Jvm.MethodName)) ∈ Tb := tb1 236 rfl rfl
theorem w_299 : (Jvm.Cond.code ({ cls := "UseOnceMachine$Value", name := "exclusive", desc := "(III)J" } : Jvm.MethodName) prog_8_method_3_code (3 : Nat) (Option.some Jvm.ClassFile.FieldType.long)) ∈ Tb := tb1 237 rfl rfl
theorem w_300 : (Jvm.Cond.methodLink "UseOnceMachine$Value" (11 : Nat) ({ cls := "UseOnceMachine$Value", name := "pack", desc := "(IIIII)J" } : Jvm.MethodName)) ∈ Tb := tb1 238 rfl rfl
theorem w_301 : (Jvm.Cond.static ({ cls := "UseOnceMachine$Value", name := "pack", desc := "(IIIII)J" } : Jvm.MethodName)) ∈ Tb := tb1 239 rfl rfl
theorem w_302 : (Jvm.Cond.code ({ cls := "UseOnceMachine$Value", name := "pack", desc := "(IIIII)J" } : Jvm.MethodName) prog_8_method_6_code (5 : Nat) (Option.some Jvm.ClassFile.FieldType.long)) ∈ Tb := tb2 0 rfl rfl
theorem w_303 : (Jvm.Cond.methodLink "UseOnceMachine" (73 : Nat) ({ cls := "UseOnceMachine$State", name := "put", desc := "(IJ)V" } : Jvm.MethodName)) ∈ Tb := tb2 1 rfl rfl
theorem w_304 : (Jvm.Cond.instanceMethod ({ cls := "UseOnceMachine$State", name := "put", desc := "(IJ)V" } : Jvm.MethodName)) ∈ Tb := tb2 2 rfl rfl
theorem w_305 : (Jvm.Cond.selects "UseOnceMachine$State" ({ cls := "UseOnceMachine$State", name := "put", desc := "(IJ)V" } : Jvm.MethodName) ({ cls := "UseOnceMachine$State", name := "put", desc := "(IJ)V" } : Jvm.MethodName)) ∈ Tb := tb2 3 rfl rfl
theorem w_306 : (Jvm.Cond.code ({ cls := "UseOnceMachine$State", name := "put", desc := "(IJ)V" } : Jvm.MethodName) prog_7_method_5_code (4 : Nat) (Option.none : Option Jvm.ClassFile.FieldType)) ∈ Tb := tb2 4 rfl rfl
theorem w_307 : (Jvm.Cond.methodLink "UseOnceMachine" (77 : Nat) ({ cls := "UseOnceMachine$Code", name := "clear", desc := "()V" } : Jvm.MethodName)) ∈ Tb := tb2 5 rfl rfl
theorem w_308 : (Jvm.Cond.instanceMethod ({ cls := "UseOnceMachine$Code", name := "clear", desc := "()V" } : Jvm.MethodName)) ∈ Tb := tb2 6 rfl rfl
theorem w_309 : (Jvm.Cond.selects "UseOnceMachine$Code" ({ cls := "UseOnceMachine$Code", name := "clear", desc := "()V" } : Jvm.MethodName) ({ cls := "UseOnceMachine$Code", name := "clear", desc := "()V" } : Jvm.MethodName)) ∈ Tb := tb2 7 rfl rfl
theorem w_310 : (Jvm.Cond.code ({ cls := "UseOnceMachine$Code", name := "clear", desc := "()V" } : Jvm.MethodName) prog_2_method_2_code (1 : Nat) (Option.none : Option Jvm.ClassFile.FieldType)) ∈ Tb := tb2 8 rfl rfl
theorem w_311 : (Jvm.Cond.methodLink "UseOnceMachine$Code" (18 : Nat) ({ cls := "java/util/Arrays", name := "fill", desc := "([II)V" } : Jvm.MethodName)) ∈ Tb := tb2 9 rfl rfl
theorem w_312 : (Jvm.Cond.methodLink "UseOnceMachineLaw" (23 : Nat) ({ cls := "UseOnceMachine", name := "step", desc := "(I)I" } : Jvm.MethodName)) ∈ Tb := tb2 10 rfl rfl
theorem w_313 : (Jvm.Cond.instanceMethod ({ cls := "UseOnceMachine", name := "step", desc := "(I)I" } : Jvm.MethodName)) ∈ Tb := tb2 11 rfl rfl
theorem w_314 : (Jvm.Cond.selects "UseOnceMachine" ({ cls := "UseOnceMachine", name := "step", desc := "(I)I" } : Jvm.MethodName) ({ cls := "UseOnceMachine", name := "step", desc := "(I)I" } : Jvm.MethodName)) ∈ Tb := tb2 12 rfl rfl
theorem w_315 : (Jvm.Cond.code ({ cls := "UseOnceMachine", name := "step", desc := "(I)I" } : Jvm.MethodName) prog_1_method_4_code (3 : Nat) (Option.some Jvm.ClassFile.FieldType.int)) ∈ Tb := tb2 13 rfl rfl
theorem w_316 : (Jvm.Cond.methodLink "UseOnceMachine" (82 : Nat) ({ cls := "UseOnceMachine$History", name := "keep", desc := "(LUseOnceMachine$State;)V" } : Jvm.MethodName)) ∈ Tb := tb2 14 rfl rfl
theorem w_317 : (Jvm.Cond.instanceMethod ({ cls := "UseOnceMachine$History", name := "keep", desc := "(LUseOnceMachine$State;)V" } : Jvm.MethodName)) ∈ Tb := tb2 15 rfl rfl
theorem w_318 : (Jvm.Cond.selects "UseOnceMachine$History" ({ cls := "UseOnceMachine$History", name := "keep", desc := "(LUseOnceMachine$State;)V" } : Jvm.MethodName) ({ cls := "UseOnceMachine$History", name := "keep", desc := "(LUseOnceMachine$State;)V" } : Jvm.MethodName)) ∈ Tb := tb2 16 rfl rfl
theorem w_319 : (Jvm.Cond.code ({ cls := "UseOnceMachine$History", name := "keep", desc := "(LUseOnceMachine$State;)V" } : Jvm.MethodName) prog_3_method_3_code (3 : Nat) (Option.none : Option Jvm.ClassFile.FieldType)) ∈ Tb := tb2 17 rfl rfl
theorem w_321 : (Jvm.Cond.methodLink "UseOnceMachine$History" (25 : Nat) ({ cls := "UseOnceMachine$State", name := "copyFrom", desc := "(LUseOnceMachine$State;)V" } : Jvm.MethodName)) ∈ Tb := tb2 19 rfl rfl
theorem w_322 : (Jvm.Cond.instanceMethod ({ cls := "UseOnceMachine$State", name := "copyFrom", desc := "(LUseOnceMachine$State;)V" } : Jvm.MethodName)) ∈ Tb := tb2 20 rfl rfl
theorem w_323 : (Jvm.Cond.selects "UseOnceMachine$State" ({ cls := "UseOnceMachine$State", name := "copyFrom", desc := "(LUseOnceMachine$State;)V" } : Jvm.MethodName) ({ cls := "UseOnceMachine$State", name := "copyFrom", desc := "(LUseOnceMachine$State;)V" } : Jvm.MethodName)) ∈ Tb := tb2 21 rfl rfl
theorem w_324 : (Jvm.Cond.code ({ cls := "UseOnceMachine$State", name := "copyFrom", desc := "(LUseOnceMachine$State;)V" } : Jvm.MethodName) prog_7_method_3_code (2 : Nat) (Option.none : Option Jvm.ClassFile.FieldType)) ∈ Tb := tb2 22 rfl rfl
theorem w_325 : (Jvm.Cond.methodLink "UseOnceMachine$State" (70 : Nat) ({ cls := "java/lang/System", name := "arraycopy", desc := "(Ljava/lang/Object;ILjava/lang/Object;II)V" } : Jvm.MethodName)) ∈ Tb := tb2 23 rfl rfl
theorem w_326 : (Jvm.Cond.static ({ cls := "java/lang/System", name := "arraycopy", desc := "(Ljava/lang/Object;ILjava/lang/Object;II)V" } : Jvm.MethodName)) ∈ Tb := tb2 24 rfl rfl
theorem w_327 : (Jvm.Cond.native ({ cls := "java/lang/System", name := "arraycopy", desc := "(Ljava/lang/Object;ILjava/lang/Object;II)V" } : Jvm.MethodName)) ∈ Tb := tb2 25 rfl rfl
theorem w_328 : (Jvm.Cond.methodLink "UseOnceMachine$History" (29 : Nat) ({ cls := "java/lang/Math", name := "min", desc := "(II)I" } : Jvm.MethodName)) ∈ Tb := tb2 26 rfl rfl
theorem w_329 : (Jvm.Cond.static ({ cls := "java/lang/Math", name := "min", desc := "(II)I" } : Jvm.MethodName)) ∈ Tb := tb2 27 rfl rfl
theorem w_330 : (Jvm.Cond.code ({ cls := "java/lang/Math", name := "min", desc := "(II)I" } : Jvm.MethodName) prog_12_method_69_code (2 : Nat) (Option.some Jvm.ClassFile.FieldType.int)) ∈ Tb := tb2 28 rfl rfl
theorem w_331 : (Jvm.Cond.methodLink "UseOnceMachine" (85 : Nat) ({ cls := "UseOnceMachine$Processor", name := "runOne", desc := "()V" } : Jvm.MethodName)) ∈ Tb := tb2 29 rfl rfl
theorem w_332 : (Jvm.Cond.instanceMethod ({ cls := "UseOnceMachine$Processor", name := "runOne", desc := "()V" } : Jvm.MethodName)) ∈ Tb := tb2 30 rfl rfl
theorem w_333 : (Jvm.Cond.selects "UseOnceMachine$Processor" ({ cls := "UseOnceMachine$Processor", name := "runOne", desc := "()V" } : Jvm.MethodName) ({ cls := "UseOnceMachine$Processor", name := "runOne", desc := "()V" } : Jvm.MethodName)) ∈ Tb := tb2 31 rfl rfl
theorem w_334 : (Jvm.Cond.code ({ cls := "UseOnceMachine$Processor", name := "runOne", desc := "()V" } : Jvm.MethodName) prog_5_method_2_code (2 : Nat) (Option.none : Option Jvm.ClassFile.FieldType)) ∈ Tb := tb2 32 rfl rfl
theorem w_335 : (Jvm.Cond.methodLink "UseOnceMachine$Processor" (32 : Nat) ({ cls := "UseOnceMachine$Processor", name := "fetch", desc := "()Z" } : Jvm.MethodName)) ∈ Tb := tb2 33 rfl rfl
theorem w_337 : (Jvm.Cond.instanceMethod ({ cls := "UseOnceMachine$Processor", name := "fetch", desc := "()Z" } : Jvm.MethodName)) ∈ Tb := tb2 35 rfl rfl
theorem w_338 : (Jvm.Cond.code ({ cls := "UseOnceMachine$Processor", name := "fetch", desc := "()Z" } : Jvm.MethodName) prog_5_method_3_code (1 : Nat) (Option.some Jvm.ClassFile.FieldType.boolean)) ∈ Tb := tb2 36 rfl rfl
theorem w_339 : (Jvm.Cond.methodLink "UseOnceMachine$Processor" (57 : Nat) ({ cls := "UseOnceMachine$Code", name := "part", desc := "(III)I" } : Jvm.MethodName)) ∈ Tb := tb2 37 rfl rfl
theorem w_340 : (Jvm.Cond.instanceMethod ({ cls := "UseOnceMachine$Code", name := "part", desc := "(III)I" } : Jvm.MethodName)) ∈ Tb := tb2 38 rfl rfl
theorem w_341 : (Jvm.Cond.selects "UseOnceMachine$Code" ({ cls := "UseOnceMachine$Code", name := "part", desc := "(III)I" } : Jvm.MethodName) ({ cls := "UseOnceMachine$Code", name := "part", desc := "(III)I" } : Jvm.MethodName)) ∈ Tb := tb2 39 rfl rfl
theorem w_342 : (Jvm.Cond.code ({ cls := "UseOnceMachine$Code", name := "part", desc := "(III)I" } : Jvm.MethodName) prog_2_method_6_code (4 : Nat) (Option.some Jvm.ClassFile.FieldType.int)) ∈ Tb := tb2 40 rfl rfl
theorem w_343 : (Jvm.Cond.methodLink "UseOnceMachine$Code" (28 : Nat) ({ cls := "UseOnceMachine$Code", name := "has", desc := "(II)Z" } : Jvm.MethodName)) ∈ Tb := tb2 41 rfl rfl
theorem w_344 : (Jvm.Cond.instanceMethod ({ cls := "UseOnceMachine$Code", name := "has", desc := "(II)Z" } : Jvm.MethodName)) ∈ Tb := tb2 42 rfl rfl
theorem w_345 : (Jvm.Cond.selects "UseOnceMachine$Code" ({ cls := "UseOnceMachine$Code", name := "has", desc := "(II)Z" } : Jvm.MethodName) ({ cls := "UseOnceMachine$Code", name := "has", desc := "(II)Z" } : Jvm.MethodName)) ∈ Tb := tb2 43 rfl rfl
theorem w_346 : (Jvm.Cond.code ({ cls := "UseOnceMachine$Code", name := "has", desc := "(II)Z" } : Jvm.MethodName) prog_2_method_5_code (3 : Nat) (Option.some Jvm.ClassFile.FieldType.boolean)) ∈ Tb := tb2 44 rfl rfl
theorem w_347 : (Jvm.Cond.methodLink "UseOnceMachine$Code" (24 : Nat) ({ cls := "UseOnceMachine$Code", name := "size", desc := "(I)I" } : Jvm.MethodName)) ∈ Tb := tb2 45 rfl rfl
theorem w_348 : (Jvm.Cond.instanceMethod ({ cls := "UseOnceMachine$Code", name := "size", desc := "(I)I" } : Jvm.MethodName)) ∈ Tb := tb2 46 rfl rfl
theorem w_349 : (Jvm.Cond.selects "UseOnceMachine$Code" ({ cls := "UseOnceMachine$Code", name := "size", desc := "(I)I" } : Jvm.MethodName) ({ cls := "UseOnceMachine$Code", name := "size", desc := "(I)I" } : Jvm.MethodName)) ∈ Tb := tb2 47 rfl rfl
theorem w_350 : (Jvm.Cond.code ({ cls := "UseOnceMachine$Code", name := "size", desc := "(I)I" } : Jvm.MethodName) prog_2_method_3_code (2 : Nat) (Option.some Jvm.ClassFile.FieldType.int)) ∈ Tb := tb2 48 rfl rfl
theorem w_351 : (Jvm.Cond.methodLink "UseOnceMachine$Processor" (63 : Nat) ({ cls := "UseOnceMachine$Code", name := "has", desc := "(II)Z" } : Jvm.MethodName)) ∈ Tb := tb2 49 rfl rfl
theorem w_352 : (Jvm.Cond.methodLink "UseOnceMachine$Processor" (36 : Nat) ({ cls := "UseOnceMachine$Processor", name := "isWellFormed", desc := "()Z" } : Jvm.MethodName)) ∈ Tb := tb2 50 rfl rfl
theorem w_354 : (Jvm.Cond.instanceMethod ({ cls := "UseOnceMachine$Processor", name := "isWellFormed", desc := "()Z" } : Jvm.MethodName)) ∈ Tb := tb2 52 rfl rfl
theorem w_355 : (Jvm.Cond.code ({ cls := "UseOnceMachine$Processor", name := "isWellFormed", desc := "()Z" } : Jvm.MethodName) prog_5_method_4_code (1 : Nat) (Option.some Jvm.ClassFile.FieldType.boolean)) ∈ Tb := tb2 53 rfl rfl
theorem w_356 : (Jvm.Cond.fieldLink "UseOnceMachine$Processor" (67 : Nat) "UseOnceMachine$Processor" "NAMED" "[I") ∈ Tb := tb2 54 rfl rfl
theorem w_358 : (Jvm.Cond.methodLink "UseOnceMachine$Processor" (71 : Nat) ({ cls := "UseOnceMachine$Processor", name := "isRegister", desc := "(I)Z" } : Jvm.MethodName)) ∈ Tb := tb2 56 rfl rfl
theorem w_359 : (Jvm.Cond.static ({ cls := "UseOnceMachine$Processor", name := "isRegister", desc := "(I)Z" } : Jvm.MethodName)) ∈ Tb := tb2 57 rfl rfl
theorem w_360 : (Jvm.Cond.code ({ cls := "UseOnceMachine$Processor", name := "isRegister", desc := "(I)Z" } : Jvm.MethodName) prog_5_method_5_code (1 : Nat) (Option.some Jvm.ClassFile.FieldType.boolean)) ∈ Tb := tb2 58 rfl rfl
theorem w_361 : (Jvm.Cond.methodLink "UseOnceMachine$Processor" (39 : Nat) ({ cls := "UseOnceMachine$Processor", name := "perform", desc := "()I" } : Jvm.MethodName)) ∈ Tb := tb2 59 rfl rfl
theorem w_363 : (Jvm.Cond.instanceMethod ({ cls := "UseOnceMachine$Processor", name := "perform", desc := "()I" } : Jvm.MethodName)) ∈ Tb := tb2 61 rfl rfl
theorem w_364 : (Jvm.Cond.code ({ cls := "UseOnceMachine$Processor", name := "perform", desc := "()I" } : Jvm.MethodName) prog_5_method_6_code (1 : Nat) (Option.some Jvm.ClassFile.FieldType.int)) ∈ Tb := tb2 62 rfl rfl
theorem w_365 : (Jvm.Cond.methodLink "UseOnceMachine$Processor" (75 : Nat) ({ cls := "UseOnceMachine$Processor", name := "setNumber", desc := "()I" } : Jvm.MethodName)) ∈ Tb := tb2 63 rfl rfl
theorem w_367 : (Jvm.Cond.instanceMethod ({ cls := "UseOnceMachine$Processor", name := "setNumber", desc := "()I" } : Jvm.MethodName)) ∈ Tb := tb2 65 rfl rfl
theorem w_368 : (Jvm.Cond.code ({ cls := "UseOnceMachine$Processor", name := "setNumber", desc := "()I" } : Jvm.MethodName) prog_5_method_12_code (1 : Nat) (Option.some Jvm.ClassFile.FieldType.int)) ∈ Tb := tb2 66 rfl rfl
theorem w_369 : (Jvm.Cond.methodLink "UseOnceMachine$Processor" (144 : Nat) ({ cls := "UseOnceMachine$Processor", name := "isFull", desc := "(I)Z" } : Jvm.MethodName)) ∈ Tb := tb2 67 rfl rfl
theorem w_371 : (Jvm.Cond.instanceMethod ({ cls := "UseOnceMachine$Processor", name := "isFull", desc := "(I)Z" } : Jvm.MethodName)) ∈ Tb := tb2 69 rfl rfl
theorem w_372 : (Jvm.Cond.code ({ cls := "UseOnceMachine$Processor", name := "isFull", desc := "(I)Z" } : Jvm.MethodName) prog_5_method_9_code (2 : Nat) (Option.some Jvm.ClassFile.FieldType.boolean)) ∈ Tb := tb2 70 rfl rfl
theorem w_373 : (Jvm.Cond.methodLink "UseOnceMachine$Processor" (130 : Nat) ({ cls := "UseOnceMachine$State", name := "held", desc := "(I)J" } : Jvm.MethodName)) ∈ Tb := tb2 71 rfl rfl
theorem w_374 : (Jvm.Cond.instanceMethod ({ cls := "UseOnceMachine$State", name := "held", desc := "(I)J" } : Jvm.MethodName)) ∈ Tb := tb2 72 rfl rfl
theorem w_375 : (Jvm.Cond.selects "UseOnceMachine$State" ({ cls := "UseOnceMachine$State", name := "held", desc := "(I)J" } : Jvm.MethodName) ({ cls := "UseOnceMachine$State", name := "held", desc := "(I)J" } : Jvm.MethodName)) ∈ Tb := tb2 73 rfl rfl
theorem w_376 : (Jvm.Cond.code ({ cls := "UseOnceMachine$State", name := "held", desc := "(I)J" } : Jvm.MethodName) prog_7_method_4_code (2 : Nat) (Option.some Jvm.ClassFile.FieldType.long)) ∈ Tb := tb2 74 rfl rfl
theorem w_377 : (Jvm.Cond.methodLink "UseOnceMachine$Processor" (134 : Nat) ({ cls := "UseOnceMachine$Value", name := "isNumber", desc := "(J)Z" } : Jvm.MethodName)) ∈ Tb := tb2 75 rfl rfl
theorem w_378 : (Jvm.Cond.static ({ cls := "UseOnceMachine$Value", name := "isNumber", desc := "(J)Z" } : Jvm.MethodName)) ∈ Tb := tb2 76 rfl rfl
theorem w_379 : (Jvm.Cond.code ({ cls := "UseOnceMachine$Value", name := "isNumber", desc := "(J)Z" } : Jvm.MethodName) prog_8_method_12_code (2 : Nat) (Option.some Jvm.ClassFile.FieldType.boolean)) ∈ Tb := tb2 77 rfl rfl
theorem w_380 : (Jvm.Cond.methodLink "UseOnceMachine$Value" (17 : Nat) ({ cls := "UseOnceMachine$Value", name := "kind", desc := "(J)I" } : Jvm.MethodName)) ∈ Tb := tb2 78 rfl rfl
theorem w_381 : (Jvm.Cond.static ({ cls := "UseOnceMachine$Value", name := "kind", desc := "(J)I" } : Jvm.MethodName)) ∈ Tb := tb2 79 rfl rfl
theorem w_382 : (Jvm.Cond.code ({ cls := "UseOnceMachine$Value", name := "kind", desc := "(J)I" } : Jvm.MethodName) prog_8_method_7_code (2 : Nat) (Option.some Jvm.ClassFile.FieldType.int)) ∈ Tb := tb2 80 rfl rfl
theorem w_383 : (Jvm.Cond.methodLink "UseOnceMachine$Processor" (147 : Nat) ({ cls := "UseOnceMachine$Value", name := "number", desc := "(I)J" } : Jvm.MethodName)) ∈ Tb := tb2 81 rfl rfl
theorem w_384 : (Jvm.Cond.static ({ cls := "UseOnceMachine$Value", name := "number", desc := "(I)J" } : Jvm.MethodName)) ∈ Tb := tb2 82 rfl rfl
theorem w_385 : (Jvm.Cond.code ({ cls := "UseOnceMachine$Value", name := "number", desc := "(I)J" } : Jvm.MethodName) prog_8_method_2_code (1 : Nat) (Option.some Jvm.ClassFile.FieldType.long)) ∈ Tb := tb2 83 rfl rfl
theorem w_386 : (Jvm.Cond.constantLong "UseOnceMachine$Value" (9 : Nat) (4294967295 : Int64)) ∈ Tb := tb2 84 rfl rfl
theorem w_387 : (Jvm.Cond.methodLink "UseOnceMachine$Processor" (150 : Nat) ({ cls := "UseOnceMachine$State", name := "put", desc := "(IJ)V" } : Jvm.MethodName)) ∈ Tb := tb2 85 rfl rfl
theorem w_388 : (Jvm.Cond.methodLink "UseOnceMachine$Processor" (154 : Nat) ({ cls := "UseOnceMachine$Processor", name := "goOn", desc := "()I" } : Jvm.MethodName)) ∈ Tb := tb2 86 rfl rfl
theorem w_390 : (Jvm.Cond.instanceMethod ({ cls := "UseOnceMachine$Processor", name := "goOn", desc := "()I" } : Jvm.MethodName)) ∈ Tb := tb2 88 rfl rfl
theorem w_391 : (Jvm.Cond.code ({ cls := "UseOnceMachine$Processor", name := "goOn", desc := "()I" } : Jvm.MethodName) prog_5_method_7_code (1 : Nat) (Option.some Jvm.ClassFile.FieldType.int)) ∈ Tb := tb2 89 rfl rfl
theorem w_392 : (Jvm.Cond.methodLink "UseOnceMachine$Processor" (109 : Nat) ({ cls := "UseOnceMachine$Processor", name := "goOnAt", desc := "(I)I" } : Jvm.MethodName)) ∈ Tb := tb2 90 rfl rfl
theorem w_394 : (Jvm.Cond.instanceMethod ({ cls := "UseOnceMachine$Processor", name := "goOnAt", desc := "(I)I" } : Jvm.MethodName)) ∈ Tb := tb2 92 rfl rfl
theorem w_395 : (Jvm.Cond.code ({ cls := "UseOnceMachine$Processor", name := "goOnAt", desc := "(I)I" } : Jvm.MethodName) prog_5_method_8_code (2 : Nat) (Option.some Jvm.ClassFile.FieldType.int)) ∈ Tb := tb2 93 rfl rfl
theorem w_396 : (Jvm.Cond.methodLink "UseOnceMachine$Processor" (78 : Nat) ({ cls := "UseOnceMachine$Processor", name := "move", desc := "()I" } : Jvm.MethodName)) ∈ Tb := tb2 94 rfl rfl
theorem w_398 : (Jvm.Cond.instanceMethod ({ cls := "UseOnceMachine$Processor", name := "move", desc := "()I" } : Jvm.MethodName)) ∈ Tb := tb2 96 rfl rfl
theorem w_399 : (Jvm.Cond.code ({ cls := "UseOnceMachine$Processor", name := "move", desc := "()I" } : Jvm.MethodName) prog_5_method_13_code (1 : Nat) (Option.some Jvm.ClassFile.FieldType.int)) ∈ Tb := tb2 97 rfl rfl
theorem w_400 : (Jvm.Cond.methodLink "UseOnceMachine$Processor" (157 : Nat) ({ cls := "UseOnceMachine$State", name := "assign", desc := "(II)V" } : Jvm.MethodName)) ∈ Tb := tb2 98 rfl rfl
theorem w_401 : (Jvm.Cond.instanceMethod ({ cls := "UseOnceMachine$State", name := "assign", desc := "(II)V" } : Jvm.MethodName)) ∈ Tb := tb2 99 rfl rfl
theorem w_402 : (Jvm.Cond.selects "UseOnceMachine$State" ({ cls := "UseOnceMachine$State", name := "assign", desc := "(II)V" } : Jvm.MethodName) ({ cls := "UseOnceMachine$State", name := "assign", desc := "(II)V" } : Jvm.MethodName)) ∈ Tb := tb2 100 rfl rfl
theorem w_403 : (Jvm.Cond.code ({ cls := "UseOnceMachine$State", name := "assign", desc := "(II)V" } : Jvm.MethodName) prog_7_method_7_code (5 : Nat) (Option.none : Option Jvm.ClassFile.FieldType)) ∈ Tb := tb2 101 rfl rfl
theorem w_404 : (Jvm.Cond.methodLink "UseOnceMachine$State" (76 : Nat) ({ cls := "UseOnceMachine$State", name := "held", desc := "(I)J" } : Jvm.MethodName)) ∈ Tb := tb2 102 rfl rfl
theorem w_405 : (Jvm.Cond.methodLink "UseOnceMachine$State" (84 : Nat) ({ cls := "UseOnceMachine$Value", name := "isMoved", desc := "(J)Z" } : Jvm.MethodName)) ∈ Tb := tb2 103 rfl rfl
theorem w_406 : (Jvm.Cond.static ({ cls := "UseOnceMachine$Value", name := "isMoved", desc := "(J)Z" } : Jvm.MethodName)) ∈ Tb := tb2 104 rfl rfl
theorem w_407 : (Jvm.Cond.code ({ cls := "UseOnceMachine$Value", name := "isMoved", desc := "(J)Z" } : Jvm.MethodName) prog_8_method_14_code (2 : Nat) (Option.some Jvm.ClassFile.FieldType.boolean)) ∈ Tb := tb2 105 rfl rfl
theorem w_408 : (Jvm.Cond.methodLink "UseOnceMachine$State" (88 : Nat) ({ cls := "UseOnceMachine$State", name := "carry", desc := "(II)V" } : Jvm.MethodName)) ∈ Tb := tb2 106 rfl rfl
theorem w_409 : (Jvm.Cond.instanceMethod ({ cls := "UseOnceMachine$State", name := "carry", desc := "(II)V" } : Jvm.MethodName)) ∈ Tb := tb2 107 rfl rfl
theorem w_410 : (Jvm.Cond.selects "UseOnceMachine$State" ({ cls := "UseOnceMachine$State", name := "carry", desc := "(II)V" } : Jvm.MethodName) ({ cls := "UseOnceMachine$State", name := "carry", desc := "(II)V" } : Jvm.MethodName)) ∈ Tb := tb2 108 rfl rfl
theorem w_411 : (Jvm.Cond.code ({ cls := "UseOnceMachine$State", name := "carry", desc := "(II)V" } : Jvm.MethodName) prog_7_method_6_code (3 : Nat) (Option.none : Option Jvm.ClassFile.FieldType)) ∈ Tb := tb2 109 rfl rfl
theorem w_412 : (Jvm.Cond.methodLink "UseOnceMachine$State" (80 : Nat) ({ cls := "UseOnceMachine$State", name := "put", desc := "(IJ)V" } : Jvm.MethodName)) ∈ Tb := tb2 110 rfl rfl
theorem w_413 : (Jvm.Cond.methodLink "UseOnceMachine$State" (92 : Nat) ({ cls := "UseOnceMachine$Value", name := "kind", desc := "(J)I" } : Jvm.MethodName)) ∈ Tb := tb2 111 rfl rfl
theorem w_414 : (Jvm.Cond.methodLink "UseOnceMachine$State" (96 : Nat) ({ cls := "UseOnceMachine$Value", name := "link", desc := "(J)I" } : Jvm.MethodName)) ∈ Tb := tb2 112 rfl rfl
theorem w_415 : (Jvm.Cond.static ({ cls := "UseOnceMachine$Value", name := "link", desc := "(J)I" } : Jvm.MethodName)) ∈ Tb := tb2 113 rfl rfl
theorem w_416 : (Jvm.Cond.code ({ cls := "UseOnceMachine$Value", name := "link", desc := "(J)I" } : Jvm.MethodName) prog_8_method_11_code (2 : Nat) (Option.some Jvm.ClassFile.FieldType.int)) ∈ Tb := tb2 114 rfl rfl
theorem w_417 : (Jvm.Cond.methodLink "UseOnceMachine$State" (99 : Nat) ({ cls := "UseOnceMachine$State", name := "addToCount", desc := "(II)V" } : Jvm.MethodName)) ∈ Tb := tb2 115 rfl rfl
theorem w_418 : (Jvm.Cond.instanceMethod ({ cls := "UseOnceMachine$State", name := "addToCount", desc := "(II)V" } : Jvm.MethodName)) ∈ Tb := tb2 116 rfl rfl
theorem w_419 : (Jvm.Cond.selects "UseOnceMachine$State" ({ cls := "UseOnceMachine$State", name := "addToCount", desc := "(II)V" } : Jvm.MethodName) ({ cls := "UseOnceMachine$State", name := "addToCount", desc := "(II)V" } : Jvm.MethodName)) ∈ Tb := tb2 117 rfl rfl
theorem w_420 : (Jvm.Cond.code ({ cls := "UseOnceMachine$State", name := "addToCount", desc := "(II)V" } : Jvm.MethodName) prog_7_method_9_code (3 : Nat) (Option.none : Option Jvm.ClassFile.FieldType)) ∈ Tb := tb2 118 rfl rfl
theorem w_421 : (Jvm.Cond.methodLink "UseOnceMachine$Processor" (81 : Nat) ({ cls := "UseOnceMachine$Processor", name := "add", desc := "(I)I" } : Jvm.MethodName)) ∈ Tb := tb2 119 rfl rfl
theorem w_423 : (Jvm.Cond.instanceMethod ({ cls := "UseOnceMachine$Processor", name := "add", desc := "(I)I" } : Jvm.MethodName)) ∈ Tb := tb2 121 rfl rfl
theorem w_424 : (Jvm.Cond.code ({ cls := "UseOnceMachine$Processor", name := "add", desc := "(I)I" } : Jvm.MethodName) prog_5_method_14_code (2 : Nat) (Option.some Jvm.ClassFile.FieldType.int)) ∈ Tb := tb2 122 rfl rfl
theorem w_425 : (Jvm.Cond.methodLink "UseOnceMachine$Processor" (85 : Nat) ({ cls := "UseOnceMachine$Processor", name := "split", desc := "()I" } : Jvm.MethodName)) ∈ Tb := tb2 123 rfl rfl
theorem w_427 : (Jvm.Cond.instanceMethod ({ cls := "UseOnceMachine$Processor", name := "split", desc := "()I" } : Jvm.MethodName)) ∈ Tb := tb2 125 rfl rfl
theorem w_428 : (Jvm.Cond.code ({ cls := "UseOnceMachine$Processor", name := "split", desc := "()I" } : Jvm.MethodName) prog_5_method_15_code (4 : Nat) (Option.some Jvm.ClassFile.FieldType.int)) ∈ Tb := tb2 126 rfl rfl
theorem w_429 : (Jvm.Cond.methodLink "UseOnceMachine$Processor" (161 : Nat) ({ cls := "UseOnceMachine$Processor", name := "isExclusive", desc := "(I)Z" } : Jvm.MethodName)) ∈ Tb := tb2 127 rfl rfl
theorem w_431 : (Jvm.Cond.instanceMethod ({ cls := "UseOnceMachine$Processor", name := "isExclusive", desc := "(I)Z" } : Jvm.MethodName)) ∈ Tb := tb2 129 rfl rfl
theorem w_432 : (Jvm.Cond.code ({ cls := "UseOnceMachine$Processor", name := "isExclusive", desc := "(I)Z" } : Jvm.MethodName) prog_5_method_10_code (2 : Nat) (Option.some Jvm.ClassFile.FieldType.boolean)) ∈ Tb := tb2 130 rfl rfl
theorem w_433 : (Jvm.Cond.methodLink "UseOnceMachine$Processor" (140 : Nat) ({ cls := "UseOnceMachine$Value", name := "kind", desc := "(J)I" } : Jvm.MethodName)) ∈ Tb := tb2 131 rfl rfl
theorem w_434 : (Jvm.Cond.methodLink "UseOnceMachine$Processor" (164 : Nat) ({ cls := "UseOnceMachine$Value", name := "length", desc := "(J)I" } : Jvm.MethodName)) ∈ Tb := tb2 132 rfl rfl
theorem w_435 : (Jvm.Cond.static ({ cls := "UseOnceMachine$Value", name := "length", desc := "(J)I" } : Jvm.MethodName)) ∈ Tb := tb2 133 rfl rfl
theorem w_436 : (Jvm.Cond.code ({ cls := "UseOnceMachine$Value", name := "length", desc := "(J)I" } : Jvm.MethodName) prog_8_method_17_code (2 : Nat) (Option.some Jvm.ClassFile.FieldType.int)) ∈ Tb := tb2 134 rfl rfl
theorem w_437 : (Jvm.Cond.methodLink "UseOnceMachine$Value" (31 : Nat) ({ cls := "UseOnceMachine$Value", name := "end", desc := "(J)I" } : Jvm.MethodName)) ∈ Tb := tb2 135 rfl rfl
theorem w_438 : (Jvm.Cond.static ({ cls := "UseOnceMachine$Value", name := "end", desc := "(J)I" } : Jvm.MethodName)) ∈ Tb := tb2 136 rfl rfl
theorem w_439 : (Jvm.Cond.code ({ cls := "UseOnceMachine$Value", name := "end", desc := "(J)I" } : Jvm.MethodName) prog_8_method_9_code (2 : Nat) (Option.some Jvm.ClassFile.FieldType.int)) ∈ Tb := tb2 137 rfl rfl
theorem w_440 : (Jvm.Cond.methodLink "UseOnceMachine$Value" (28 : Nat) ({ cls := "UseOnceMachine$Value", name := "from", desc := "(J)I" } : Jvm.MethodName)) ∈ Tb := tb2 138 rfl rfl
theorem w_441 : (Jvm.Cond.static ({ cls := "UseOnceMachine$Value", name := "from", desc := "(J)I" } : Jvm.MethodName)) ∈ Tb := tb2 139 rfl rfl
theorem w_442 : (Jvm.Cond.code ({ cls := "UseOnceMachine$Value", name := "from", desc := "(J)I" } : Jvm.MethodName) prog_8_method_8_code (2 : Nat) (Option.some Jvm.ClassFile.FieldType.int)) ∈ Tb := tb2 140 rfl rfl
theorem w_443 : (Jvm.Cond.methodLink "UseOnceMachine$Processor" (167 : Nat) ({ cls := "UseOnceMachine$Value", name := "from", desc := "(J)I" } : Jvm.MethodName)) ∈ Tb := tb2 141 rfl rfl
theorem w_444 : (Jvm.Cond.methodLink "UseOnceMachine$Processor" (170 : Nat) ({ cls := "UseOnceMachine$Value", name := "rights", desc := "(J)I" } : Jvm.MethodName)) ∈ Tb := tb2 142 rfl rfl
theorem w_445 : (Jvm.Cond.static ({ cls := "UseOnceMachine$Value", name := "rights", desc := "(J)I" } : Jvm.MethodName)) ∈ Tb := tb2 143 rfl rfl
theorem w_446 : (Jvm.Cond.code ({ cls := "UseOnceMachine$Value", name := "rights", desc := "(J)I" } : Jvm.MethodName) prog_8_method_10_code (2 : Nat) (Option.some Jvm.ClassFile.FieldType.int)) ∈ Tb := tb2 144 rfl rfl
theorem w_447 : (Jvm.Cond.methodLink "UseOnceMachine$Processor" (173 : Nat) ({ cls := "UseOnceMachine$Value", name := "exclusive", desc := "(III)J" } : Jvm.MethodName)) ∈ Tb := tb2 145 rfl rfl
theorem w_448 : (Jvm.Cond.methodLink "UseOnceMachine$Processor" (177 : Nat) ({ cls := "UseOnceMachine$Value", name := "end", desc := "(J)I" } : Jvm.MethodName)) ∈ Tb := tb2 146 rfl rfl
theorem w_449 : (Jvm.Cond.methodLink "UseOnceMachine$Processor" (88 : Nat) ({ cls := "UseOnceMachine$Processor", name := "merge", desc := "()I" } : Jvm.MethodName)) ∈ Tb := tb2 147 rfl rfl
theorem w_451 : (Jvm.Cond.instanceMethod ({ cls := "UseOnceMachine$Processor", name := "merge", desc := "()I" } : Jvm.MethodName)) ∈ Tb := tb2 149 rfl rfl
theorem w_452 : (Jvm.Cond.code ({ cls := "UseOnceMachine$Processor", name := "merge", desc := "()I" } : Jvm.MethodName) prog_5_method_16_code (7 : Nat) (Option.some Jvm.ClassFile.FieldType.int)) ∈ Tb := tb2 150 rfl rfl
theorem w_453 : (Jvm.Cond.methodLink "UseOnceMachine$Processor" (180 : Nat) ({ cls := "UseOnceMachine$Processor", name := "haveJoinedRange", desc := "(JJ)Z" } : Jvm.MethodName)) ∈ Tb := tb2 151 rfl rfl
theorem w_454 : (Jvm.Cond.static ({ cls := "UseOnceMachine$Processor", name := "haveJoinedRange", desc := "(JJ)Z" } : Jvm.MethodName)) ∈ Tb := tb2 152 rfl rfl
theorem w_455 : (Jvm.Cond.code ({ cls := "UseOnceMachine$Processor", name := "haveJoinedRange", desc := "(JJ)Z" } : Jvm.MethodName) prog_5_method_17_code (5 : Nat) (Option.some Jvm.ClassFile.FieldType.boolean)) ∈ Tb := tb2 153 rfl rfl
theorem w_456 : (Jvm.Cond.methodLink "UseOnceMachine$Processor" (184 : Nat) ({ cls := "UseOnceMachine$Processor", name := "haveJoinedRights", desc := "(JJ)Z" } : Jvm.MethodName)) ∈ Tb := tb2 154 rfl rfl
theorem w_457 : (Jvm.Cond.static ({ cls := "UseOnceMachine$Processor", name := "haveJoinedRights", desc := "(JJ)Z" } : Jvm.MethodName)) ∈ Tb := tb2 155 rfl rfl
theorem w_458 : (Jvm.Cond.code ({ cls := "UseOnceMachine$Processor", name := "haveJoinedRights", desc := "(JJ)Z" } : Jvm.MethodName) prog_5_method_18_code (5 : Nat) (Option.some Jvm.ClassFile.FieldType.boolean)) ∈ Tb := tb2 156 rfl rfl
theorem w_459 : (Jvm.Cond.methodLink "UseOnceMachine$Processor" (187 : Nat) ({ cls := "java/lang/Math", name := "min", desc := "(II)I" } : Jvm.MethodName)) ∈ Tb := tb2 157 rfl rfl
theorem w_460 : (Jvm.Cond.methodLink "UseOnceMachine$Processor" (193 : Nat) ({ cls := "java/lang/Math", name := "max", desc := "(II)I" } : Jvm.MethodName)) ∈ Tb := tb2 158 rfl rfl
theorem w_461 : (Jvm.Cond.static ({ cls := "java/lang/Math", name := "max", desc := "(II)I" } : Jvm.MethodName)) ∈ Tb := tb2 159 rfl rfl
theorem w_462 : (Jvm.Cond.code ({ cls := "java/lang/Math", name := "max", desc := "(II)I" } : Jvm.MethodName) prog_12_method_65_code (2 : Nat) (Option.some Jvm.ClassFile.FieldType.int)) ∈ Tb := tb2 160 rfl rfl
theorem w_463 : (Jvm.Cond.methodLink "UseOnceMachine$Processor" (91 : Nat) ({ cls := "UseOnceMachine$Processor", name := "restrict", desc := "()I" } : Jvm.MethodName)) ∈ Tb := tb2 161 rfl rfl
theorem w_465 : (Jvm.Cond.instanceMethod ({ cls := "UseOnceMachine$Processor", name := "restrict", desc := "()I" } : Jvm.MethodName)) ∈ Tb := tb2 163 rfl rfl
theorem w_466 : (Jvm.Cond.code ({ cls := "UseOnceMachine$Processor", name := "restrict", desc := "()I" } : Jvm.MethodName) prog_5_method_19_code (5 : Nat) (Option.some Jvm.ClassFile.FieldType.int)) ∈ Tb := tb2 164 rfl rfl
theorem w_467 : (Jvm.Cond.methodLink "UseOnceMachine$Processor" (94 : Nat) ({ cls := "UseOnceMachine$Processor", name := "freeze", desc := "()I" } : Jvm.MethodName)) ∈ Tb := tb2 165 rfl rfl
theorem w_469 : (Jvm.Cond.instanceMethod ({ cls := "UseOnceMachine$Processor", name := "freeze", desc := "()I" } : Jvm.MethodName)) ∈ Tb := tb2 167 rfl rfl
theorem w_470 : (Jvm.Cond.code ({ cls := "UseOnceMachine$Processor", name := "freeze", desc := "()I" } : Jvm.MethodName) prog_5_method_20_code (4 : Nat) (Option.some Jvm.ClassFile.FieldType.int)) ∈ Tb := tb2 168 rfl rfl
theorem w_471 : (Jvm.Cond.methodLink "UseOnceMachine$Processor" (196 : Nat) ({ cls := "UseOnceMachine$State", name := "freeCell", desc := "()I" } : Jvm.MethodName)) ∈ Tb := tb2 169 rfl rfl
theorem w_472 : (Jvm.Cond.instanceMethod ({ cls := "UseOnceMachine$State", name := "freeCell", desc := "()I" } : Jvm.MethodName)) ∈ Tb := tb2 170 rfl rfl
theorem w_473 : (Jvm.Cond.selects "UseOnceMachine$State" ({ cls := "UseOnceMachine$State", name := "freeCell", desc := "()I" } : Jvm.MethodName) ({ cls := "UseOnceMachine$State", name := "freeCell", desc := "()I" } : Jvm.MethodName)) ∈ Tb := tb2 171 rfl rfl
theorem w_474 : (Jvm.Cond.code ({ cls := "UseOnceMachine$State", name := "freeCell", desc := "()I" } : Jvm.MethodName) prog_7_method_10_code (2 : Nat) (Option.some Jvm.ClassFile.FieldType.int)) ∈ Tb := tb2 172 rfl rfl
theorem w_475 : (Jvm.Cond.methodLink "UseOnceMachine$Processor" (199 : Nat) ({ cls := "UseOnceMachine$Value", name := "shared", desc := "(III)J" } : Jvm.MethodName)) ∈ Tb := tb2 173 rfl rfl
theorem w_476 : (Jvm.Cond.static ({ cls := "UseOnceMachine$Value", name := "shared", desc := "(III)J" } : Jvm.MethodName)) ∈ Tb := tb2 174 rfl rfl
theorem w_477 : (Jvm.Cond.code ({ cls := "UseOnceMachine$Value", name := "shared", desc := "(III)J" } : Jvm.MethodName) prog_8_method_4_code (3 : Nat) (Option.some Jvm.ClassFile.FieldType.long)) ∈ Tb := tb2 175 rfl rfl
theorem w_478 : (Jvm.Cond.methodLink "UseOnceMachine$Processor" (202 : Nat) ({ cls := "UseOnceMachine$State", name := "addToCount", desc := "(II)V" } : Jvm.MethodName)) ∈ Tb := tb2 176 rfl rfl
theorem w_479 : (Jvm.Cond.methodLink "UseOnceMachine$Processor" (97 : Nat) ({ cls := "UseOnceMachine$Processor", name := "thaw", desc := "()I" } : Jvm.MethodName)) ∈ Tb := tb2 177 rfl rfl
theorem w_481 : (Jvm.Cond.instanceMethod ({ cls := "UseOnceMachine$Processor", name := "thaw", desc := "()I" } : Jvm.MethodName)) ∈ Tb := tb2 179 rfl rfl
theorem w_482 : (Jvm.Cond.code ({ cls := "UseOnceMachine$Processor", name := "thaw", desc := "()I" } : Jvm.MethodName) prog_5_method_21_code (3 : Nat) (Option.some Jvm.ClassFile.FieldType.int)) ∈ Tb := tb2 180 rfl rfl
theorem w_483 : (Jvm.Cond.methodLink "UseOnceMachine$Processor" (205 : Nat) ({ cls := "UseOnceMachine$Processor", name := "isShared", desc := "(I)Z" } : Jvm.MethodName)) ∈ Tb := tb2 181 rfl rfl
theorem w_485 : (Jvm.Cond.instanceMethod ({ cls := "UseOnceMachine$Processor", name := "isShared", desc := "(I)Z" } : Jvm.MethodName)) ∈ Tb := tb2 183 rfl rfl
theorem w_486 : (Jvm.Cond.code ({ cls := "UseOnceMachine$Processor", name := "isShared", desc := "(I)Z" } : Jvm.MethodName) prog_5_method_11_code (2 : Nat) (Option.some Jvm.ClassFile.FieldType.boolean)) ∈ Tb := tb2 184 rfl rfl
theorem w_487 : (Jvm.Cond.methodLink "UseOnceMachine$Processor" (208 : Nat) ({ cls := "UseOnceMachine$Value", name := "link", desc := "(J)I" } : Jvm.MethodName)) ∈ Tb := tb2 185 rfl rfl
theorem w_488 : (Jvm.Cond.methodLink "UseOnceMachine$Processor" (211 : Nat) ({ cls := "UseOnceMachine$State", name := "countOf", desc := "(I)I" } : Jvm.MethodName)) ∈ Tb := tb2 186 rfl rfl
theorem w_489 : (Jvm.Cond.instanceMethod ({ cls := "UseOnceMachine$State", name := "countOf", desc := "(I)I" } : Jvm.MethodName)) ∈ Tb := tb2 187 rfl rfl
theorem w_490 : (Jvm.Cond.selects "UseOnceMachine$State" ({ cls := "UseOnceMachine$State", name := "countOf", desc := "(I)I" } : Jvm.MethodName) ({ cls := "UseOnceMachine$State", name := "countOf", desc := "(I)I" } : Jvm.MethodName)) ∈ Tb := tb2 188 rfl rfl
theorem w_491 : (Jvm.Cond.code ({ cls := "UseOnceMachine$State", name := "countOf", desc := "(I)I" } : Jvm.MethodName) prog_7_method_8_code (2 : Nat) (Option.some Jvm.ClassFile.FieldType.int)) ∈ Tb := tb2 189 rfl rfl
theorem w_492 : (Jvm.Cond.methodLink "UseOnceMachine$Processor" (100 : Nat) ({ cls := "UseOnceMachine$Processor", name := "drop", desc := "()I" } : Jvm.MethodName)) ∈ Tb := tb2 190 rfl rfl
theorem w_494 : (Jvm.Cond.instanceMethod ({ cls := "UseOnceMachine$Processor", name := "drop", desc := "()I" } : Jvm.MethodName)) ∈ Tb := tb2 192 rfl rfl
theorem w_495 : (Jvm.Cond.code ({ cls := "UseOnceMachine$Processor", name := "drop", desc := "()I" } : Jvm.MethodName) prog_5_method_22_code (2 : Nat) (Option.some Jvm.ClassFile.FieldType.int)) ∈ Tb := tb2 193 rfl rfl
theorem w_496 : (Jvm.Cond.methodLink "UseOnceMachine$Processor" (103 : Nat) ({ cls := "UseOnceMachine$Processor", name := "load", desc := "()I" } : Jvm.MethodName)) ∈ Tb := tb2 194 rfl rfl
theorem w_498 : (Jvm.Cond.instanceMethod ({ cls := "UseOnceMachine$Processor", name := "load", desc := "()I" } : Jvm.MethodName)) ∈ Tb := tb2 196 rfl rfl
theorem w_499 : (Jvm.Cond.code ({ cls := "UseOnceMachine$Processor", name := "load", desc := "()I" } : Jvm.MethodName) prog_5_method_23_code (4 : Nat) (Option.some Jvm.ClassFile.FieldType.int)) ∈ Tb := tb2 197 rfl rfl
theorem w_500 : (Jvm.Cond.methodLink "UseOnceMachine$Processor" (214 : Nat) ({ cls := "UseOnceMachine$Value", name := "isCapability", desc := "(J)Z" } : Jvm.MethodName)) ∈ Tb := tb2 198 rfl rfl
theorem w_501 : (Jvm.Cond.static ({ cls := "UseOnceMachine$Value", name := "isCapability", desc := "(J)Z" } : Jvm.MethodName)) ∈ Tb := tb2 199 rfl rfl
theorem w_502 : (Jvm.Cond.code ({ cls := "UseOnceMachine$Value", name := "isCapability", desc := "(J)Z" } : Jvm.MethodName) prog_8_method_13_code (2 : Nat) (Option.some Jvm.ClassFile.FieldType.boolean)) ∈ Tb := tb2 200 rfl rfl
theorem w_503 : (Jvm.Cond.methodLink "UseOnceMachine$Processor" (217 : Nat) ({ cls := "UseOnceMachine$Processor", name := "isInside", desc := "(J)Z" } : Jvm.MethodName)) ∈ Tb := tb2 201 rfl rfl
theorem w_505 : (Jvm.Cond.instanceMethod ({ cls := "UseOnceMachine$Processor", name := "isInside", desc := "(J)Z" } : Jvm.MethodName)) ∈ Tb := tb2 203 rfl rfl
theorem w_506 : (Jvm.Cond.code ({ cls := "UseOnceMachine$Processor", name := "isInside", desc := "(J)Z" } : Jvm.MethodName) prog_5_method_25_code (3 : Nat) (Option.some Jvm.ClassFile.FieldType.boolean)) ∈ Tb := tb2 204 rfl rfl
theorem w_507 : (Jvm.Cond.methodLink "UseOnceMachine$Processor" (220 : Nat) ({ cls := "UseOnceMachine$Value", name := "hasRight", desc := "(JI)Z" } : Jvm.MethodName)) ∈ Tb := tb2 205 rfl rfl
theorem w_508 : (Jvm.Cond.static ({ cls := "UseOnceMachine$Value", name := "hasRight", desc := "(JI)Z" } : Jvm.MethodName)) ∈ Tb := tb2 206 rfl rfl
theorem w_509 : (Jvm.Cond.code ({ cls := "UseOnceMachine$Value", name := "hasRight", desc := "(JI)Z" } : Jvm.MethodName) prog_8_method_15_code (3 : Nat) (Option.some Jvm.ClassFile.FieldType.boolean)) ∈ Tb := tb2 207 rfl rfl
theorem w_510 : (Jvm.Cond.methodLink "UseOnceMachine$Value" (21 : Nat) ({ cls := "UseOnceMachine$Value", name := "isCapability", desc := "(J)Z" } : Jvm.MethodName)) ∈ Tb := tb2 208 rfl rfl
theorem w_511 : (Jvm.Cond.methodLink "UseOnceMachine$Value" (25 : Nat) ({ cls := "UseOnceMachine$Value", name := "rights", desc := "(J)I" } : Jvm.MethodName)) ∈ Tb := tb2 209 rfl rfl
theorem w_512 : (Jvm.Cond.methodLink "UseOnceMachine$Processor" (224 : Nat) ({ cls := "UseOnceMachine$Value", name := "isMoved", desc := "(J)Z" } : Jvm.MethodName)) ∈ Tb := tb2 210 rfl rfl
theorem w_513 : (Jvm.Cond.methodLink "UseOnceMachine$Processor" (106 : Nat) ({ cls := "UseOnceMachine$Processor", name := "store", desc := "()I" } : Jvm.MethodName)) ∈ Tb := tb2 211 rfl rfl
theorem w_515 : (Jvm.Cond.instanceMethod ({ cls := "UseOnceMachine$Processor", name := "store", desc := "()I" } : Jvm.MethodName)) ∈ Tb := tb2 213 rfl rfl
theorem w_516 : (Jvm.Cond.code ({ cls := "UseOnceMachine$Processor", name := "store", desc := "()I" } : Jvm.MethodName) prog_5_method_24_code (4 : Nat) (Option.some Jvm.ClassFile.FieldType.int)) ∈ Tb := tb2 214 rfl rfl
theorem w_517 : (Jvm.Cond.methodLink "UseOnceMachine$Processor" (112 : Nat) ({ cls := "UseOnceMachine$Processor", name := "jumpIfZero", desc := "()I" } : Jvm.MethodName)) ∈ Tb := tb2 215 rfl rfl
theorem w_519 : (Jvm.Cond.instanceMethod ({ cls := "UseOnceMachine$Processor", name := "jumpIfZero", desc := "()I" } : Jvm.MethodName)) ∈ Tb := tb2 217 rfl rfl
theorem w_520 : (Jvm.Cond.code ({ cls := "UseOnceMachine$Processor", name := "jumpIfZero", desc := "()I" } : Jvm.MethodName) prog_5_method_26_code (1 : Nat) (Option.some Jvm.ClassFile.FieldType.int)) ∈ Tb := tb2 218 rfl rfl
theorem w_521 : (Jvm.Cond.methodLink "UseOnceMachine$Processor" (115 : Nat) ({ cls := "UseOnceMachine$Processor", name := "jumpIfLess", desc := "()I" } : Jvm.MethodName)) ∈ Tb := tb2 219 rfl rfl
theorem w_523 : (Jvm.Cond.instanceMethod ({ cls := "UseOnceMachine$Processor", name := "jumpIfLess", desc := "()I" } : Jvm.MethodName)) ∈ Tb := tb2 221 rfl rfl
theorem w_524 : (Jvm.Cond.code ({ cls := "UseOnceMachine$Processor", name := "jumpIfLess", desc := "()I" } : Jvm.MethodName) prog_5_method_27_code (1 : Nat) (Option.some Jvm.ClassFile.FieldType.int)) ∈ Tb := tb2 222 rfl rfl
theorem w_525 : (Jvm.Cond.methodLink "UseOnceMachine$Processor" (118 : Nat) ({ cls := "UseOnceMachine$Processor", name := "seal", desc := "()I" } : Jvm.MethodName)) ∈ Tb := tb2 223 rfl rfl
theorem w_527 : (Jvm.Cond.instanceMethod ({ cls := "UseOnceMachine$Processor", name := "seal", desc := "()I" } : Jvm.MethodName)) ∈ Tb := tb2 225 rfl rfl
theorem w_528 : (Jvm.Cond.code ({ cls := "UseOnceMachine$Processor", name := "seal", desc := "()I" } : Jvm.MethodName) prog_5_method_28_code (2 : Nat) (Option.some Jvm.ClassFile.FieldType.int)) ∈ Tb := tb2 226 rfl rfl
theorem w_529 : (Jvm.Cond.methodLink "UseOnceMachine$Processor" (227 : Nat) ({ cls := "UseOnceMachine$State", name := "freeGate", desc := "()I" } : Jvm.MethodName)) ∈ Tb := tb2 227 rfl rfl
theorem w_530 : (Jvm.Cond.instanceMethod ({ cls := "UseOnceMachine$State", name := "freeGate", desc := "()I" } : Jvm.MethodName)) ∈ Tb := tb2 228 rfl rfl
theorem w_531 : (Jvm.Cond.selects "UseOnceMachine$State" ({ cls := "UseOnceMachine$State", name := "freeGate", desc := "()I" } : Jvm.MethodName) ({ cls := "UseOnceMachine$State", name := "freeGate", desc := "()I" } : Jvm.MethodName)) ∈ Tb := tb2 229 rfl rfl
theorem w_532 : (Jvm.Cond.code ({ cls := "UseOnceMachine$State", name := "freeGate", desc := "()I" } : Jvm.MethodName) prog_7_method_11_code (2 : Nat) (Option.some Jvm.ClassFile.FieldType.int)) ∈ Tb := tb2 230 rfl rfl
theorem w_533 : (Jvm.Cond.methodLink "UseOnceMachine$Processor" (230 : Nat) ({ cls := "UseOnceMachine$State", name := "fillGate", desc := "(IIII)V" } : Jvm.MethodName)) ∈ Tb := tb2 231 rfl rfl
theorem w_534 : (Jvm.Cond.instanceMethod ({ cls := "UseOnceMachine$State", name := "fillGate", desc := "(IIII)V" } : Jvm.MethodName)) ∈ Tb := tb2 232 rfl rfl
theorem w_535 : (Jvm.Cond.selects "UseOnceMachine$State" ({ cls := "UseOnceMachine$State", name := "fillGate", desc := "(IIII)V" } : Jvm.MethodName) ({ cls := "UseOnceMachine$State", name := "fillGate", desc := "(IIII)V" } : Jvm.MethodName)) ∈ Tb := tb2 233 rfl rfl
theorem w_536 : (Jvm.Cond.code ({ cls := "UseOnceMachine$State", name := "fillGate", desc := "(IIII)V" } : Jvm.MethodName) prog_7_method_13_code (5 : Nat) (Option.none : Option Jvm.ClassFile.FieldType)) ∈ Tb := tb2 234 rfl rfl
theorem w_537 : (Jvm.Cond.methodLink "UseOnceMachine$Processor" (234 : Nat) ({ cls := "UseOnceMachine$Value", name := "seal", desc := "(I)J" } : Jvm.MethodName)) ∈ Tb := tb2 235 rfl rfl
theorem w_538 : (Jvm.Cond.static ({ cls := "UseOnceMachine$Value", name := "seal", desc := "(I)J" } : Jvm.MethodName)) ∈ Tb := tb2 236 rfl rfl
theorem w_539 : (Jvm.Cond.code ({ cls := "UseOnceMachine$Value", name := "seal", desc := "(I)J" } : Jvm.MethodName) prog_8_method_5_code (1 : Nat) (Option.some Jvm.ClassFile.FieldType.long)) ∈ Tb := tb2 237 rfl rfl
theorem w_540 : (Jvm.Cond.methodLink "UseOnceMachine$Processor" (121 : Nat) ({ cls := "UseOnceMachine$Processor", name := "call", desc := "()I" } : Jvm.MethodName)) ∈ Tb := tb2 238 rfl rfl
theorem w_542 : (Jvm.Cond.instanceMethod ({ cls := "UseOnceMachine$Processor", name := "call", desc := "()I" } : Jvm.MethodName)) ∈ Tb := tb3 0 rfl rfl
theorem w_543 : (Jvm.Cond.code ({ cls := "UseOnceMachine$Processor", name := "call", desc := "()I" } : Jvm.MethodName) prog_5_method_29_code (3 : Nat) (Option.some Jvm.ClassFile.FieldType.int)) ∈ Tb := tb3 1 rfl rfl
theorem w_544 : (Jvm.Cond.methodLink "UseOnceMachine$Processor" (236 : Nat) ({ cls := "UseOnceMachine$State", name := "canOpen", desc := "(I)Z" } : Jvm.MethodName)) ∈ Tb := tb3 2 rfl rfl
theorem w_545 : (Jvm.Cond.instanceMethod ({ cls := "UseOnceMachine$State", name := "canOpen", desc := "(I)Z" } : Jvm.MethodName)) ∈ Tb := tb3 3 rfl rfl
theorem w_546 : (Jvm.Cond.selects "UseOnceMachine$State" ({ cls := "UseOnceMachine$State", name := "canOpen", desc := "(I)Z" } : Jvm.MethodName) ({ cls := "UseOnceMachine$State", name := "canOpen", desc := "(I)Z" } : Jvm.MethodName)) ∈ Tb := tb3 4 rfl rfl
theorem w_547 : (Jvm.Cond.code ({ cls := "UseOnceMachine$State", name := "canOpen", desc := "(I)Z" } : Jvm.MethodName) prog_7_method_12_code (2 : Nat) (Option.some Jvm.ClassFile.FieldType.boolean)) ∈ Tb := tb3 5 rfl rfl
theorem w_548 : (Jvm.Cond.methodLink "UseOnceMachine$Processor" (239 : Nat) ({ cls := "UseOnceMachine$State", name := "openFrame", desc := "(III)V" } : Jvm.MethodName)) ∈ Tb := tb3 6 rfl rfl
theorem w_549 : (Jvm.Cond.instanceMethod ({ cls := "UseOnceMachine$State", name := "openFrame", desc := "(III)V" } : Jvm.MethodName)) ∈ Tb := tb3 7 rfl rfl
theorem w_550 : (Jvm.Cond.selects "UseOnceMachine$State" ({ cls := "UseOnceMachine$State", name := "openFrame", desc := "(III)V" } : Jvm.MethodName) ({ cls := "UseOnceMachine$State", name := "openFrame", desc := "(III)V" } : Jvm.MethodName)) ∈ Tb := tb3 8 rfl rfl
theorem w_551 : (Jvm.Cond.code ({ cls := "UseOnceMachine$State", name := "openFrame", desc := "(III)V" } : Jvm.MethodName) prog_7_method_14_code (5 : Nat) (Option.none : Option Jvm.ClassFile.FieldType)) ∈ Tb := tb3 9 rfl rfl
theorem w_552 : (Jvm.Cond.methodLink "UseOnceMachine$State" (102 : Nat) ({ cls := "UseOnceMachine$State", name := "canOpen", desc := "(I)Z" } : Jvm.MethodName)) ∈ Tb := tb3 10 rfl rfl
theorem w_553 : (Jvm.Cond.methodLink "UseOnceMachine$State" (106 : Nat) ({ cls := "UseOnceMachine$State", name := "writeNotes", desc := "(II)V" } : Jvm.MethodName)) ∈ Tb := tb3 11 rfl rfl
theorem w_555 : (Jvm.Cond.instanceMethod ({ cls := "UseOnceMachine$State", name := "writeNotes", desc := "(II)V" } : Jvm.MethodName)) ∈ Tb := tb3 13 rfl rfl
theorem w_556 : (Jvm.Cond.code ({ cls := "UseOnceMachine$State", name := "writeNotes", desc := "(II)V" } : Jvm.MethodName) prog_7_method_15_code (6 : Nat) (Option.none : Option Jvm.ClassFile.FieldType)) ∈ Tb := tb3 14 rfl rfl
theorem w_557 : (Jvm.Cond.methodLink "UseOnceMachine$State" (109 : Nat) ({ cls := "UseOnceMachine$State", name := "keptPlace", desc := "(II)I" } : Jvm.MethodName)) ∈ Tb := tb3 15 rfl rfl
theorem w_558 : (Jvm.Cond.static ({ cls := "UseOnceMachine$State", name := "keptPlace", desc := "(II)I" } : Jvm.MethodName)) ∈ Tb := tb3 16 rfl rfl
theorem w_559 : (Jvm.Cond.code ({ cls := "UseOnceMachine$State", name := "keptPlace", desc := "(II)I" } : Jvm.MethodName) prog_7_method_18_code (2 : Nat) (Option.some Jvm.ClassFile.FieldType.int)) ∈ Tb := tb3 17 rfl rfl
theorem w_560 : (Jvm.Cond.methodLink "UseOnceMachine$Processor" (124 : Nat) ({ cls := "UseOnceMachine$Processor", name := "comeBack", desc := "()I" } : Jvm.MethodName)) ∈ Tb := tb3 18 rfl rfl
theorem w_562 : (Jvm.Cond.instanceMethod ({ cls := "UseOnceMachine$Processor", name := "comeBack", desc := "()I" } : Jvm.MethodName)) ∈ Tb := tb3 20 rfl rfl
theorem w_563 : (Jvm.Cond.code ({ cls := "UseOnceMachine$Processor", name := "comeBack", desc := "()I" } : Jvm.MethodName) prog_5_method_30_code (1 : Nat) (Option.some Jvm.ClassFile.FieldType.int)) ∈ Tb := tb3 21 rfl rfl
theorem w_564 : (Jvm.Cond.methodLink "UseOnceMachine$Processor" (243 : Nat) ({ cls := "UseOnceMachine$State", name := "canCloseFrame", desc := "()Z" } : Jvm.MethodName)) ∈ Tb := tb3 22 rfl rfl
theorem w_565 : (Jvm.Cond.instanceMethod ({ cls := "UseOnceMachine$State", name := "canCloseFrame", desc := "()Z" } : Jvm.MethodName)) ∈ Tb := tb3 23 rfl rfl
theorem w_566 : (Jvm.Cond.selects "UseOnceMachine$State" ({ cls := "UseOnceMachine$State", name := "canCloseFrame", desc := "()Z" } : Jvm.MethodName) ({ cls := "UseOnceMachine$State", name := "canCloseFrame", desc := "()Z" } : Jvm.MethodName)) ∈ Tb := tb3 24 rfl rfl
theorem w_567 : (Jvm.Cond.code ({ cls := "UseOnceMachine$State", name := "canCloseFrame", desc := "()Z" } : Jvm.MethodName) prog_7_method_16_code (6 : Nat) (Option.some Jvm.ClassFile.FieldType.boolean)) ∈ Tb := tb3 25 rfl rfl
theorem w_568 : (Jvm.Cond.methodLink "UseOnceMachine$State" (113 : Nat) ({ cls := "UseOnceMachine$Value", name := "isNumber", desc := "(J)Z" } : Jvm.MethodName)) ∈ Tb := tb3 26 rfl rfl
theorem w_569 : (Jvm.Cond.methodLink "UseOnceMachine$Processor" (246 : Nat) ({ cls := "UseOnceMachine$State", name := "closeFrame", desc := "()V" } : Jvm.MethodName)) ∈ Tb := tb3 27 rfl rfl
theorem w_570 : (Jvm.Cond.instanceMethod ({ cls := "UseOnceMachine$State", name := "closeFrame", desc := "()V" } : Jvm.MethodName)) ∈ Tb := tb3 28 rfl rfl
theorem w_571 : (Jvm.Cond.selects "UseOnceMachine$State" ({ cls := "UseOnceMachine$State", name := "closeFrame", desc := "()V" } : Jvm.MethodName) ({ cls := "UseOnceMachine$State", name := "closeFrame", desc := "()V" } : Jvm.MethodName)) ∈ Tb := tb3 29 rfl rfl
theorem w_572 : (Jvm.Cond.code ({ cls := "UseOnceMachine$State", name := "closeFrame", desc := "()V" } : Jvm.MethodName) prog_7_method_17_code (4 : Nat) (Option.none : Option Jvm.ClassFile.FieldType)) ∈ Tb := tb3 30 rfl rfl
theorem w_573 : (Jvm.Cond.methodLink "UseOnceMachine$Processor" (127 : Nat) ({ cls := "UseOnceMachine$Processor", name := "halt", desc := "()I" } : Jvm.MethodName)) ∈ Tb := tb3 31 rfl rfl
theorem w_575 : (Jvm.Cond.instanceMethod ({ cls := "UseOnceMachine$Processor", name := "halt", desc := "()I" } : Jvm.MethodName)) ∈ Tb := tb3 33 rfl rfl
theorem w_576 : (Jvm.Cond.code ({ cls := "UseOnceMachine$Processor", name := "halt", desc := "()I" } : Jvm.MethodName) prog_5_method_31_code (1 : Nat) (Option.some Jvm.ClassFile.FieldType.int)) ∈ Tb := tb3 34 rfl rfl
theorem w_577 : (Jvm.Cond.methodLink "UseOnceMachineLaw" (28 : Nat) ({ cls := "UseOnceMachine", name := "undo", desc := "(I)I" } : Jvm.MethodName)) ∈ Tb := tb3 35 rfl rfl
theorem w_578 : (Jvm.Cond.instanceMethod ({ cls := "UseOnceMachine", name := "undo", desc := "(I)I" } : Jvm.MethodName)) ∈ Tb := tb3 36 rfl rfl
theorem w_579 : (Jvm.Cond.selects "UseOnceMachine" ({ cls := "UseOnceMachine", name := "undo", desc := "(I)I" } : Jvm.MethodName) ({ cls := "UseOnceMachine", name := "undo", desc := "(I)I" } : Jvm.MethodName)) ∈ Tb := tb3 37 rfl rfl
theorem w_580 : (Jvm.Cond.code ({ cls := "UseOnceMachine", name := "undo", desc := "(I)I" } : Jvm.MethodName) prog_1_method_5_code (2 : Nat) (Option.some Jvm.ClassFile.FieldType.int)) ∈ Tb := tb3 38 rfl rfl
theorem w_581 : (Jvm.Cond.methodLink "UseOnceMachine" (88 : Nat) ({ cls := "UseOnceMachine$History", name := "takeBack", desc := "(LUseOnceMachine$State;I)I" } : Jvm.MethodName)) ∈ Tb := tb3 39 rfl rfl
theorem w_582 : (Jvm.Cond.instanceMethod ({ cls := "UseOnceMachine$History", name := "takeBack", desc := "(LUseOnceMachine$State;I)I" } : Jvm.MethodName)) ∈ Tb := tb3 40 rfl rfl
theorem w_583 : (Jvm.Cond.selects "UseOnceMachine$History" ({ cls := "UseOnceMachine$History", name := "takeBack", desc := "(LUseOnceMachine$State;I)I" } : Jvm.MethodName) ({ cls := "UseOnceMachine$History", name := "takeBack", desc := "(LUseOnceMachine$State;I)I" } : Jvm.MethodName)) ∈ Tb := tb3 41 rfl rfl
theorem w_584 : (Jvm.Cond.code ({ cls := "UseOnceMachine$History", name := "takeBack", desc := "(LUseOnceMachine$State;I)I" } : Jvm.MethodName) prog_3_method_4_code (6 : Nat) (Option.some Jvm.ClassFile.FieldType.int)) ∈ Tb := tb3 42 rfl rfl
theorem w_585 : (Jvm.Cond.methodLink "UseOnceMachine$History" (35 : Nat) ({ cls := "java/lang/Math", name := "floorMod", desc := "(II)I" } : Jvm.MethodName)) ∈ Tb := tb3 43 rfl rfl
theorem w_586 : (Jvm.Cond.static ({ cls := "java/lang/Math", name := "floorMod", desc := "(II)I" } : Jvm.MethodName)) ∈ Tb := tb3 44 rfl rfl
theorem w_587 : (Jvm.Cond.code ({ cls := "java/lang/Math", name := "floorMod", desc := "(II)I" } : Jvm.MethodName) prog_12_method_50_code (3 : Nat) (Option.some Jvm.ClassFile.FieldType.int)) ∈ Tb := tb3 45 rfl rfl
theorem w_588 : (Jvm.Cond.methodLink "UseOnceMachineLaw" (32 : Nat) ({ cls := "UseOnceMachine", name := "register", desc := "(II)I" } : Jvm.MethodName)) ∈ Tb := tb3 46 rfl rfl
theorem w_589 : (Jvm.Cond.instanceMethod ({ cls := "UseOnceMachine", name := "register", desc := "(II)I" } : Jvm.MethodName)) ∈ Tb := tb3 47 rfl rfl
theorem w_590 : (Jvm.Cond.selects "UseOnceMachine" ({ cls := "UseOnceMachine", name := "register", desc := "(II)I" } : Jvm.MethodName) ({ cls := "UseOnceMachine", name := "register", desc := "(II)I" } : Jvm.MethodName)) ∈ Tb := tb3 48 rfl rfl
theorem w_591 : (Jvm.Cond.code ({ cls := "UseOnceMachine", name := "register", desc := "(II)I" } : Jvm.MethodName) prog_1_method_6_code (3 : Nat) (Option.some Jvm.ClassFile.FieldType.int)) ∈ Tb := tb3 49 rfl rfl
theorem w_592 : (Jvm.Cond.methodLink "UseOnceMachine" (92 : Nat) ({ cls := "UseOnceMachine$State", name := "held", desc := "(I)J" } : Jvm.MethodName)) ∈ Tb := tb3 50 rfl rfl
theorem w_593 : (Jvm.Cond.methodLink "UseOnceMachine" (96 : Nat) ({ cls := "UseOnceMachine$Value", name := "field", desc := "(JI)I" } : Jvm.MethodName)) ∈ Tb := tb3 51 rfl rfl
theorem w_594 : (Jvm.Cond.static ({ cls := "UseOnceMachine$Value", name := "field", desc := "(JI)I" } : Jvm.MethodName)) ∈ Tb := tb3 52 rfl rfl
theorem w_595 : (Jvm.Cond.code ({ cls := "UseOnceMachine$Value", name := "field", desc := "(JI)I" } : Jvm.MethodName) prog_8_method_18_code (3 : Nat) (Option.some Jvm.ClassFile.FieldType.int)) ∈ Tb := tb3 53 rfl rfl
theorem w_596 : (Jvm.Cond.methodLink "UseOnceMachine$Value" (34 : Nat) ({ cls := "UseOnceMachine$Value", name := "isNumber", desc := "(J)Z" } : Jvm.MethodName)) ∈ Tb := tb3 54 rfl rfl
theorem w_597 : (Jvm.Cond.methodLink "UseOnceMachine$Value" (37 : Nat) ({ cls := "UseOnceMachine$Value", name := "link", desc := "(J)I" } : Jvm.MethodName)) ∈ Tb := tb3 55 rfl rfl
theorem w_598 : (Jvm.Cond.methodLink "UseOnceMachineLaw" (37 : Nat) ({ cls := "UseOnceMachine", name := "word", desc := "(II)I" } : Jvm.MethodName)) ∈ Tb := tb3 56 rfl rfl
theorem w_599 : (Jvm.Cond.instanceMethod ({ cls := "UseOnceMachine", name := "word", desc := "(II)I" } : Jvm.MethodName)) ∈ Tb := tb3 57 rfl rfl
theorem w_600 : (Jvm.Cond.selects "UseOnceMachine" ({ cls := "UseOnceMachine", name := "word", desc := "(II)I" } : Jvm.MethodName) ({ cls := "UseOnceMachine", name := "word", desc := "(II)I" } : Jvm.MethodName)) ∈ Tb := tb3 58 rfl rfl
theorem w_601 : (Jvm.Cond.code ({ cls := "UseOnceMachine", name := "word", desc := "(II)I" } : Jvm.MethodName) prog_1_method_7_code (3 : Nat) (Option.some Jvm.ClassFile.FieldType.int)) ∈ Tb := tb3 59 rfl rfl
theorem w_602 : (Jvm.Cond.methodLink "UseOnceMachineLaw" (41 : Nat) ({ cls := "UseOnceMachine", name := "look", desc := "(I)I" } : Jvm.MethodName)) ∈ Tb := tb3 60 rfl rfl
theorem w_603 : (Jvm.Cond.instanceMethod ({ cls := "UseOnceMachine", name := "look", desc := "(I)I" } : Jvm.MethodName)) ∈ Tb := tb3 61 rfl rfl
theorem w_604 : (Jvm.Cond.selects "UseOnceMachine" ({ cls := "UseOnceMachine", name := "look", desc := "(I)I" } : Jvm.MethodName) ({ cls := "UseOnceMachine", name := "look", desc := "(I)I" } : Jvm.MethodName)) ∈ Tb := tb3 62 rfl rfl
theorem w_605 : (Jvm.Cond.code ({ cls := "UseOnceMachine", name := "look", desc := "(I)I" } : Jvm.MethodName) prog_1_method_8_code (2 : Nat) (Option.some Jvm.ClassFile.FieldType.int)) ∈ Tb := tb3 63 rfl rfl
theorem w_606 : (Jvm.Cond.methodLink "UseOnceMachine" (112 : Nat) ({ cls := "UseOnceMachine$Code", name := "size", desc := "(I)I" } : Jvm.MethodName)) ∈ Tb := tb3 64 rfl rfl
theorem w_607 : (Jvm.Cond.methodLink "UseOnceMachineLaw" (45 : Nat) ({ cls := "UseOnceMachine", name := "owner", desc := "(II)I" } : Jvm.MethodName)) ∈ Tb := tb3 65 rfl rfl
theorem w_608 : (Jvm.Cond.instanceMethod ({ cls := "UseOnceMachine", name := "owner", desc := "(II)I" } : Jvm.MethodName)) ∈ Tb := tb3 66 rfl rfl
theorem w_609 : (Jvm.Cond.selects "UseOnceMachine" ({ cls := "UseOnceMachine", name := "owner", desc := "(II)I" } : Jvm.MethodName) ({ cls := "UseOnceMachine", name := "owner", desc := "(II)I" } : Jvm.MethodName)) ∈ Tb := tb3 67 rfl rfl
theorem w_610 : (Jvm.Cond.code ({ cls := "UseOnceMachine", name := "owner", desc := "(II)I" } : Jvm.MethodName) prog_1_method_9_code (4 : Nat) (Option.some Jvm.ClassFile.FieldType.int)) ∈ Tb := tb3 68 rfl rfl
theorem w_611 : (Jvm.Cond.methodLink "UseOnceMachine" (116 : Nat) ({ cls := "UseOnceMachine$Owners", name := "least", desc := "(II)I" } : Jvm.MethodName)) ∈ Tb := tb3 69 rfl rfl
theorem w_612 : (Jvm.Cond.instanceMethod ({ cls := "UseOnceMachine$Owners", name := "least", desc := "(II)I" } : Jvm.MethodName)) ∈ Tb := tb3 70 rfl rfl
theorem w_613 : (Jvm.Cond.selects "UseOnceMachine$Owners" ({ cls := "UseOnceMachine$Owners", name := "least", desc := "(II)I" } : Jvm.MethodName) ({ cls := "UseOnceMachine$Owners", name := "least", desc := "(II)I" } : Jvm.MethodName)) ∈ Tb := tb3 71 rfl rfl
theorem w_614 : (Jvm.Cond.code ({ cls := "UseOnceMachine$Owners", name := "least", desc := "(II)I" } : Jvm.MethodName) prog_4_method_2_code (7 : Nat) (Option.some Jvm.ClassFile.FieldType.int)) ∈ Tb := tb3 72 rfl rfl
theorem w_615 : (Jvm.Cond.methodLink "UseOnceMachine$Owners" (25 : Nat) ({ cls := "UseOnceMachine$State", name := "held", desc := "(I)J" } : Jvm.MethodName)) ∈ Tb := tb3 73 rfl rfl
theorem w_616 : (Jvm.Cond.methodLink "UseOnceMachine$Owners" (31 : Nat) ({ cls := "UseOnceMachine$Value", name := "covers", desc := "(JI)Z" } : Jvm.MethodName)) ∈ Tb := tb3 74 rfl rfl
theorem w_617 : (Jvm.Cond.static ({ cls := "UseOnceMachine$Value", name := "covers", desc := "(JI)Z" } : Jvm.MethodName)) ∈ Tb := tb3 75 rfl rfl
theorem w_618 : (Jvm.Cond.code ({ cls := "UseOnceMachine$Value", name := "covers", desc := "(JI)Z" } : Jvm.MethodName) prog_8_method_16_code (3 : Nat) (Option.some Jvm.ClassFile.FieldType.boolean)) ∈ Tb := tb3 76 rfl rfl
theorem w_619 : (Jvm.Cond.methodLink "UseOnceMachine$Owners" (37 : Nat) ({ cls := "UseOnceMachine$Value", name := "hasRight", desc := "(JI)Z" } : Jvm.MethodName)) ∈ Tb := tb3 77 rfl rfl
theorem w_620 : (Jvm.Cond.methodLink "UseOnceMachine$Owners" (40 : Nat) ({ cls := "UseOnceMachine$Value", name := "kind", desc := "(J)I" } : Jvm.MethodName)) ∈ Tb := tb3 78 rfl rfl
theorem w_621 : (Jvm.Cond.methodLink "UseOnceMachine$Owners" (44 : Nat) ({ cls := "UseOnceMachine$Owners", name := "ownerNumber", desc := "(I)I" } : Jvm.MethodName)) ∈ Tb := tb3 79 rfl rfl
theorem w_622 : (Jvm.Cond.static ({ cls := "UseOnceMachine$Owners", name := "ownerNumber", desc := "(I)I" } : Jvm.MethodName)) ∈ Tb := tb3 80 rfl rfl
theorem w_623 : (Jvm.Cond.code ({ cls := "UseOnceMachine$Owners", name := "ownerNumber", desc := "(I)I" } : Jvm.MethodName) prog_4_method_3_code (2 : Nat) (Option.some Jvm.ClassFile.FieldType.int)) ∈ Tb := tb3 81 rfl rfl
theorem w_624 : (Jvm.Cond.methodLink "UseOnceMachine$Owners" (48 : Nat) ({ cls := "UseOnceMachine$Value", name := "link", desc := "(J)I" } : Jvm.MethodName)) ∈ Tb := tb3 82 rfl rfl
theorem w_625 : (Jvm.Cond.methodLink "UseOnceMachine$Owners" (51 : Nat) ({ cls := "java/lang/Math", name := "min", desc := "(II)I" } : Jvm.MethodName)) ∈ Tb := tb3 83 rfl rfl
theorem w_626 : (Jvm.Cond.methodLink "UseOnceMachineLaw" (49 : Nat) ({ cls := "UseOnceMachine", name := "count", desc := "(I)I" } : Jvm.MethodName)) ∈ Tb := tb3 84 rfl rfl
theorem w_627 : (Jvm.Cond.instanceMethod ({ cls := "UseOnceMachine", name := "count", desc := "(I)I" } : Jvm.MethodName)) ∈ Tb := tb3 85 rfl rfl
theorem w_628 : (Jvm.Cond.selects "UseOnceMachine" ({ cls := "UseOnceMachine", name := "count", desc := "(I)I" } : Jvm.MethodName) ({ cls := "UseOnceMachine", name := "count", desc := "(I)I" } : Jvm.MethodName)) ∈ Tb := tb3 86 rfl rfl
theorem w_629 : (Jvm.Cond.code ({ cls := "UseOnceMachine", name := "count", desc := "(I)I" } : Jvm.MethodName) prog_1_method_10_code (2 : Nat) (Option.some Jvm.ClassFile.FieldType.int)) ∈ Tb := tb3 87 rfl rfl
theorem w_630 : (Jvm.Cond.methodLink "UseOnceMachineLaw" (53 : Nat) ({ cls := "UseOnceMachine", name := "gate", desc := "(II)I" } : Jvm.MethodName)) ∈ Tb := tb3 88 rfl rfl
theorem w_631 : (Jvm.Cond.instanceMethod ({ cls := "UseOnceMachine", name := "gate", desc := "(II)I" } : Jvm.MethodName)) ∈ Tb := tb3 89 rfl rfl
theorem w_632 : (Jvm.Cond.selects "UseOnceMachine" ({ cls := "UseOnceMachine", name := "gate", desc := "(II)I" } : Jvm.MethodName) ({ cls := "UseOnceMachine", name := "gate", desc := "(II)I" } : Jvm.MethodName)) ∈ Tb := tb3 90 rfl rfl
theorem w_633 : (Jvm.Cond.code ({ cls := "UseOnceMachine", name := "gate", desc := "(II)I" } : Jvm.MethodName) prog_1_method_11_code (3 : Nat) (Option.some Jvm.ClassFile.FieldType.int)) ∈ Tb := tb3 91 rfl rfl
theorem w_634 : (Jvm.Cond.methodLink "UseOnceMachineLaw" (57 : Nat) ({ cls := "UseOnceMachine", name := "reach", desc := "()I" } : Jvm.MethodName)) ∈ Tb := tb3 92 rfl rfl
theorem w_635 : (Jvm.Cond.instanceMethod ({ cls := "UseOnceMachine", name := "reach", desc := "()I" } : Jvm.MethodName)) ∈ Tb := tb3 93 rfl rfl
theorem w_636 : (Jvm.Cond.selects "UseOnceMachine" ({ cls := "UseOnceMachine", name := "reach", desc := "()I" } : Jvm.MethodName) ({ cls := "UseOnceMachine", name := "reach", desc := "()I" } : Jvm.MethodName)) ∈ Tb := tb3 94 rfl rfl
theorem w_637 : (Jvm.Cond.code ({ cls := "UseOnceMachine", name := "reach", desc := "()I" } : Jvm.MethodName) prog_1_method_12_code (1 : Nat) (Option.some Jvm.ClassFile.FieldType.int)) ∈ Tb := tb3 95 rfl rfl
theorem w_638 : (Jvm.Cond.methodLink "UseOnceMachine" (133 : Nat) ({ cls := "UseOnceMachine$Reach", name := "size", desc := "()I" } : Jvm.MethodName)) ∈ Tb := tb3 96 rfl rfl
theorem w_639 : (Jvm.Cond.instanceMethod ({ cls := "UseOnceMachine$Reach", name := "size", desc := "()I" } : Jvm.MethodName)) ∈ Tb := tb3 97 rfl rfl
theorem w_640 : (Jvm.Cond.selects "UseOnceMachine$Reach" ({ cls := "UseOnceMachine$Reach", name := "size", desc := "()I" } : Jvm.MethodName) ({ cls := "UseOnceMachine$Reach", name := "size", desc := "()I" } : Jvm.MethodName)) ∈ Tb := tb3 98 rfl rfl
theorem w_641 : (Jvm.Cond.code ({ cls := "UseOnceMachine$Reach", name := "size", desc := "()I" } : Jvm.MethodName) prog_6_method_2_code (3 : Nat) (Option.some Jvm.ClassFile.FieldType.int)) ∈ Tb := tb3 99 rfl rfl
theorem w_642 : (Jvm.Cond.methodLink "UseOnceMachine$Reach" (30 : Nat) ({ cls := "UseOnceMachine$Reach", name := "follow", desc := "()V" } : Jvm.MethodName)) ∈ Tb := tb3 100 rfl rfl
theorem w_644 : (Jvm.Cond.instanceMethod ({ cls := "UseOnceMachine$Reach", name := "follow", desc := "()V" } : Jvm.MethodName)) ∈ Tb := tb3 102 rfl rfl
theorem w_645 : (Jvm.Cond.code ({ cls := "UseOnceMachine$Reach", name := "follow", desc := "()V" } : Jvm.MethodName) prog_6_method_4_code (2 : Nat) (Option.none : Option Jvm.ClassFile.FieldType)) ∈ Tb := tb3 103 rfl rfl
theorem w_646 : (Jvm.Cond.methodLink "UseOnceMachine$Reach" (33 : Nat) ({ cls := "UseOnceMachine$State", name := "held", desc := "(I)J" } : Jvm.MethodName)) ∈ Tb := tb3 104 rfl rfl
theorem w_647 : (Jvm.Cond.methodLink "UseOnceMachine$Reach" (39 : Nat) ({ cls := "UseOnceMachine$Reach", name := "mark", desc := "(J)V" } : Jvm.MethodName)) ∈ Tb := tb3 105 rfl rfl
theorem w_649 : (Jvm.Cond.instanceMethod ({ cls := "UseOnceMachine$Reach", name := "mark", desc := "(J)V" } : Jvm.MethodName)) ∈ Tb := tb3 107 rfl rfl
theorem w_650 : (Jvm.Cond.code ({ cls := "UseOnceMachine$Reach", name := "mark", desc := "(J)V" } : Jvm.MethodName) prog_6_method_5_code (4 : Nat) (Option.none : Option Jvm.ClassFile.FieldType)) ∈ Tb := tb3 108 rfl rfl
theorem w_651 : (Jvm.Cond.methodLink "UseOnceMachine$Reach" (43 : Nat) ({ cls := "UseOnceMachine$Value", name := "isCapability", desc := "(J)Z" } : Jvm.MethodName)) ∈ Tb := tb3 109 rfl rfl
theorem w_652 : (Jvm.Cond.methodLink "UseOnceMachine$Reach" (49 : Nat) ({ cls := "UseOnceMachine$Value", name := "from", desc := "(J)I" } : Jvm.MethodName)) ∈ Tb := tb3 110 rfl rfl
theorem w_653 : (Jvm.Cond.methodLink "UseOnceMachine$Reach" (53 : Nat) ({ cls := "UseOnceMachine$Value", name := "end", desc := "(J)I" } : Jvm.MethodName)) ∈ Tb := tb3 111 rfl rfl
theorem w_654 : (Jvm.Cond.methodLink "UseOnceMachine$Reach" (56 : Nat) ({ cls := "UseOnceMachine$Value", name := "hasRight", desc := "(JI)Z" } : Jvm.MethodName)) ∈ Tb := tb3 112 rfl rfl
theorem w_655 : (Jvm.Cond.methodLink "UseOnceMachineLaw" (62 : Nat) ({ cls := "UseOnceMachine", name := "reaches", desc := "(I)Z" } : Jvm.MethodName)) ∈ Tb := tb3 113 rfl rfl
theorem w_656 : (Jvm.Cond.instanceMethod ({ cls := "UseOnceMachine", name := "reaches", desc := "(I)Z" } : Jvm.MethodName)) ∈ Tb := tb3 114 rfl rfl
theorem w_657 : (Jvm.Cond.selects "UseOnceMachine" ({ cls := "UseOnceMachine", name := "reaches", desc := "(I)Z" } : Jvm.MethodName) ({ cls := "UseOnceMachine", name := "reaches", desc := "(I)Z" } : Jvm.MethodName)) ∈ Tb := tb3 115 rfl rfl
theorem w_658 : (Jvm.Cond.code ({ cls := "UseOnceMachine", name := "reaches", desc := "(I)Z" } : Jvm.MethodName) prog_1_method_13_code (2 : Nat) (Option.some Jvm.ClassFile.FieldType.boolean)) ∈ Tb := tb3 116 rfl rfl
theorem w_659 : (Jvm.Cond.methodLink "UseOnceMachine" (136 : Nat) ({ cls := "UseOnceMachine$Reach", name := "contains", desc := "(I)Z" } : Jvm.MethodName)) ∈ Tb := tb3 117 rfl rfl
theorem w_660 : (Jvm.Cond.instanceMethod ({ cls := "UseOnceMachine$Reach", name := "contains", desc := "(I)Z" } : Jvm.MethodName)) ∈ Tb := tb3 118 rfl rfl
theorem w_661 : (Jvm.Cond.selects "UseOnceMachine$Reach" ({ cls := "UseOnceMachine$Reach", name := "contains", desc := "(I)Z" } : Jvm.MethodName) ({ cls := "UseOnceMachine$Reach", name := "contains", desc := "(I)Z" } : Jvm.MethodName)) ∈ Tb := tb3 119 rfl rfl
theorem w_662 : (Jvm.Cond.code ({ cls := "UseOnceMachine$Reach", name := "contains", desc := "(I)Z" } : Jvm.MethodName) prog_6_method_3_code (2 : Nat) (Option.some Jvm.ClassFile.FieldType.boolean)) ∈ Tb := tb3 120 rfl rfl
theorem w_663 : (Jvm.Cond.methodLink "UseOnceMachineLaw" (67 : Nat) ({ cls := "UseOnceMachine", name := "conserve", desc := "()I" } : Jvm.MethodName)) ∈ Tb := tb3 121 rfl rfl
theorem w_664 : (Jvm.Cond.instanceMethod ({ cls := "UseOnceMachine", name := "conserve", desc := "()I" } : Jvm.MethodName)) ∈ Tb := tb3 122 rfl rfl
theorem w_665 : (Jvm.Cond.selects "UseOnceMachine" ({ cls := "UseOnceMachine", name := "conserve", desc := "()I" } : Jvm.MethodName) ({ cls := "UseOnceMachine", name := "conserve", desc := "()I" } : Jvm.MethodName)) ∈ Tb := tb3 123 rfl rfl
theorem w_666 : (Jvm.Cond.code ({ cls := "UseOnceMachine", name := "conserve", desc := "()I" } : Jvm.MethodName) prog_1_method_14_code (1 : Nat) (Option.some Jvm.ClassFile.FieldType.int)) ∈ Tb := tb3 124 rfl rfl
theorem w_667 : (Jvm.Cond.methodLink "UseOnceMachine" (140 : Nat) ({ cls := "UseOnceMachine$Owners", name := "firstWrong", desc := "()I" } : Jvm.MethodName)) ∈ Tb := tb3 125 rfl rfl
theorem w_668 : (Jvm.Cond.instanceMethod ({ cls := "UseOnceMachine$Owners", name := "firstWrong", desc := "()I" } : Jvm.MethodName)) ∈ Tb := tb3 126 rfl rfl
theorem w_669 : (Jvm.Cond.selects "UseOnceMachine$Owners" ({ cls := "UseOnceMachine$Owners", name := "firstWrong", desc := "()I" } : Jvm.MethodName) ({ cls := "UseOnceMachine$Owners", name := "firstWrong", desc := "()I" } : Jvm.MethodName)) ∈ Tb := tb3 127 rfl rfl
theorem w_670 : (Jvm.Cond.code ({ cls := "UseOnceMachine$Owners", name := "firstWrong", desc := "()I" } : Jvm.MethodName) prog_4_method_4_code (2 : Nat) (Option.some Jvm.ClassFile.FieldType.int)) ∈ Tb := tb3 128 rfl rfl
theorem w_671 : (Jvm.Cond.methodLink "UseOnceMachine$Owners" (57 : Nat) ({ cls := "UseOnceMachine$Owners", name := "tallyAll", desc := "()V" } : Jvm.MethodName)) ∈ Tb := tb3 129 rfl rfl
theorem w_673 : (Jvm.Cond.instanceMethod ({ cls := "UseOnceMachine$Owners", name := "tallyAll", desc := "()V" } : Jvm.MethodName)) ∈ Tb := tb3 131 rfl rfl
theorem w_674 : (Jvm.Cond.code ({ cls := "UseOnceMachine$Owners", name := "tallyAll", desc := "()V" } : Jvm.MethodName) prog_4_method_6_code (4 : Nat) (Option.none : Option Jvm.ClassFile.FieldType)) ∈ Tb := tb3 132 rfl rfl
theorem w_675 : (Jvm.Cond.methodLink "UseOnceMachine$Owners" (72 : Nat) ({ cls := "java/util/Arrays", name := "fill", desc := "([II)V" } : Jvm.MethodName)) ∈ Tb := tb3 133 rfl rfl
theorem w_676 : (Jvm.Cond.methodLink "UseOnceMachine$Owners" (78 : Nat) ({ cls := "UseOnceMachine$Owners", name := "tallyExclusive", desc := "(J)V" } : Jvm.MethodName)) ∈ Tb := tb3 134 rfl rfl
theorem w_678 : (Jvm.Cond.instanceMethod ({ cls := "UseOnceMachine$Owners", name := "tallyExclusive", desc := "(J)V" } : Jvm.MethodName)) ∈ Tb := tb3 136 rfl rfl
theorem w_679 : (Jvm.Cond.code ({ cls := "UseOnceMachine$Owners", name := "tallyExclusive", desc := "(J)V" } : Jvm.MethodName) prog_4_method_7_code (5 : Nat) (Option.none : Option Jvm.ClassFile.FieldType)) ∈ Tb := tb3 137 rfl rfl
theorem w_680 : (Jvm.Cond.methodLink "UseOnceMachine$Owners" (85 : Nat) ({ cls := "UseOnceMachine$Value", name := "from", desc := "(J)I" } : Jvm.MethodName)) ∈ Tb := tb3 138 rfl rfl
theorem w_681 : (Jvm.Cond.methodLink "UseOnceMachine$Owners" (88 : Nat) ({ cls := "UseOnceMachine$Value", name := "end", desc := "(J)I" } : Jvm.MethodName)) ∈ Tb := tb3 139 rfl rfl
theorem w_682 : (Jvm.Cond.methodLink "UseOnceMachine$Owners" (91 : Nat) ({ cls := "UseOnceMachine$Value", name := "rights", desc := "(J)I" } : Jvm.MethodName)) ∈ Tb := tb3 140 rfl rfl
theorem w_683 : (Jvm.Cond.methodLink "UseOnceMachine$Owners" (82 : Nat) ({ cls := "UseOnceMachine$Owners", name := "tallyShared", desc := "(J)V" } : Jvm.MethodName)) ∈ Tb := tb3 141 rfl rfl
theorem w_685 : (Jvm.Cond.instanceMethod ({ cls := "UseOnceMachine$Owners", name := "tallyShared", desc := "(J)V" } : Jvm.MethodName)) ∈ Tb := tb3 143 rfl rfl
theorem w_686 : (Jvm.Cond.code ({ cls := "UseOnceMachine$Owners", name := "tallyShared", desc := "(J)V" } : Jvm.MethodName) prog_4_method_8_code (5 : Nat) (Option.none : Option Jvm.ClassFile.FieldType)) ∈ Tb := tb3 144 rfl rfl
theorem w_687 : (Jvm.Cond.methodLink "UseOnceMachine$Owners" (60 : Nat) ({ cls := "UseOnceMachine$Owners", name := "hasOneOwnerEach", desc := "(I)Z" } : Jvm.MethodName)) ∈ Tb := tb3 145 rfl rfl
theorem w_689 : (Jvm.Cond.instanceMethod ({ cls := "UseOnceMachine$Owners", name := "hasOneOwnerEach", desc := "(I)Z" } : Jvm.MethodName)) ∈ Tb := tb3 147 rfl rfl
theorem w_690 : (Jvm.Cond.code ({ cls := "UseOnceMachine$Owners", name := "hasOneOwnerEach", desc := "(I)Z" } : Jvm.MethodName) prog_4_method_5_code (5 : Nat) (Option.some Jvm.ClassFile.FieldType.boolean)) ∈ Tb := tb3 148 rfl rfl
theorem w_691 : (Jvm.Cond.methodLink "UseOnceMachine$Owners" (67 : Nat) ({ cls := "java/lang/Integer", name := "bitCount", desc := "(I)I" } : Jvm.MethodName)) ∈ Tb := tb3 149 rfl rfl
theorem w_692 : (Jvm.Cond.static ({ cls := "java/lang/Integer", name := "bitCount", desc := "(I)I" } : Jvm.MethodName)) ∈ Tb := tb3 150 rfl rfl
theorem w_693 : (Jvm.Cond.code ({ cls := "java/lang/Integer", name := "bitCount", desc := "(I)I" } : Jvm.MethodName) prog_11_method_49_code (1 : Nat) (Option.some Jvm.ClassFile.FieldType.int)) ∈ Tb := tb3 151 rfl rfl
theorem w_694 : (Jvm.Cond.constant "java/lang/Integer" (265 : Nat) (1431655765 : Int32)) ∈ Tb := tb3 152 rfl rfl
theorem w_695 : (Jvm.Cond.constant "java/lang/Integer" (266 : Nat) (858993459 : Int32)) ∈ Tb := tb3 153 rfl rfl
theorem w_696 : (Jvm.Cond.constant "java/lang/Integer" (267 : Nat) (252645135 : Int32)) ∈ Tb := tb3 154 rfl rfl
theorem w_697 : (Jvm.Cond.methodLink "UseOnceMachine$Owners" (64 : Nat) ({ cls := "UseOnceMachine$State", name := "countOf", desc := "(I)I" } : Jvm.MethodName)) ∈ Tb := tb3 155 rfl rfl
theorem w_698 : (Jvm.Cond.classLink "UseOnceMachineLaw" (10 : Nat) "UseOnceMachineModel") ∈ Tb := tb3 156 rfl rfl
theorem w_699 : (Jvm.Cond.instantiable "UseOnceMachineModel" (20 : Nat)) ∈ Tb := tb3 157 rfl rfl
theorem w_700 : (Jvm.Cond.methodLink "UseOnceMachineLaw" (12 : Nat) ({ cls := "UseOnceMachineModel", name := "<init>", desc := "()V" } : Jvm.MethodName)) ∈ Tb := tb3 158 rfl rfl
theorem w_701 : (Jvm.Cond.instanceMethod ({ cls := "UseOnceMachineModel", name := "<init>", desc := "()V" } : Jvm.MethodName)) ∈ Tb := tb3 159 rfl rfl
theorem w_702 : (Jvm.Cond.code ({ cls := "UseOnceMachineModel", name := "<init>", desc := "()V" } : Jvm.MethodName) prog_10_method_1_code (1 : Nat) (Option.none : Option Jvm.ClassFile.FieldType)) ∈ Tb := tb3 160 rfl rfl
theorem w_703 : (Jvm.Cond.methodLink "UseOnceMachineModel" (1 : Nat) ({ cls := "java/lang/Object", name := "<init>", desc := "()V" } : Jvm.MethodName)) ∈ Tb := tb3 161 rfl rfl
theorem w_704 : (Jvm.Cond.fieldLink "UseOnceMachineModel" (54 : Nat) "UseOnceMachineModel" "booted" "Z") ∈ Tb := tb3 162 rfl rfl
theorem w_705 : (Jvm.Cond.fieldLink "UseOnceMachineModel" (7 : Nat) "UseOnceMachineModel" "size" "[I") ∈ Tb := tb3 163 rfl rfl
theorem w_706 : (Jvm.Cond.fieldLink "UseOnceMachineModel" (13 : Nat) "UseOnceMachineModel" "orders" "[I") ∈ Tb := tb3 164 rfl rfl
theorem w_707 : (Jvm.Cond.fieldLink "UseOnceMachineModel" (16 : Nat) "UseOnceMachineModel" "place" "[I") ∈ Tb := tb3 165 rfl rfl
theorem w_708 : (Jvm.Cond.fieldLink "UseOnceMachineModel" (19 : Nat) "UseOnceMachineModel" "counts" "[I") ∈ Tb := tb3 166 rfl rfl
theorem w_709 : (Jvm.Cond.fieldLink "UseOnceMachineModel" (22 : Nat) "UseOnceMachineModel" "cellFrom" "[I") ∈ Tb := tb3 167 rfl rfl
theorem w_710 : (Jvm.Cond.fieldLink "UseOnceMachineModel" (25 : Nat) "UseOnceMachineModel" "cellEnd" "[I") ∈ Tb := tb3 168 rfl rfl
theorem w_711 : (Jvm.Cond.fieldLink "UseOnceMachineModel" (28 : Nat) "UseOnceMachineModel" "gateState" "[I") ∈ Tb := tb3 169 rfl rfl
theorem w_712 : (Jvm.Cond.fieldLink "UseOnceMachineModel" (31 : Nat) "UseOnceMachineModel" "gateModule" "[I") ∈ Tb := tb3 170 rfl rfl
theorem w_713 : (Jvm.Cond.fieldLink "UseOnceMachineModel" (34 : Nat) "UseOnceMachineModel" "gatePattern" "[I") ∈ Tb := tb3 171 rfl rfl
theorem w_714 : (Jvm.Cond.fieldLink "UseOnceMachineModel" (78 : Nat) "UseOnceMachineModel" "depth" "I") ∈ Tb := tb3 172 rfl rfl
theorem w_715 : (Jvm.Cond.fieldLink "UseOnceMachineModel" (37 : Nat) "UseOnceMachineModel" "frame" "[I") ∈ Tb := tb3 173 rfl rfl
theorem w_716 : (Jvm.Cond.fieldLink "UseOnceMachineModel" (40 : Nat) "UseOnceMachineModel" "note" "[I") ∈ Tb := tb3 174 rfl rfl
theorem w_717 : (Jvm.Cond.fieldLink "UseOnceMachineModel" (82 : Nat) "UseOnceMachineModel" "module" "I") ∈ Tb := tb3 175 rfl rfl
theorem w_718 : (Jvm.Cond.fieldLink "UseOnceMachineModel" (85 : Nat) "UseOnceMachineModel" "next" "I") ∈ Tb := tb3 176 rfl rfl
theorem w_719 : (Jvm.Cond.fieldLink "UseOnceMachineModel" (88 : Nat) "UseOnceMachineModel" "stopped" "I") ∈ Tb := tb3 177 rfl rfl
theorem w_720 : (Jvm.Cond.fieldLink "UseOnceMachineModel" (91 : Nat) "UseOnceMachineModel" "done" "I") ∈ Tb := tb3 178 rfl rfl
theorem w_721 : (Jvm.Cond.fieldLink "UseOnceMachineModel" (94 : Nat) "UseOnceMachineModel" "kept" "I") ∈ Tb := tb3 179 rfl rfl
theorem w_722 : (Jvm.Cond.fieldLink "UseOnceMachineModel" (43 : Nat) "UseOnceMachineModel" "near" "[Z") ∈ Tb := tb3 180 rfl rfl
theorem w_723 : (Jvm.Cond.fieldLink "UseOnceMachineModel" (47 : Nat) "UseOnceMachineModel" "read" "[Z") ∈ Tb := tb3 181 rfl rfl
theorem w_724 : (Jvm.Cond.lays "UseOnceMachineModel" "UseOnceMachineModel" "booted" "Z") ∈ Tb := tb3 182 rfl rfl
theorem w_726 : (Jvm.Cond.laysFinal "UseOnceMachineModel" "UseOnceMachineModel" "size" "[I") ∈ Tb := tb3 184 rfl rfl
theorem w_728 : (Jvm.Cond.laysFinal "UseOnceMachineModel" "UseOnceMachineModel" "orders" "[I") ∈ Tb := tb3 186 rfl rfl
theorem w_730 : (Jvm.Cond.laysFinal "UseOnceMachineModel" "UseOnceMachineModel" "place" "[I") ∈ Tb := tb3 188 rfl rfl
theorem w_732 : (Jvm.Cond.laysFinal "UseOnceMachineModel" "UseOnceMachineModel" "counts" "[I") ∈ Tb := tb3 190 rfl rfl
theorem w_734 : (Jvm.Cond.laysFinal "UseOnceMachineModel" "UseOnceMachineModel" "cellFrom" "[I") ∈ Tb := tb3 192 rfl rfl
theorem w_736 : (Jvm.Cond.laysFinal "UseOnceMachineModel" "UseOnceMachineModel" "cellEnd" "[I") ∈ Tb := tb3 194 rfl rfl
theorem w_738 : (Jvm.Cond.laysFinal "UseOnceMachineModel" "UseOnceMachineModel" "gateState" "[I") ∈ Tb := tb3 196 rfl rfl
theorem w_740 : (Jvm.Cond.laysFinal "UseOnceMachineModel" "UseOnceMachineModel" "gateModule" "[I") ∈ Tb := tb3 198 rfl rfl
theorem w_742 : (Jvm.Cond.laysFinal "UseOnceMachineModel" "UseOnceMachineModel" "gatePattern" "[I") ∈ Tb := tb3 200 rfl rfl
theorem w_744 : (Jvm.Cond.lays "UseOnceMachineModel" "UseOnceMachineModel" "depth" "I") ∈ Tb := tb3 202 rfl rfl
theorem w_746 : (Jvm.Cond.laysFinal "UseOnceMachineModel" "UseOnceMachineModel" "frame" "[I") ∈ Tb := tb3 204 rfl rfl
theorem w_748 : (Jvm.Cond.laysFinal "UseOnceMachineModel" "UseOnceMachineModel" "note" "[I") ∈ Tb := tb3 206 rfl rfl
theorem w_750 : (Jvm.Cond.lays "UseOnceMachineModel" "UseOnceMachineModel" "module" "I") ∈ Tb := tb3 208 rfl rfl
theorem w_752 : (Jvm.Cond.lays "UseOnceMachineModel" "UseOnceMachineModel" "next" "I") ∈ Tb := tb3 210 rfl rfl
theorem w_754 : (Jvm.Cond.lays "UseOnceMachineModel" "UseOnceMachineModel" "stopped" "I") ∈ Tb := tb3 212 rfl rfl
theorem w_756 : (Jvm.Cond.lays "UseOnceMachineModel" "UseOnceMachineModel" "done" "I") ∈ Tb := tb3 214 rfl rfl
theorem w_758 : (Jvm.Cond.lays "UseOnceMachineModel" "UseOnceMachineModel" "kept" "I") ∈ Tb := tb3 216 rfl rfl
theorem w_760 : (Jvm.Cond.laysFinal "UseOnceMachineModel" "UseOnceMachineModel" "near" "[Z") ∈ Tb := tb3 218 rfl rfl
theorem w_762 : (Jvm.Cond.laysFinal "UseOnceMachineModel" "UseOnceMachineModel" "read" "[Z") ∈ Tb := tb3 220 rfl rfl
theorem w_765 : (Jvm.Cond.methodLink "UseOnceMachineLaw" (17 : Nat) ({ cls := "UseOnceMachineModel", name := "code", desc := "(IIIII)I" } : Jvm.MethodName)) ∈ Tb := tb3 223 rfl rfl
theorem w_766 : (Jvm.Cond.instanceMethod ({ cls := "UseOnceMachineModel", name := "code", desc := "(IIIII)I" } : Jvm.MethodName)) ∈ Tb := tb3 224 rfl rfl
theorem w_767 : (Jvm.Cond.selects "UseOnceMachineModel" ({ cls := "UseOnceMachineModel", name := "code", desc := "(IIIII)I" } : Jvm.MethodName) ({ cls := "UseOnceMachineModel", name := "code", desc := "(IIIII)I" } : Jvm.MethodName)) ∈ Tb := tb3 225 rfl rfl
theorem w_768 : (Jvm.Cond.code ({ cls := "UseOnceMachineModel", name := "code", desc := "(IIIII)I" } : Jvm.MethodName) prog_10_method_3_code (7 : Nat) (Option.some Jvm.ClassFile.FieldType.int)) ∈ Tb := tb3 226 rfl rfl
theorem w_769 : (Jvm.Cond.methodLink "UseOnceMachineModel" (50 : Nat) ({ cls := "UseOnceMachineModel", name := "in", desc := "(III)Z" } : Jvm.MethodName)) ∈ Tb := tb3 227 rfl rfl
theorem w_770 : (Jvm.Cond.static ({ cls := "UseOnceMachineModel", name := "in", desc := "(III)Z" } : Jvm.MethodName)) ∈ Tb := tb3 228 rfl rfl
theorem w_771 : (Jvm.Cond.code ({ cls := "UseOnceMachineModel", name := "in", desc := "(III)Z" } : Jvm.MethodName) prog_10_method_2_code (3 : Nat) (Option.some Jvm.ClassFile.FieldType.boolean)) ∈ Tb := tb3 229 rfl rfl
theorem w_772 : (Jvm.Cond.methodLink "UseOnceMachineLaw" (22 : Nat) ({ cls := "UseOnceMachineModel", name := "boot", desc := "()Z" } : Jvm.MethodName)) ∈ Tb := tb3 230 rfl rfl
theorem w_773 : (Jvm.Cond.instanceMethod ({ cls := "UseOnceMachineModel", name := "boot", desc := "()Z" } : Jvm.MethodName)) ∈ Tb := tb3 231 rfl rfl
theorem w_774 : (Jvm.Cond.selects "UseOnceMachineModel" ({ cls := "UseOnceMachineModel", name := "boot", desc := "()Z" } : Jvm.MethodName) ({ cls := "UseOnceMachineModel", name := "boot", desc := "()Z" } : Jvm.MethodName)) ∈ Tb := tb3 232 rfl rfl
theorem w_775 : (Jvm.Cond.code ({ cls := "UseOnceMachineModel", name := "boot", desc := "()Z" } : Jvm.MethodName) prog_10_method_14_code (2 : Nat) (Option.some Jvm.ClassFile.FieldType.boolean)) ∈ Tb := tb3 233 rfl rfl
theorem w_776 : (Jvm.Cond.methodLink "UseOnceMachineModel" (97 : Nat) ({ cls := "UseOnceMachineModel", name := "begin", desc := "()V" } : Jvm.MethodName)) ∈ Tb := tb3 234 rfl rfl
theorem w_778 : (Jvm.Cond.instanceMethod ({ cls := "UseOnceMachineModel", name := "begin", desc := "()V" } : Jvm.MethodName)) ∈ Tb := tb3 236 rfl rfl
theorem w_779 : (Jvm.Cond.code ({ cls := "UseOnceMachineModel", name := "begin", desc := "()V" } : Jvm.MethodName) prog_10_method_13_code (2 : Nat) (Option.none : Option Jvm.ClassFile.FieldType)) ∈ Tb := tb3 237 rfl rfl
theorem w_780 : (Jvm.Cond.methodLink "UseOnceMachineModel" (70 : Nat) ({ cls := "UseOnceMachineModel", name := "clear", desc := "(I)V" } : Jvm.MethodName)) ∈ Tb := tb3 238 rfl rfl
theorem w_782 : (Jvm.Cond.instanceMethod ({ cls := "UseOnceMachineModel", name := "clear", desc := "(I)V" } : Jvm.MethodName)) ∈ Tb := tb4 0 rfl rfl
theorem w_783 : (Jvm.Cond.code ({ cls := "UseOnceMachineModel", name := "clear", desc := "(I)V" } : Jvm.MethodName) prog_10_method_7_code (2 : Nat) (Option.none : Option Jvm.ClassFile.FieldType)) ∈ Tb := tb4 1 rfl rfl
theorem w_784 : (Jvm.Cond.methodLink "UseOnceMachineModel" (58 : Nat) ({ cls := "UseOnceMachineModel", name := "put", desc := "(IIIIII)V" } : Jvm.MethodName)) ∈ Tb := tb4 2 rfl rfl
theorem w_786 : (Jvm.Cond.instanceMethod ({ cls := "UseOnceMachineModel", name := "put", desc := "(IIIIII)V" } : Jvm.MethodName)) ∈ Tb := tb4 4 rfl rfl
theorem w_787 : (Jvm.Cond.code ({ cls := "UseOnceMachineModel", name := "put", desc := "(IIIIII)V" } : Jvm.MethodName) prog_10_method_6_code (7 : Nat) (Option.none : Option Jvm.ClassFile.FieldType)) ∈ Tb := tb4 5 rfl rfl
theorem w_788 : (Jvm.Cond.methodLink "UseOnceMachineLaw" (27 : Nat) ({ cls := "UseOnceMachineModel", name := "step", desc := "(I)I" } : Jvm.MethodName)) ∈ Tb := tb4 6 rfl rfl
theorem w_789 : (Jvm.Cond.instanceMethod ({ cls := "UseOnceMachineModel", name := "step", desc := "(I)I" } : Jvm.MethodName)) ∈ Tb := tb4 7 rfl rfl
theorem w_790 : (Jvm.Cond.selects "UseOnceMachineModel" ({ cls := "UseOnceMachineModel", name := "step", desc := "(I)I" } : Jvm.MethodName) ({ cls := "UseOnceMachineModel", name := "step", desc := "(I)I" } : Jvm.MethodName)) ∈ Tb := tb4 8 rfl rfl
theorem w_791 : (Jvm.Cond.code ({ cls := "UseOnceMachineModel", name := "step", desc := "(I)I" } : Jvm.MethodName) prog_10_method_15_code (3 : Nat) (Option.some Jvm.ClassFile.FieldType.int)) ∈ Tb := tb4 9 rfl rfl
theorem w_792 : (Jvm.Cond.methodLink "UseOnceMachineModel" (100 : Nat) ({ cls := "UseOnceMachineModel", name := "order", desc := "()V" } : Jvm.MethodName)) ∈ Tb := tb4 10 rfl rfl
theorem w_794 : (Jvm.Cond.instanceMethod ({ cls := "UseOnceMachineModel", name := "order", desc := "()V" } : Jvm.MethodName)) ∈ Tb := tb4 12 rfl rfl
theorem w_795 : (Jvm.Cond.code ({ cls := "UseOnceMachineModel", name := "order", desc := "()V" } : Jvm.MethodName) prog_10_method_19_code (11 : Nat) (Option.none : Option Jvm.ClassFile.FieldType)) ∈ Tb := tb4 13 rfl rfl
theorem w_796 : (Jvm.Cond.methodLink "UseOnceMachineModel" (103 : Nat) ({ cls := "UseOnceMachineModel", name := "simple", desc := "(III)I" } : Jvm.MethodName)) ∈ Tb := tb4 14 rfl rfl
theorem w_798 : (Jvm.Cond.instanceMethod ({ cls := "UseOnceMachineModel", name := "simple", desc := "(III)I" } : Jvm.MethodName)) ∈ Tb := tb4 16 rfl rfl
theorem w_799 : (Jvm.Cond.code ({ cls := "UseOnceMachineModel", name := "simple", desc := "(III)I" } : Jvm.MethodName) prog_10_method_20_code (4 : Nat) (Option.some Jvm.ClassFile.FieldType.int)) ∈ Tb := tb4 17 rfl rfl
theorem w_800 : (Jvm.Cond.methodLink "UseOnceMachineModel" (130 : Nat) ({ cls := "UseOnceMachineModel", name := "isNumber", desc := "(I)Z" } : Jvm.MethodName)) ∈ Tb := tb4 18 rfl rfl
theorem w_802 : (Jvm.Cond.instanceMethod ({ cls := "UseOnceMachineModel", name := "isNumber", desc := "(I)Z" } : Jvm.MethodName)) ∈ Tb := tb4 20 rfl rfl
theorem w_803 : (Jvm.Cond.code ({ cls := "UseOnceMachineModel", name := "isNumber", desc := "(I)Z" } : Jvm.MethodName) prog_10_method_10_code (2 : Nat) (Option.some Jvm.ClassFile.FieldType.boolean)) ∈ Tb := tb4 21 rfl rfl
theorem w_804 : (Jvm.Cond.methodLink "UseOnceMachineModel" (62 : Nat) ({ cls := "UseOnceMachineModel", name := "what", desc := "(I)I" } : Jvm.MethodName)) ∈ Tb := tb4 22 rfl rfl
theorem w_806 : (Jvm.Cond.instanceMethod ({ cls := "UseOnceMachineModel", name := "what", desc := "(I)I" } : Jvm.MethodName)) ∈ Tb := tb4 24 rfl rfl
theorem w_807 : (Jvm.Cond.code ({ cls := "UseOnceMachineModel", name := "what", desc := "(I)I" } : Jvm.MethodName) prog_10_method_5_code (2 : Nat) (Option.some Jvm.ClassFile.FieldType.int)) ∈ Tb := tb4 25 rfl rfl
theorem w_808 : (Jvm.Cond.methodLink "UseOnceMachineModel" (134 : Nat) ({ cls := "UseOnceMachineModel", name := "assign", desc := "(II)V" } : Jvm.MethodName)) ∈ Tb := tb4 26 rfl rfl
theorem w_810 : (Jvm.Cond.instanceMethod ({ cls := "UseOnceMachineModel", name := "assign", desc := "(II)V" } : Jvm.MethodName)) ∈ Tb := tb4 28 rfl rfl
theorem w_811 : (Jvm.Cond.code ({ cls := "UseOnceMachineModel", name := "assign", desc := "(II)V" } : Jvm.MethodName) prog_10_method_9_code (3 : Nat) (Option.none : Option Jvm.ClassFile.FieldType)) ∈ Tb := tb4 29 rfl rfl
theorem w_812 : (Jvm.Cond.methodLink "UseOnceMachineModel" (74 : Nat) ({ cls := "UseOnceMachineModel", name := "shift", desc := "(II)V" } : Jvm.MethodName)) ∈ Tb := tb4 30 rfl rfl
theorem w_814 : (Jvm.Cond.instanceMethod ({ cls := "UseOnceMachineModel", name := "shift", desc := "(II)V" } : Jvm.MethodName)) ∈ Tb := tb4 32 rfl rfl
theorem w_815 : (Jvm.Cond.code ({ cls := "UseOnceMachineModel", name := "shift", desc := "(II)V" } : Jvm.MethodName) prog_10_method_8_code (3 : Nat) (Option.none : Option Jvm.ClassFile.FieldType)) ∈ Tb := tb4 33 rfl rfl
theorem w_816 : (Jvm.Cond.methodLink "UseOnceMachineModel" (66 : Nat) ({ cls := "UseOnceMachineModel", name := "get", desc := "(II)I" } : Jvm.MethodName)) ∈ Tb := tb4 34 rfl rfl
theorem w_818 : (Jvm.Cond.instanceMethod ({ cls := "UseOnceMachineModel", name := "get", desc := "(II)I" } : Jvm.MethodName)) ∈ Tb := tb4 36 rfl rfl
theorem w_819 : (Jvm.Cond.code ({ cls := "UseOnceMachineModel", name := "get", desc := "(II)I" } : Jvm.MethodName) prog_10_method_4_code (3 : Nat) (Option.some Jvm.ClassFile.FieldType.int)) ∈ Tb := tb4 37 rfl rfl
theorem w_820 : (Jvm.Cond.methodLink "UseOnceMachineModel" (107 : Nat) ({ cls := "UseOnceMachineModel", name := "ranges", desc := "(IIII)I" } : Jvm.MethodName)) ∈ Tb := tb4 38 rfl rfl
theorem w_822 : (Jvm.Cond.instanceMethod ({ cls := "UseOnceMachineModel", name := "ranges", desc := "(IIII)I" } : Jvm.MethodName)) ∈ Tb := tb4 40 rfl rfl
theorem w_823 : (Jvm.Cond.code ({ cls := "UseOnceMachineModel", name := "ranges", desc := "(IIII)I" } : Jvm.MethodName) prog_10_method_21_code (8 : Nat) (Option.some Jvm.ClassFile.FieldType.int)) ∈ Tb := tb4 41 rfl rfl
theorem w_824 : (Jvm.Cond.methodLink "UseOnceMachineModel" (137 : Nat) ({ cls := "UseOnceMachineModel", name := "merge", desc := "(II)I" } : Jvm.MethodName)) ∈ Tb := tb4 42 rfl rfl
theorem w_826 : (Jvm.Cond.instanceMethod ({ cls := "UseOnceMachineModel", name := "merge", desc := "(II)I" } : Jvm.MethodName)) ∈ Tb := tb4 44 rfl rfl
theorem w_827 : (Jvm.Cond.code ({ cls := "UseOnceMachineModel", name := "merge", desc := "(II)I" } : Jvm.MethodName) prog_10_method_22_code (7 : Nat) (Option.some Jvm.ClassFile.FieldType.int)) ∈ Tb := tb4 45 rfl rfl
theorem w_828 : (Jvm.Cond.methodLink "UseOnceMachineModel" (111 : Nat) ({ cls := "UseOnceMachineModel", name := "cells", desc := "(II)I" } : Jvm.MethodName)) ∈ Tb := tb4 46 rfl rfl
theorem w_830 : (Jvm.Cond.instanceMethod ({ cls := "UseOnceMachineModel", name := "cells", desc := "(II)I" } : Jvm.MethodName)) ∈ Tb := tb4 48 rfl rfl
theorem w_831 : (Jvm.Cond.code ({ cls := "UseOnceMachineModel", name := "cells", desc := "(II)I" } : Jvm.MethodName) prog_10_method_23_code (6 : Nat) (Option.some Jvm.ClassFile.FieldType.int)) ∈ Tb := tb4 49 rfl rfl
theorem w_832 : (Jvm.Cond.methodLink "UseOnceMachineModel" (140 : Nat) ({ cls := "UseOnceMachineModel", name := "lowestCell", desc := "()I" } : Jvm.MethodName)) ∈ Tb := tb4 50 rfl rfl
theorem w_834 : (Jvm.Cond.instanceMethod ({ cls := "UseOnceMachineModel", name := "lowestCell", desc := "()I" } : Jvm.MethodName)) ∈ Tb := tb4 52 rfl rfl
theorem w_835 : (Jvm.Cond.code ({ cls := "UseOnceMachineModel", name := "lowestCell", desc := "()I" } : Jvm.MethodName) prog_10_method_17_code (3 : Nat) (Option.some Jvm.ClassFile.FieldType.int)) ∈ Tb := tb4 53 rfl rfl
theorem w_836 : (Jvm.Cond.methodLink "UseOnceMachineModel" (114 : Nat) ({ cls := "UseOnceMachineModel", name := "memory", desc := "(IIII)I" } : Jvm.MethodName)) ∈ Tb := tb4 54 rfl rfl
theorem w_838 : (Jvm.Cond.instanceMethod ({ cls := "UseOnceMachineModel", name := "memory", desc := "(IIII)I" } : Jvm.MethodName)) ∈ Tb := tb4 56 rfl rfl
theorem w_839 : (Jvm.Cond.code ({ cls := "UseOnceMachineModel", name := "memory", desc := "(IIII)I" } : Jvm.MethodName) prog_10_method_24_code (9 : Nat) (Option.some Jvm.ClassFile.FieldType.int)) ∈ Tb := tb4 57 rfl rfl
theorem w_840 : (Jvm.Cond.methodLink "UseOnceMachineModel" (143 : Nat) ({ cls := "UseOnceMachineModel", name := "length", desc := "(I)I" } : Jvm.MethodName)) ∈ Tb := tb4 58 rfl rfl
theorem w_842 : (Jvm.Cond.instanceMethod ({ cls := "UseOnceMachineModel", name := "length", desc := "(I)I" } : Jvm.MethodName)) ∈ Tb := tb4 60 rfl rfl
theorem w_843 : (Jvm.Cond.code ({ cls := "UseOnceMachineModel", name := "length", desc := "(I)I" } : Jvm.MethodName) prog_10_method_12_code (2 : Nat) (Option.some Jvm.ClassFile.FieldType.int)) ∈ Tb := tb4 61 rfl rfl
theorem w_844 : (Jvm.Cond.methodLink "UseOnceMachineModel" (146 : Nat) ({ cls := "UseOnceMachineModel", name := "has", desc := "(II)Z" } : Jvm.MethodName)) ∈ Tb := tb4 62 rfl rfl
theorem w_846 : (Jvm.Cond.instanceMethod ({ cls := "UseOnceMachineModel", name := "has", desc := "(II)Z" } : Jvm.MethodName)) ∈ Tb := tb4 64 rfl rfl
theorem w_847 : (Jvm.Cond.code ({ cls := "UseOnceMachineModel", name := "has", desc := "(II)Z" } : Jvm.MethodName) prog_10_method_11_code (3 : Nat) (Option.some Jvm.ClassFile.FieldType.boolean)) ∈ Tb := tb4 65 rfl rfl
theorem w_848 : (Jvm.Cond.methodLink "UseOnceMachineModel" (117 : Nat) ({ cls := "UseOnceMachineModel", name := "jumps", desc := "(IIII)I" } : Jvm.MethodName)) ∈ Tb := tb4 66 rfl rfl
theorem w_850 : (Jvm.Cond.instanceMethod ({ cls := "UseOnceMachineModel", name := "jumps", desc := "(IIII)I" } : Jvm.MethodName)) ∈ Tb := tb4 68 rfl rfl
theorem w_851 : (Jvm.Cond.code ({ cls := "UseOnceMachineModel", name := "jumps", desc := "(IIII)I" } : Jvm.MethodName) prog_10_method_25_code (7 : Nat) (Option.some Jvm.ClassFile.FieldType.int)) ∈ Tb := tb4 69 rfl rfl
theorem w_852 : (Jvm.Cond.methodLink "UseOnceMachineModel" (120 : Nat) ({ cls := "UseOnceMachineModel", name := "seal", desc := "(III)I" } : Jvm.MethodName)) ∈ Tb := tb4 70 rfl rfl
theorem w_854 : (Jvm.Cond.instanceMethod ({ cls := "UseOnceMachineModel", name := "seal", desc := "(III)I" } : Jvm.MethodName)) ∈ Tb := tb4 72 rfl rfl
theorem w_855 : (Jvm.Cond.code ({ cls := "UseOnceMachineModel", name := "seal", desc := "(III)I" } : Jvm.MethodName) prog_10_method_26_code (5 : Nat) (Option.some Jvm.ClassFile.FieldType.int)) ∈ Tb := tb4 73 rfl rfl
theorem w_856 : (Jvm.Cond.methodLink "UseOnceMachineModel" (150 : Nat) ({ cls := "UseOnceMachineModel", name := "lowestGate", desc := "()I" } : Jvm.MethodName)) ∈ Tb := tb4 74 rfl rfl
theorem w_858 : (Jvm.Cond.instanceMethod ({ cls := "UseOnceMachineModel", name := "lowestGate", desc := "()I" } : Jvm.MethodName)) ∈ Tb := tb4 76 rfl rfl
theorem w_859 : (Jvm.Cond.code ({ cls := "UseOnceMachineModel", name := "lowestGate", desc := "()I" } : Jvm.MethodName) prog_10_method_18_code (3 : Nat) (Option.some Jvm.ClassFile.FieldType.int)) ∈ Tb := tb4 77 rfl rfl
theorem w_860 : (Jvm.Cond.methodLink "UseOnceMachineModel" (123 : Nat) ({ cls := "UseOnceMachineModel", name := "call", desc := "(II)I" } : Jvm.MethodName)) ∈ Tb := tb4 78 rfl rfl
theorem w_862 : (Jvm.Cond.instanceMethod ({ cls := "UseOnceMachineModel", name := "call", desc := "(II)I" } : Jvm.MethodName)) ∈ Tb := tb4 80 rfl rfl
theorem w_863 : (Jvm.Cond.code ({ cls := "UseOnceMachineModel", name := "call", desc := "(II)I" } : Jvm.MethodName) prog_10_method_29_code (6 : Nat) (Option.some Jvm.ClassFile.FieldType.int)) ∈ Tb := tb4 81 rfl rfl
theorem w_864 : (Jvm.Cond.methodLink "UseOnceMachineModel" (153 : Nat) ({ cls := "UseOnceMachineModel", name := "noteDown", desc := "(III)V" } : Jvm.MethodName)) ∈ Tb := tb4 82 rfl rfl
theorem w_866 : (Jvm.Cond.instanceMethod ({ cls := "UseOnceMachineModel", name := "noteDown", desc := "(III)V" } : Jvm.MethodName)) ∈ Tb := tb4 84 rfl rfl
theorem w_867 : (Jvm.Cond.code ({ cls := "UseOnceMachineModel", name := "noteDown", desc := "(III)V" } : Jvm.MethodName) prog_10_method_27_code (5 : Nat) (Option.none : Option Jvm.ClassFile.FieldType)) ∈ Tb := tb4 85 rfl rfl
theorem w_868 : (Jvm.Cond.methodLink "UseOnceMachineModel" (126 : Nat) ({ cls := "UseOnceMachineModel", name := "comeBack", desc := "()I" } : Jvm.MethodName)) ∈ Tb := tb4 86 rfl rfl
theorem w_870 : (Jvm.Cond.instanceMethod ({ cls := "UseOnceMachineModel", name := "comeBack", desc := "()I" } : Jvm.MethodName)) ∈ Tb := tb4 88 rfl rfl
theorem w_871 : (Jvm.Cond.code ({ cls := "UseOnceMachineModel", name := "comeBack", desc := "()I" } : Jvm.MethodName) prog_10_method_31_code (6 : Nat) (Option.some Jvm.ClassFile.FieldType.int)) ∈ Tb := tb4 89 rfl rfl
theorem w_872 : (Jvm.Cond.methodLink "UseOnceMachineModel" (157 : Nat) ({ cls := "UseOnceMachineModel", name := "isAsNoted", desc := "(III)Z" } : Jvm.MethodName)) ∈ Tb := tb4 90 rfl rfl
theorem w_874 : (Jvm.Cond.instanceMethod ({ cls := "UseOnceMachineModel", name := "isAsNoted", desc := "(III)Z" } : Jvm.MethodName)) ∈ Tb := tb4 92 rfl rfl
theorem w_875 : (Jvm.Cond.code ({ cls := "UseOnceMachineModel", name := "isAsNoted", desc := "(III)Z" } : Jvm.MethodName) prog_10_method_30_code (6 : Nat) (Option.some Jvm.ClassFile.FieldType.boolean)) ∈ Tb := tb4 93 rfl rfl
theorem w_876 : (Jvm.Cond.methodLink "UseOnceMachineModel" (160 : Nat) ({ cls := "UseOnceMachineModel", name := "isLent", desc := "(III)Z" } : Jvm.MethodName)) ∈ Tb := tb4 94 rfl rfl
theorem w_878 : (Jvm.Cond.instanceMethod ({ cls := "UseOnceMachineModel", name := "isLent", desc := "(III)Z" } : Jvm.MethodName)) ∈ Tb := tb4 96 rfl rfl
theorem w_879 : (Jvm.Cond.code ({ cls := "UseOnceMachineModel", name := "isLent", desc := "(III)Z" } : Jvm.MethodName) prog_10_method_28_code (4 : Nat) (Option.some Jvm.ClassFile.FieldType.boolean)) ∈ Tb := tb4 97 rfl rfl
theorem w_880 : (Jvm.Cond.methodLink "UseOnceMachineLaw" (31 : Nat) ({ cls := "UseOnceMachineModel", name := "undo", desc := "(I)I" } : Jvm.MethodName)) ∈ Tb := tb4 98 rfl rfl
theorem w_881 : (Jvm.Cond.instanceMethod ({ cls := "UseOnceMachineModel", name := "undo", desc := "(I)I" } : Jvm.MethodName)) ∈ Tb := tb4 99 rfl rfl
theorem w_882 : (Jvm.Cond.selects "UseOnceMachineModel" ({ cls := "UseOnceMachineModel", name := "undo", desc := "(I)I" } : Jvm.MethodName) ({ cls := "UseOnceMachineModel", name := "undo", desc := "(I)I" } : Jvm.MethodName)) ∈ Tb := tb4 100 rfl rfl
theorem w_883 : (Jvm.Cond.code ({ cls := "UseOnceMachineModel", name := "undo", desc := "(I)I" } : Jvm.MethodName) prog_10_method_16_code (5 : Nat) (Option.some Jvm.ClassFile.FieldType.int)) ∈ Tb := tb4 101 rfl rfl
theorem w_884 : (Jvm.Cond.methodLink "UseOnceMachineLaw" (36 : Nat) ({ cls := "UseOnceMachineModel", name := "register", desc := "(II)I" } : Jvm.MethodName)) ∈ Tb := tb4 102 rfl rfl
theorem w_885 : (Jvm.Cond.instanceMethod ({ cls := "UseOnceMachineModel", name := "register", desc := "(II)I" } : Jvm.MethodName)) ∈ Tb := tb4 103 rfl rfl
theorem w_886 : (Jvm.Cond.selects "UseOnceMachineModel" ({ cls := "UseOnceMachineModel", name := "register", desc := "(II)I" } : Jvm.MethodName) ({ cls := "UseOnceMachineModel", name := "register", desc := "(II)I" } : Jvm.MethodName)) ∈ Tb := tb4 104 rfl rfl
theorem w_887 : (Jvm.Cond.code ({ cls := "UseOnceMachineModel", name := "register", desc := "(II)I" } : Jvm.MethodName) prog_10_method_33_code (3 : Nat) (Option.some Jvm.ClassFile.FieldType.int)) ∈ Tb := tb4 105 rfl rfl
theorem w_888 : (Jvm.Cond.methodLink "UseOnceMachineModel" (163 : Nat) ({ cls := "UseOnceMachineModel", name := "shown", desc := "(II)I" } : Jvm.MethodName)) ∈ Tb := tb4 106 rfl rfl
theorem w_890 : (Jvm.Cond.instanceMethod ({ cls := "UseOnceMachineModel", name := "shown", desc := "(II)I" } : Jvm.MethodName)) ∈ Tb := tb4 108 rfl rfl
theorem w_891 : (Jvm.Cond.code ({ cls := "UseOnceMachineModel", name := "shown", desc := "(II)I" } : Jvm.MethodName) prog_10_method_32_code (3 : Nat) (Option.some Jvm.ClassFile.FieldType.int)) ∈ Tb := tb4 109 rfl rfl
theorem w_892 : (Jvm.Cond.methodLink "UseOnceMachineLaw" (40 : Nat) ({ cls := "UseOnceMachineModel", name := "word", desc := "(II)I" } : Jvm.MethodName)) ∈ Tb := tb4 110 rfl rfl
theorem w_893 : (Jvm.Cond.instanceMethod ({ cls := "UseOnceMachineModel", name := "word", desc := "(II)I" } : Jvm.MethodName)) ∈ Tb := tb4 111 rfl rfl
theorem w_894 : (Jvm.Cond.selects "UseOnceMachineModel" ({ cls := "UseOnceMachineModel", name := "word", desc := "(II)I" } : Jvm.MethodName) ({ cls := "UseOnceMachineModel", name := "word", desc := "(II)I" } : Jvm.MethodName)) ∈ Tb := tb4 112 rfl rfl
theorem w_895 : (Jvm.Cond.code ({ cls := "UseOnceMachineModel", name := "word", desc := "(II)I" } : Jvm.MethodName) prog_10_method_34_code (3 : Nat) (Option.some Jvm.ClassFile.FieldType.int)) ∈ Tb := tb4 113 rfl rfl
theorem w_896 : (Jvm.Cond.methodLink "UseOnceMachineLaw" (44 : Nat) ({ cls := "UseOnceMachineModel", name := "look", desc := "(I)I" } : Jvm.MethodName)) ∈ Tb := tb4 114 rfl rfl
theorem w_897 : (Jvm.Cond.instanceMethod ({ cls := "UseOnceMachineModel", name := "look", desc := "(I)I" } : Jvm.MethodName)) ∈ Tb := tb4 115 rfl rfl
theorem w_898 : (Jvm.Cond.selects "UseOnceMachineModel" ({ cls := "UseOnceMachineModel", name := "look", desc := "(I)I" } : Jvm.MethodName) ({ cls := "UseOnceMachineModel", name := "look", desc := "(I)I" } : Jvm.MethodName)) ∈ Tb := tb4 116 rfl rfl
theorem w_899 : (Jvm.Cond.code ({ cls := "UseOnceMachineModel", name := "look", desc := "(I)I" } : Jvm.MethodName) prog_10_method_35_code (2 : Nat) (Option.some Jvm.ClassFile.FieldType.int)) ∈ Tb := tb4 117 rfl rfl
theorem w_900 : (Jvm.Cond.methodLink "UseOnceMachineLaw" (48 : Nat) ({ cls := "UseOnceMachineModel", name := "owner", desc := "(II)I" } : Jvm.MethodName)) ∈ Tb := tb4 118 rfl rfl
theorem w_901 : (Jvm.Cond.instanceMethod ({ cls := "UseOnceMachineModel", name := "owner", desc := "(II)I" } : Jvm.MethodName)) ∈ Tb := tb4 119 rfl rfl
theorem w_902 : (Jvm.Cond.selects "UseOnceMachineModel" ({ cls := "UseOnceMachineModel", name := "owner", desc := "(II)I" } : Jvm.MethodName) ({ cls := "UseOnceMachineModel", name := "owner", desc := "(II)I" } : Jvm.MethodName)) ∈ Tb := tb4 120 rfl rfl
theorem w_903 : (Jvm.Cond.code ({ cls := "UseOnceMachineModel", name := "owner", desc := "(II)I" } : Jvm.MethodName) prog_10_method_38_code (4 : Nat) (Option.some Jvm.ClassFile.FieldType.int)) ∈ Tb := tb4 121 rfl rfl
theorem w_904 : (Jvm.Cond.methodLink "UseOnceMachineModel" (166 : Nat) ({ cls := "UseOnceMachineModel", name := "owns", desc := "(III)Z" } : Jvm.MethodName)) ∈ Tb := tb4 122 rfl rfl
theorem w_906 : (Jvm.Cond.instanceMethod ({ cls := "UseOnceMachineModel", name := "owns", desc := "(III)Z" } : Jvm.MethodName)) ∈ Tb := tb4 124 rfl rfl
theorem w_907 : (Jvm.Cond.code ({ cls := "UseOnceMachineModel", name := "owns", desc := "(III)Z" } : Jvm.MethodName) prog_10_method_36_code (4 : Nat) (Option.some Jvm.ClassFile.FieldType.boolean)) ∈ Tb := tb4 125 rfl rfl
theorem w_908 : (Jvm.Cond.methodLink "UseOnceMachineModel" (169 : Nat) ({ cls := "UseOnceMachineModel", name := "cellOwns", desc := "(III)Z" } : Jvm.MethodName)) ∈ Tb := tb4 126 rfl rfl
theorem w_910 : (Jvm.Cond.instanceMethod ({ cls := "UseOnceMachineModel", name := "cellOwns", desc := "(III)Z" } : Jvm.MethodName)) ∈ Tb := tb4 128 rfl rfl
theorem w_911 : (Jvm.Cond.code ({ cls := "UseOnceMachineModel", name := "cellOwns", desc := "(III)Z" } : Jvm.MethodName) prog_10_method_37_code (4 : Nat) (Option.some Jvm.ClassFile.FieldType.boolean)) ∈ Tb := tb4 129 rfl rfl
theorem w_912 : (Jvm.Cond.methodLink "UseOnceMachineLaw" (52 : Nat) ({ cls := "UseOnceMachineModel", name := "count", desc := "(I)I" } : Jvm.MethodName)) ∈ Tb := tb4 130 rfl rfl
theorem w_913 : (Jvm.Cond.instanceMethod ({ cls := "UseOnceMachineModel", name := "count", desc := "(I)I" } : Jvm.MethodName)) ∈ Tb := tb4 131 rfl rfl
theorem w_914 : (Jvm.Cond.selects "UseOnceMachineModel" ({ cls := "UseOnceMachineModel", name := "count", desc := "(I)I" } : Jvm.MethodName) ({ cls := "UseOnceMachineModel", name := "count", desc := "(I)I" } : Jvm.MethodName)) ∈ Tb := tb4 132 rfl rfl
theorem w_915 : (Jvm.Cond.code ({ cls := "UseOnceMachineModel", name := "count", desc := "(I)I" } : Jvm.MethodName) prog_10_method_39_code (2 : Nat) (Option.some Jvm.ClassFile.FieldType.int)) ∈ Tb := tb4 133 rfl rfl
theorem w_916 : (Jvm.Cond.methodLink "UseOnceMachineLaw" (56 : Nat) ({ cls := "UseOnceMachineModel", name := "gate", desc := "(II)I" } : Jvm.MethodName)) ∈ Tb := tb4 134 rfl rfl
theorem w_917 : (Jvm.Cond.instanceMethod ({ cls := "UseOnceMachineModel", name := "gate", desc := "(II)I" } : Jvm.MethodName)) ∈ Tb := tb4 135 rfl rfl
theorem w_918 : (Jvm.Cond.selects "UseOnceMachineModel" ({ cls := "UseOnceMachineModel", name := "gate", desc := "(II)I" } : Jvm.MethodName) ({ cls := "UseOnceMachineModel", name := "gate", desc := "(II)I" } : Jvm.MethodName)) ∈ Tb := tb4 136 rfl rfl
theorem w_919 : (Jvm.Cond.code ({ cls := "UseOnceMachineModel", name := "gate", desc := "(II)I" } : Jvm.MethodName) prog_10_method_40_code (4 : Nat) (Option.some Jvm.ClassFile.FieldType.int)) ∈ Tb := tb4 137 rfl rfl
theorem w_920 : (Jvm.Cond.methodLink "UseOnceMachineLaw" (61 : Nat) ({ cls := "UseOnceMachineModel", name := "reach", desc := "()I" } : Jvm.MethodName)) ∈ Tb := tb4 138 rfl rfl
theorem w_921 : (Jvm.Cond.instanceMethod ({ cls := "UseOnceMachineModel", name := "reach", desc := "()I" } : Jvm.MethodName)) ∈ Tb := tb4 139 rfl rfl
theorem w_922 : (Jvm.Cond.selects "UseOnceMachineModel" ({ cls := "UseOnceMachineModel", name := "reach", desc := "()I" } : Jvm.MethodName) ({ cls := "UseOnceMachineModel", name := "reach", desc := "()I" } : Jvm.MethodName)) ∈ Tb := tb4 140 rfl rfl
theorem w_923 : (Jvm.Cond.code ({ cls := "UseOnceMachineModel", name := "reach", desc := "()I" } : Jvm.MethodName) prog_10_method_42_code (1 : Nat) (Option.some Jvm.ClassFile.FieldType.int)) ∈ Tb := tb4 141 rfl rfl
theorem w_924 : (Jvm.Cond.methodLink "UseOnceMachineModel" (172 : Nat) ({ cls := "UseOnceMachineModel", name := "spread", desc := "()I" } : Jvm.MethodName)) ∈ Tb := tb4 142 rfl rfl
theorem w_926 : (Jvm.Cond.instanceMethod ({ cls := "UseOnceMachineModel", name := "spread", desc := "()I" } : Jvm.MethodName)) ∈ Tb := tb4 144 rfl rfl
theorem w_927 : (Jvm.Cond.code ({ cls := "UseOnceMachineModel", name := "spread", desc := "()I" } : Jvm.MethodName) prog_10_method_41_code (8 : Nat) (Option.some Jvm.ClassFile.FieldType.int)) ∈ Tb := tb4 145 rfl rfl
theorem w_928 : (Jvm.Cond.methodLink "UseOnceMachineLaw" (66 : Nat) ({ cls := "UseOnceMachineModel", name := "reaches", desc := "(I)Z" } : Jvm.MethodName)) ∈ Tb := tb4 146 rfl rfl
theorem w_929 : (Jvm.Cond.instanceMethod ({ cls := "UseOnceMachineModel", name := "reaches", desc := "(I)Z" } : Jvm.MethodName)) ∈ Tb := tb4 147 rfl rfl
theorem w_930 : (Jvm.Cond.selects "UseOnceMachineModel" ({ cls := "UseOnceMachineModel", name := "reaches", desc := "(I)Z" } : Jvm.MethodName) ({ cls := "UseOnceMachineModel", name := "reaches", desc := "(I)Z" } : Jvm.MethodName)) ∈ Tb := tb4 148 rfl rfl
theorem w_931 : (Jvm.Cond.code ({ cls := "UseOnceMachineModel", name := "reaches", desc := "(I)Z" } : Jvm.MethodName) prog_10_method_43_code (2 : Nat) (Option.some Jvm.ClassFile.FieldType.boolean)) ∈ Tb := tb4 149 rfl rfl
theorem w_932 : (Jvm.Cond.methodLink "UseOnceMachineLaw" (70 : Nat) ({ cls := "UseOnceMachineModel", name := "conserve", desc := "()I" } : Jvm.MethodName)) ∈ Tb := tb4 150 rfl rfl
theorem w_933 : (Jvm.Cond.instanceMethod ({ cls := "UseOnceMachineModel", name := "conserve", desc := "()I" } : Jvm.MethodName)) ∈ Tb := tb4 151 rfl rfl
theorem w_934 : (Jvm.Cond.selects "UseOnceMachineModel" ({ cls := "UseOnceMachineModel", name := "conserve", desc := "()I" } : Jvm.MethodName) ({ cls := "UseOnceMachineModel", name := "conserve", desc := "()I" } : Jvm.MethodName)) ∈ Tb := tb4 152 rfl rfl
theorem w_935 : (Jvm.Cond.code ({ cls := "UseOnceMachineModel", name := "conserve", desc := "()I" } : Jvm.MethodName) prog_10_method_44_code (5 : Nat) (Option.some Jvm.ClassFile.FieldType.int)) ∈ Tb := tb4 153 rfl rfl
def TT0 : u_T := fun k => match k with
  | 0 => ("UseOnceMachine$Code", "orders", "[I", true)
  | _ => ("UseOnceMachine$Code", "sizes", "[I", true)
def ft0 : Nat → FieldType := fun k => match k with
  | 0 => .array .int
  | _ => .array .int
def TT1 : u_T := fun k => match k with
  | 0 => ("UseOnceMachine$History", "ring", "[LUseOnceMachine$State;", true)
  | 1 => ("UseOnceMachine$History", "next", "I", false)
  | _ => ("UseOnceMachine$History", "size", "I", false)
def ft1 : Nat → FieldType := fun k => match k with
  | 0 => .array (.object "UseOnceMachine$State")
  | 1 => .int
  | _ => .int
def TT2 : u_T := fun k => match k with
  | 0 => ("UseOnceMachine$Owners", "state", "LUseOnceMachine$State;", true)
  | 1 => ("UseOnceMachine$Owners", "tallies", "[I", true)
  | 2 => ("UseOnceMachine$Owners", "cellsOver", "[I", true)
  | _ => ("UseOnceMachine$Owners", "holders", "[I", true)
def ft2 : Nat → FieldType := fun k => match k with
  | 0 => .object "UseOnceMachine$State"
  | 1 => .array .int
  | 2 => .array .int
  | _ => .array .int
def TT3 : u_T := fun k => match k with
  | 0 => ("UseOnceMachine$Processor", "code", "LUseOnceMachine$Code;", true)
  | 1 => ("UseOnceMachine$Processor", "state", "LUseOnceMachine$State;", true)
  | 2 => ("UseOnceMachine$Processor", "operation", "I", false)
  | 3 => ("UseOnceMachine$Processor", "a", "I", false)
  | 4 => ("UseOnceMachine$Processor", "b", "I", false)
  | _ => ("UseOnceMachine$Processor", "c", "I", false)
def ft3 : Nat → FieldType := fun k => match k with
  | 0 => .object "UseOnceMachine$Code"
  | 1 => .object "UseOnceMachine$State"
  | 2 => .int
  | 3 => .int
  | 4 => .int
  | _ => .int
def TT4 : u_T := fun k => match k with
  | 0 => ("UseOnceMachine$Reach", "state", "LUseOnceMachine$State;", true)
  | 1 => ("UseOnceMachine$Reach", "reached", "[Z", true)
  | 2 => ("UseOnceMachine$Reach", "readable", "[Z", true)
  | 3 => ("UseOnceMachine$Reach", "found", "[I", true)
  | _ => ("UseOnceMachine$Reach", "foundSize", "I", false)
def ft4 : Nat → FieldType := fun k => match k with
  | 0 => .object "UseOnceMachine$State"
  | 1 => .array .boolean
  | 2 => .array .boolean
  | 3 => .array .int
  | _ => .int
def TT5 : u_T := fun k => match k with
  | 0 => ("UseOnceMachine$State", "places", "[J", true)
  | 1 => ("UseOnceMachine$State", "notes", "[J", true)
  | 2 => ("UseOnceMachine$State", "counts", "[I", true)
  | 3 => ("UseOnceMachine$State", "gateStates", "[I", true)
  | 4 => ("UseOnceMachine$State", "gateModules", "[I", true)
  | 5 => ("UseOnceMachine$State", "gatePatterns", "[I", true)
  | 6 => ("UseOnceMachine$State", "frameOrders", "[I", true)
  | 7 => ("UseOnceMachine$State", "frameModules", "[I", true)
  | 8 => ("UseOnceMachine$State", "frameGates", "[I", true)
  | 9 => ("UseOnceMachine$State", "framePassed", "[I", true)
  | 10 => ("UseOnceMachine$State", "depth", "I", false)
  | 11 => ("UseOnceMachine$State", "module", "I", false)
  | 12 => ("UseOnceMachine$State", "order", "I", false)
  | 13 => ("UseOnceMachine$State", "done", "I", false)
  | _ => ("UseOnceMachine$State", "stop", "I", false)
def ft5 : Nat → FieldType := fun k => match k with
  | 0 => .array .long
  | 1 => .array .long
  | 2 => .array .int
  | 3 => .array .int
  | 4 => .array .int
  | 5 => .array .int
  | 6 => .array .int
  | 7 => .array .int
  | 8 => .array .int
  | 9 => .array .int
  | 10 => .int
  | 11 => .int
  | 12 => .int
  | 13 => .int
  | _ => .int
def TT6 : u_T := fun k => match k with
  | 0 => ("UseOnceMachine", "code", "LUseOnceMachine$Code;", true)
  | 1 => ("UseOnceMachine", "state", "LUseOnceMachine$State;", true)
  | 2 => ("UseOnceMachine", "history", "LUseOnceMachine$History;", true)
  | 3 => ("UseOnceMachine", "processor", "LUseOnceMachine$Processor;", true)
  | 4 => ("UseOnceMachine", "owners", "LUseOnceMachine$Owners;", true)
  | 5 => ("UseOnceMachine", "reach", "LUseOnceMachine$Reach;", true)
  | _ => ("UseOnceMachine", "booted", "Z", false)
def ft6 : Nat → FieldType := fun k => match k with
  | 0 => .object "UseOnceMachine$Code"
  | 1 => .object "UseOnceMachine$State"
  | 2 => .object "UseOnceMachine$History"
  | 3 => .object "UseOnceMachine$Processor"
  | 4 => .object "UseOnceMachine$Owners"
  | 5 => .object "UseOnceMachine$Reach"
  | _ => .boolean
def TT7 : u_T := fun k => match k with
  | 0 => ("UseOnceMachineModel", "booted", "Z", false)
  | 1 => ("UseOnceMachineModel", "size", "[I", true)
  | 2 => ("UseOnceMachineModel", "orders", "[I", true)
  | 3 => ("UseOnceMachineModel", "place", "[I", true)
  | 4 => ("UseOnceMachineModel", "counts", "[I", true)
  | 5 => ("UseOnceMachineModel", "cellFrom", "[I", true)
  | 6 => ("UseOnceMachineModel", "cellEnd", "[I", true)
  | 7 => ("UseOnceMachineModel", "gateState", "[I", true)
  | 8 => ("UseOnceMachineModel", "gateModule", "[I", true)
  | 9 => ("UseOnceMachineModel", "gatePattern", "[I", true)
  | 10 => ("UseOnceMachineModel", "depth", "I", false)
  | 11 => ("UseOnceMachineModel", "frame", "[I", true)
  | 12 => ("UseOnceMachineModel", "note", "[I", true)
  | 13 => ("UseOnceMachineModel", "module", "I", false)
  | 14 => ("UseOnceMachineModel", "next", "I", false)
  | 15 => ("UseOnceMachineModel", "stopped", "I", false)
  | 16 => ("UseOnceMachineModel", "done", "I", false)
  | 17 => ("UseOnceMachineModel", "kept", "I", false)
  | 18 => ("UseOnceMachineModel", "near", "[Z", true)
  | _ => ("UseOnceMachineModel", "read", "[Z", true)
def ft7 : Nat → FieldType := fun k => match k with
  | 0 => .boolean
  | 1 => .array .int
  | 2 => .array .int
  | 3 => .array .int
  | 4 => .array .int
  | 5 => .array .int
  | 6 => .array .int
  | 7 => .array .int
  | 8 => .array .int
  | 9 => .array .int
  | 10 => .int
  | 11 => .array .int
  | 12 => .array .int
  | 13 => .int
  | 14 => .int
  | 15 => .int
  | 16 => .int
  | 17 => .int
  | 18 => .array .boolean
  | _ => .array .boolean
abbrev vwCl : List vw_C := [("UseOnceMachine$Code", TT0, 2), ("UseOnceMachine$History", TT1, 3), ("UseOnceMachine$Owners", TT2, 4), ("UseOnceMachine$Processor", TT3, 6), ("UseOnceMachine$Reach", TT4, 5), ("UseOnceMachine$State", TT5, 15), ("UseOnceMachine", TT6, 7), ("UseOnceMachineModel", TT7, 20)]
abbrev TYs : List FieldType := [.int, .long, .boolean, .object "UseOnceMachine$State"]
abbrev ZSs : List (String × String × String × Nat) := [("UseOnceMachine$Processor", "NAMED", "[I", 0)]
abbrev NMs : List (String × Nat × MethodName × String) := [("UseOnceMachine", 11, ⟨"UseOnceMachine$Code", "<init>", "()V"⟩, "UseOnceMachine"), ("UseOnceMachine", 18, ⟨"UseOnceMachine$State", "<init>", "()V"⟩, "UseOnceMachine"), ("UseOnceMachine", 25, ⟨"UseOnceMachine$History", "<init>", "()V"⟩, "UseOnceMachine"), ("UseOnceMachine$History", 24, ⟨"UseOnceMachine$State", "<init>", "()V"⟩, "UseOnceMachine")]
abbrev AOs : List String := ["UseOnceMachine$State"]

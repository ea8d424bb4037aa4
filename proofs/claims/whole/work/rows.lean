section
-- ===== PART A: goes FIRST, ahead of the names: the tables' words, and 'selects' of the private methods out of them =====
/-- a private method of a class that the tables say can be made, by its rows of tables_1 -/
def lw_okq (q : MethodName × Nat) : Prop := (q.1.cls ≠ "java/lang/invoke/MethodHandle" ∧ q.1.cls ≠ "java/lang/invoke/VarHandle") ∧ Cond.instantiable q.1.cls q.2 ∈ tables_1 ∧ Cond.privateMethod q.1 ∈ tables_1 ∧ Cond.instanceMethod q.1 ∈ tables_1
theorem lw_p0 : lw_okq (⟨"AlmsKernel", "isComing", "(I)Z"⟩, 19) := ⟨⟨by decide +kernel, by decide +kernel⟩, List.mem_of_getElem? (i := 12) (by decide +kernel), List.mem_of_getElem? (i := 103) (by decide +kernel), List.mem_of_getElem? (i := 104) (by decide +kernel)⟩
theorem lw_p1 : lw_okq (⟨"java/lang/Throwable", "fillInStackTrace", "(I)Ljava/lang/Throwable;"⟩, 6) := ⟨⟨by decide +kernel, by decide +kernel⟩, List.mem_of_getElem? (i := 160) (by decide +kernel), List.mem_of_getElem? (i := 158) (by decide +kernel), List.mem_of_getElem? (i := 159) (by decide +kernel)⟩
theorem lw_p2 : lw_okq (⟨"AlmsKernel", "lowestEmptyFrame", "(I)I"⟩, 19) := ⟨⟨by decide +kernel, by decide +kernel⟩, List.mem_of_getElem? (i := 12) (by decide +kernel), List.mem_of_getElem? (i := 238) (by decide +kernel), List.mem_of_getElem? (i := 239) (by decide +kernel)⟩
theorem lw_p3 : lw_okq (⟨"AlmsKernel", "dropPage", "(I)V"⟩, 19) := ⟨⟨by decide +kernel, by decide +kernel⟩, List.mem_of_getElem? (i := 12) (by decide +kernel), List.mem_of_getElem? (i := 261) (by decide +kernel), List.mem_of_getElem? (i := 262) (by decide +kernel)⟩
theorem lw_p4 : lw_okq (⟨"AlmsKernel", "frameWithPage", "(II)I"⟩, 19) := ⟨⟨by decide +kernel, by decide +kernel⟩, List.mem_of_getElem? (i := 12) (by decide +kernel), List.mem_of_getElem? (i := 277) (by decide +kernel), List.mem_of_getElem? (i := 278) (by decide +kernel)⟩
theorem lw_p5 : lw_okq (⟨"AlmsKernel", "frameForFault", "(I)I"⟩, 19) := ⟨⟨by decide +kernel, by decide +kernel⟩, List.mem_of_getElem? (i := 12) (by decide +kernel), List.mem_of_getElem? (i := 281) (by decide +kernel), List.mem_of_getElem? (i := 282) (by decide +kernel)⟩
theorem lw_p6 : lw_okq (⟨"AlmsKernel", "callIn", "(I)I"⟩, 19) := ⟨⟨by decide +kernel, by decide +kernel⟩, List.mem_of_getElem? (i := 12) (by decide +kernel), List.mem_of_getElem? (i := 285) (by decide +kernel), List.mem_of_getElem? (i := 286) (by decide +kernel)⟩
theorem lw_p7 : lw_okq (⟨"AlmsKernel", "endLoan", "(I)V"⟩, 19) := ⟨⟨by decide +kernel, by decide +kernel⟩, List.mem_of_getElem? (i := 12) (by decide +kernel), List.mem_of_getElem? (i := 289) (by decide +kernel), List.mem_of_getElem? (i := 290) (by decide +kernel)⟩
theorem lw_p8 : lw_okq (⟨"AlmsKernel", "borrow", "(I)I"⟩, 19) := ⟨⟨by decide +kernel, by decide +kernel⟩, List.mem_of_getElem? (i := 12) (by decide +kernel), List.mem_of_getElem? (i := 293) (by decide +kernel), List.mem_of_getElem? (i := 294) (by decide +kernel)⟩
theorem lw_p9 : lw_okq (⟨"AlmsKernel", "countBorrowed", "(I)I"⟩, 19) := ⟨⟨by decide +kernel, by decide +kernel⟩, List.mem_of_getElem? (i := 12) (by decide +kernel), List.mem_of_getElem? (i := 297) (by decide +kernel), List.mem_of_getElem? (i := 298) (by decide +kernel)⟩
theorem lw_p10 : lw_okq (⟨"AlmsKernel", "richestLender", "(I)I"⟩, 19) := ⟨⟨by decide +kernel, by decide +kernel⟩, List.mem_of_getElem? (i := 12) (by decide +kernel), List.mem_of_getElem? (i := 301) (by decide +kernel), List.mem_of_getElem? (i := 302) (by decide +kernel)⟩
theorem lw_p11 : lw_okq (⟨"AlmsKernel", "frameToLend", "(I)I"⟩, 19) := ⟨⟨by decide +kernel, by decide +kernel⟩, List.mem_of_getElem? (i := 12) (by decide +kernel), List.mem_of_getElem? (i := 305) (by decide +kernel), List.mem_of_getElem? (i := 306) (by decide +kernel)⟩
theorem lw_p12 : lw_okq (⟨"AlmsKernel", "ageOf", "(I)I"⟩, 19) := ⟨⟨by decide +kernel, by decide +kernel⟩, List.mem_of_getElem? (i := 12) (by decide +kernel), List.mem_of_getElem? (i := 309) (by decide +kernel), List.mem_of_getElem? (i := 310) (by decide +kernel)⟩
theorem lw_p13 : lw_okq (⟨"AlmsKernel", "oldestFrame", "(I)I"⟩, 19) := ⟨⟨by decide +kernel, by decide +kernel⟩, List.mem_of_getElem? (i := 12) (by decide +kernel), List.mem_of_getElem? (i := 314) (by decide +kernel), List.mem_of_getElem? (i := 315) (by decide +kernel)⟩
theorem lw_p14 : lw_okq (⟨"AlmsKernel", "isLoan", "(I)Z"⟩, 19) := ⟨⟨by decide +kernel, by decide +kernel⟩, List.mem_of_getElem? (i := 12) (by decide +kernel), List.mem_of_getElem? (i := 326) (by decide +kernel), List.mem_of_getElem? (i := 327) (by decide +kernel)⟩
theorem lw_p15 : lw_okq (⟨"AlmsKernel", "passTick", "()V"⟩, 19) := ⟨⟨by decide +kernel, by decide +kernel⟩, List.mem_of_getElem? (i := 12) (by decide +kernel), List.mem_of_getElem? (i := 342) (by decide +kernel), List.mem_of_getElem? (i := 343) (by decide +kernel)⟩
def lw_privs_1 : List (MethodName × Nat) := [(⟨"AlmsKernel", "isComing", "(I)Z"⟩, 19), (⟨"java/lang/Throwable", "fillInStackTrace", "(I)Ljava/lang/Throwable;"⟩, 6), (⟨"AlmsKernel", "lowestEmptyFrame", "(I)I"⟩, 19), (⟨"AlmsKernel", "dropPage", "(I)V"⟩, 19), (⟨"AlmsKernel", "frameWithPage", "(II)I"⟩, 19), (⟨"AlmsKernel", "frameForFault", "(I)I"⟩, 19), (⟨"AlmsKernel", "callIn", "(I)I"⟩, 19), (⟨"AlmsKernel", "endLoan", "(I)V"⟩, 19), (⟨"AlmsKernel", "borrow", "(I)I"⟩, 19), (⟨"AlmsKernel", "countBorrowed", "(I)I"⟩, 19), (⟨"AlmsKernel", "richestLender", "(I)I"⟩, 19), (⟨"AlmsKernel", "frameToLend", "(I)I"⟩, 19), (⟨"AlmsKernel", "ageOf", "(I)I"⟩, 19), (⟨"AlmsKernel", "oldestFrame", "(I)I"⟩, 19), (⟨"AlmsKernel", "isLoan", "(I)Z"⟩, 19), (⟨"AlmsKernel", "passTick", "()V"⟩, 19)]
theorem lw_r1 : ∀ q ∈ lw_privs_1, lw_okq q := List.forall_mem_cons.mpr ⟨lw_p0, List.forall_mem_cons.mpr ⟨lw_p1, List.forall_mem_cons.mpr ⟨lw_p2, List.forall_mem_cons.mpr ⟨lw_p3, List.forall_mem_cons.mpr ⟨lw_p4, List.forall_mem_cons.mpr ⟨lw_p5, List.forall_mem_cons.mpr ⟨lw_p6, List.forall_mem_cons.mpr ⟨lw_p7, List.forall_mem_cons.mpr ⟨lw_p8, List.forall_mem_cons.mpr ⟨lw_p9, List.forall_mem_cons.mpr ⟨lw_p10, List.forall_mem_cons.mpr ⟨lw_p11, List.forall_mem_cons.mpr ⟨lw_p12, List.forall_mem_cons.mpr ⟨lw_p13, List.forall_mem_cons.mpr ⟨lw_p14, List.forall_mem_cons.mpr ⟨lw_p15, fun _ h => absurd h List.not_mem_nil⟩⟩⟩⟩⟩⟩⟩⟩⟩⟩⟩⟩⟩⟩⟩⟩
theorem lw_p16 : lw_okq (⟨"AlmsKernel", "payWages", "()V"⟩, 19) := ⟨⟨by decide +kernel, by decide +kernel⟩, List.mem_of_getElem? (i := 12) (by decide +kernel), List.mem_of_getElem? (i := 346) (by decide +kernel), List.mem_of_getElem? (i := 347) (by decide +kernel)⟩
theorem lw_p17 : lw_okq (⟨"AlmsKernel", "chargeLoans", "()V"⟩, 19) := ⟨⟨by decide +kernel, by decide +kernel⟩, List.mem_of_getElem? (i := 12) (by decide +kernel), List.mem_of_getElem? (i := 350) (by decide +kernel), List.mem_of_getElem? (i := 351) (by decide +kernel)⟩
theorem lw_p18 : lw_okq (⟨"AlmsKernel", "charge", "(I)V"⟩, 19) := ⟨⟨by decide +kernel, by decide +kernel⟩, List.mem_of_getElem? (i := 12) (by decide +kernel), List.mem_of_getElem? (i := 354) (by decide +kernel), List.mem_of_getElem? (i := 355) (by decide +kernel)⟩
theorem lw_p19 : lw_okq (⟨"AlmsKernel", "putToSleep", "(I)V"⟩, 19) := ⟨⟨by decide +kernel, by decide +kernel⟩, List.mem_of_getElem? (i := 12) (by decide +kernel), List.mem_of_getElem? (i := 358) (by decide +kernel), List.mem_of_getElem? (i := 359) (by decide +kernel)⟩
theorem lw_p20 : lw_okq (⟨"AlmsKernel", "giveAlms", "()V"⟩, 19) := ⟨⟨by decide +kernel, by decide +kernel⟩, List.mem_of_getElem? (i := 12) (by decide +kernel), List.mem_of_getElem? (i := 362) (by decide +kernel), List.mem_of_getElem? (i := 363) (by decide +kernel)⟩
theorem lw_p21 : lw_okq (⟨"AlmsKernel", "richestGiver", "()I"⟩, 19) := ⟨⟨by decide +kernel, by decide +kernel⟩, List.mem_of_getElem? (i := 12) (by decide +kernel), List.mem_of_getElem? (i := 366) (by decide +kernel), List.mem_of_getElem? (i := 367) (by decide +kernel)⟩
theorem lw_p22 : lw_okq (⟨"AlmsKernel", "moveDisk", "()V"⟩, 19) := ⟨⟨by decide +kernel, by decide +kernel⟩, List.mem_of_getElem? (i := 12) (by decide +kernel), List.mem_of_getElem? (i := 370) (by decide +kernel), List.mem_of_getElem? (i := 371) (by decide +kernel)⟩
theorem lw_p23 : lw_okq (⟨"AlmsKernel", "nearestRequest", "()I"⟩, 19) := ⟨⟨by decide +kernel, by decide +kernel⟩, List.mem_of_getElem? (i := 12) (by decide +kernel), List.mem_of_getElem? (i := 374) (by decide +kernel), List.mem_of_getElem? (i := 375) (by decide +kernel)⟩
theorem lw_p24 : lw_okq (⟨"AlmsKernel", "trackOf", "(I)I"⟩, 19) := ⟨⟨by decide +kernel, by decide +kernel⟩, List.mem_of_getElem? (i := 12) (by decide +kernel), List.mem_of_getElem? (i := 378) (by decide +kernel), List.mem_of_getElem? (i := 379) (by decide +kernel)⟩
theorem lw_p25 : lw_okq (⟨"AlmsKernel", "finishRequest", "(I)V"⟩, 19) := ⟨⟨by decide +kernel, by decide +kernel⟩, List.mem_of_getElem? (i := 12) (by decide +kernel), List.mem_of_getElem? (i := 385) (by decide +kernel), List.mem_of_getElem? (i := 386) (by decide +kernel)⟩
theorem lw_p26 : lw_okq (⟨"AlmsKernel", "isRequested", "(I)Z"⟩, 19) := ⟨⟨by decide +kernel, by decide +kernel⟩, List.mem_of_getElem? (i := 12) (by decide +kernel), List.mem_of_getElem? (i := 495) (by decide +kernel), List.mem_of_getElem? (i := 496) (by decide +kernel)⟩
theorem lw_p27 : lw_okq (⟨"AlmsKernelModel", "goes", "(I)Z"⟩, 19) := ⟨⟨by decide +kernel, by decide +kernel⟩, List.mem_of_getElem? (i := 499) (by decide +kernel), List.mem_of_getElem? (i := 577) (by decide +kernel), List.mem_of_getElem? (i := 578) (by decide +kernel)⟩
theorem lw_p28 : lw_okq (⟨"AlmsKernelModel", "lowestFree", "()I"⟩, 19) := ⟨⟨by decide +kernel, by decide +kernel⟩, List.mem_of_getElem? (i := 499) (by decide +kernel), List.mem_of_getElem? (i := 589) (by decide +kernel), List.mem_of_getElem? (i := 590) (by decide +kernel)⟩
theorem lw_p29 : lw_okq (⟨"AlmsKernelModel", "isEmpty", "(I)Z"⟩, 19) := ⟨⟨by decide +kernel, by decide +kernel⟩, List.mem_of_getElem? (i := 499) (by decide +kernel), List.mem_of_getElem? (i := 600) (by decide +kernel), List.mem_of_getElem? (i := 601) (by decide +kernel)⟩
theorem lw_p30 : lw_okq (⟨"AlmsKernelModel", "hasPage", "(I)Z"⟩, 19) := ⟨⟨by decide +kernel, by decide +kernel⟩, List.mem_of_getElem? (i := 499) (by decide +kernel), List.mem_of_getElem? (i := 608) (by decide +kernel), List.mem_of_getElem? (i := 609) (by decide +kernel)⟩
theorem lw_p31 : lw_okq (⟨"AlmsKernelModel", "frameWith", "(II)I"⟩, 19) := ⟨⟨by decide +kernel, by decide +kernel⟩, List.mem_of_getElem? (i := 499) (by decide +kernel), List.mem_of_getElem? (i := 616) (by decide +kernel), List.mem_of_getElem? (i := 617) (by decide +kernel)⟩
def lw_privs_2 : List (MethodName × Nat) := [(⟨"AlmsKernel", "payWages", "()V"⟩, 19), (⟨"AlmsKernel", "chargeLoans", "()V"⟩, 19), (⟨"AlmsKernel", "charge", "(I)V"⟩, 19), (⟨"AlmsKernel", "putToSleep", "(I)V"⟩, 19), (⟨"AlmsKernel", "giveAlms", "()V"⟩, 19), (⟨"AlmsKernel", "richestGiver", "()I"⟩, 19), (⟨"AlmsKernel", "moveDisk", "()V"⟩, 19), (⟨"AlmsKernel", "nearestRequest", "()I"⟩, 19), (⟨"AlmsKernel", "trackOf", "(I)I"⟩, 19), (⟨"AlmsKernel", "finishRequest", "(I)V"⟩, 19), (⟨"AlmsKernel", "isRequested", "(I)Z"⟩, 19), (⟨"AlmsKernelModel", "goes", "(I)Z"⟩, 19), (⟨"AlmsKernelModel", "lowestFree", "()I"⟩, 19), (⟨"AlmsKernelModel", "isEmpty", "(I)Z"⟩, 19), (⟨"AlmsKernelModel", "hasPage", "(I)Z"⟩, 19), (⟨"AlmsKernelModel", "frameWith", "(II)I"⟩, 19)]
theorem lw_r2 : ∀ q ∈ lw_privs_2, lw_okq q := List.forall_mem_cons.mpr ⟨lw_p16, List.forall_mem_cons.mpr ⟨lw_p17, List.forall_mem_cons.mpr ⟨lw_p18, List.forall_mem_cons.mpr ⟨lw_p19, List.forall_mem_cons.mpr ⟨lw_p20, List.forall_mem_cons.mpr ⟨lw_p21, List.forall_mem_cons.mpr ⟨lw_p22, List.forall_mem_cons.mpr ⟨lw_p23, List.forall_mem_cons.mpr ⟨lw_p24, List.forall_mem_cons.mpr ⟨lw_p25, List.forall_mem_cons.mpr ⟨lw_p26, List.forall_mem_cons.mpr ⟨lw_p27, List.forall_mem_cons.mpr ⟨lw_p28, List.forall_mem_cons.mpr ⟨lw_p29, List.forall_mem_cons.mpr ⟨lw_p30, List.forall_mem_cons.mpr ⟨lw_p31, fun _ h => absurd h List.not_mem_nil⟩⟩⟩⟩⟩⟩⟩⟩⟩⟩⟩⟩⟩⟩⟩⟩
theorem lw_p32 : lw_okq (⟨"AlmsKernelModel", "holderOf", "(I)I"⟩, 19) := ⟨⟨by decide +kernel, by decide +kernel⟩, List.mem_of_getElem? (i := 499) (by decide +kernel), List.mem_of_getElem? (i := 620) (by decide +kernel), List.mem_of_getElem? (i := 621) (by decide +kernel)⟩
theorem lw_p33 : lw_okq (⟨"AlmsKernelModel", "frameFor", "(I)I"⟩, 19) := ⟨⟨by decide +kernel, by decide +kernel⟩, List.mem_of_getElem? (i := 499) (by decide +kernel), List.mem_of_getElem? (i := 624) (by decide +kernel), List.mem_of_getElem? (i := 625) (by decide +kernel)⟩
theorem lw_p34 : lw_okq (⟨"AlmsKernelModel", "emptyOf", "(I)I"⟩, 19) := ⟨⟨by decide +kernel, by decide +kernel⟩, List.mem_of_getElem? (i := 499) (by decide +kernel), List.mem_of_getElem? (i := 628) (by decide +kernel), List.mem_of_getElem? (i := 629) (by decide +kernel)⟩
theorem lw_p35 : lw_okq (⟨"AlmsKernelModel", "calledIn", "(I)I"⟩, 19) := ⟨⟨by decide +kernel, by decide +kernel⟩, List.mem_of_getElem? (i := 499) (by decide +kernel), List.mem_of_getElem? (i := 632) (by decide +kernel), List.mem_of_getElem? (i := 633) (by decide +kernel)⟩
theorem lw_p36 : lw_okq (⟨"AlmsKernelModel", "doesLast", "(I)Z"⟩, 19) := ⟨⟨by decide +kernel, by decide +kernel⟩, List.mem_of_getElem? (i := 499) (by decide +kernel), List.mem_of_getElem? (i := 636) (by decide +kernel), List.mem_of_getElem? (i := 637) (by decide +kernel)⟩
theorem lw_p37 : lw_okq (⟨"AlmsKernelModel", "isComing", "(I)Z"⟩, 19) := ⟨⟨by decide +kernel, by decide +kernel⟩, List.mem_of_getElem? (i := 499) (by decide +kernel), List.mem_of_getElem? (i := 640) (by decide +kernel), List.mem_of_getElem? (i := 641) (by decide +kernel)⟩
theorem lw_p38 : lw_okq (⟨"AlmsKernelModel", "ends", "(I)V"⟩, 19) := ⟨⟨by decide +kernel, by decide +kernel⟩, List.mem_of_getElem? (i := 499) (by decide +kernel), List.mem_of_getElem? (i := 644) (by decide +kernel), List.mem_of_getElem? (i := 645) (by decide +kernel)⟩
theorem lw_p39 : lw_okq (⟨"AlmsKernelModel", "borrowedBy", "(I)I"⟩, 19) := ⟨⟨by decide +kernel, by decide +kernel⟩, List.mem_of_getElem? (i := 499) (by decide +kernel), List.mem_of_getElem? (i := 648) (by decide +kernel), List.mem_of_getElem? (i := 649) (by decide +kernel)⟩
theorem lw_p40 : lw_okq (⟨"AlmsKernelModel", "lenderFor", "(I)I"⟩, 19) := ⟨⟨by decide +kernel, by decide +kernel⟩, List.mem_of_getElem? (i := 499) (by decide +kernel), List.mem_of_getElem? (i := 652) (by decide +kernel), List.mem_of_getElem? (i := 653) (by decide +kernel)⟩
theorem lw_p41 : lw_okq (⟨"AlmsKernelModel", "isLender", "(I)Z"⟩, 19) := ⟨⟨by decide +kernel, by decide +kernel⟩, List.mem_of_getElem? (i := 499) (by decide +kernel), List.mem_of_getElem? (i := 656) (by decide +kernel), List.mem_of_getElem? (i := 657) (by decide +kernel)⟩
theorem lw_p42 : lw_okq (⟨"AlmsKernelModel", "canLend", "(II)Z"⟩, 19) := ⟨⟨by decide +kernel, by decide +kernel⟩, List.mem_of_getElem? (i := 499) (by decide +kernel), List.mem_of_getElem? (i := 660) (by decide +kernel), List.mem_of_getElem? (i := 661) (by decide +kernel)⟩
theorem lw_p43 : lw_okq (⟨"AlmsKernelModel", "ageOf", "(I)I"⟩, 19) := ⟨⟨by decide +kernel, by decide +kernel⟩, List.mem_of_getElem? (i := 499) (by decide +kernel), List.mem_of_getElem? (i := 664) (by decide +kernel), List.mem_of_getElem? (i := 665) (by decide +kernel)⟩
theorem lw_p44 : lw_okq (⟨"AlmsKernelModel", "oldestOf", "(I)I"⟩, 19) := ⟨⟨by decide +kernel, by decide +kernel⟩, List.mem_of_getElem? (i := 499) (by decide +kernel), List.mem_of_getElem? (i := 668) (by decide +kernel), List.mem_of_getElem? (i := 669) (by decide +kernel)⟩
theorem lw_p45 : lw_okq (⟨"AlmsKernelModel", "frameOf", "(I)I"⟩, 19) := ⟨⟨by decide +kernel, by decide +kernel⟩, List.mem_of_getElem? (i := 499) (by decide +kernel), List.mem_of_getElem? (i := 672) (by decide +kernel), List.mem_of_getElem? (i := 673) (by decide +kernel)⟩
theorem lw_p46 : lw_okq (⟨"AlmsKernelModel", "worth", "(I)I"⟩, 19) := ⟨⟨by decide +kernel, by decide +kernel⟩, List.mem_of_getElem? (i := 499) (by decide +kernel), List.mem_of_getElem? (i := 676) (by decide +kernel), List.mem_of_getElem? (i := 677) (by decide +kernel)⟩
theorem lw_p47 : lw_okq (⟨"AlmsKernelModel", "lends", "(II)V"⟩, 19) := ⟨⟨by decide +kernel, by decide +kernel⟩, List.mem_of_getElem? (i := 499) (by decide +kernel), List.mem_of_getElem? (i := 681) (by decide +kernel), List.mem_of_getElem? (i := 682) (by decide +kernel)⟩
def lw_privs_3 : List (MethodName × Nat) := [(⟨"AlmsKernelModel", "holderOf", "(I)I"⟩, 19), (⟨"AlmsKernelModel", "frameFor", "(I)I"⟩, 19), (⟨"AlmsKernelModel", "emptyOf", "(I)I"⟩, 19), (⟨"AlmsKernelModel", "calledIn", "(I)I"⟩, 19), (⟨"AlmsKernelModel", "doesLast", "(I)Z"⟩, 19), (⟨"AlmsKernelModel", "isComing", "(I)Z"⟩, 19), (⟨"AlmsKernelModel", "ends", "(I)V"⟩, 19), (⟨"AlmsKernelModel", "borrowedBy", "(I)I"⟩, 19), (⟨"AlmsKernelModel", "lenderFor", "(I)I"⟩, 19), (⟨"AlmsKernelModel", "isLender", "(I)Z"⟩, 19), (⟨"AlmsKernelModel", "canLend", "(II)Z"⟩, 19), (⟨"AlmsKernelModel", "ageOf", "(I)I"⟩, 19), (⟨"AlmsKernelModel", "oldestOf", "(I)I"⟩, 19), (⟨"AlmsKernelModel", "frameOf", "(I)I"⟩, 19), (⟨"AlmsKernelModel", "worth", "(I)I"⟩, 19), (⟨"AlmsKernelModel", "lends", "(II)V"⟩, 19)]
theorem lw_r3 : ∀ q ∈ lw_privs_3, lw_okq q := List.forall_mem_cons.mpr ⟨lw_p32, List.forall_mem_cons.mpr ⟨lw_p33, List.forall_mem_cons.mpr ⟨lw_p34, List.forall_mem_cons.mpr ⟨lw_p35, List.forall_mem_cons.mpr ⟨lw_p36, List.forall_mem_cons.mpr ⟨lw_p37, List.forall_mem_cons.mpr ⟨lw_p38, List.forall_mem_cons.mpr ⟨lw_p39, List.forall_mem_cons.mpr ⟨lw_p40, List.forall_mem_cons.mpr ⟨lw_p41, List.forall_mem_cons.mpr ⟨lw_p42, List.forall_mem_cons.mpr ⟨lw_p43, List.forall_mem_cons.mpr ⟨lw_p44, List.forall_mem_cons.mpr ⟨lw_p45, List.forall_mem_cons.mpr ⟨lw_p46, List.forall_mem_cons.mpr ⟨lw_p47, fun _ h => absurd h List.not_mem_nil⟩⟩⟩⟩⟩⟩⟩⟩⟩⟩⟩⟩⟩⟩⟩⟩
theorem lw_p48 : lw_okq (⟨"AlmsKernelModel", "isLoan", "(I)Z"⟩, 19) := ⟨⟨by decide +kernel, by decide +kernel⟩, List.mem_of_getElem? (i := 499) (by decide +kernel), List.mem_of_getElem? (i := 689) (by decide +kernel), List.mem_of_getElem? (i := 690) (by decide +kernel)⟩
theorem lw_p49 : lw_okq (⟨"AlmsKernelModel", "pays", "()V"⟩, 19) := ⟨⟨by decide +kernel, by decide +kernel⟩, List.mem_of_getElem? (i := 499) (by decide +kernel), List.mem_of_getElem? (i := 698) (by decide +kernel), List.mem_of_getElem? (i := 699) (by decide +kernel)⟩
theorem lw_p50 : lw_okq (⟨"AlmsKernelModel", "sleeps", "(I)V"⟩, 19) := ⟨⟨by decide +kernel, by decide +kernel⟩, List.mem_of_getElem? (i := 499) (by decide +kernel), List.mem_of_getElem? (i := 702) (by decide +kernel), List.mem_of_getElem? (i := 703) (by decide +kernel)⟩
theorem lw_p51 : lw_okq (⟨"AlmsKernelModel", "gives", "()V"⟩, 19) := ⟨⟨by decide +kernel, by decide +kernel⟩, List.mem_of_getElem? (i := 499) (by decide +kernel), List.mem_of_getElem? (i := 706) (by decide +kernel), List.mem_of_getElem? (i := 707) (by decide +kernel)⟩
theorem lw_p52 : lw_okq (⟨"AlmsKernelModel", "richest", "()I"⟩, 19) := ⟨⟨by decide +kernel, by decide +kernel⟩, List.mem_of_getElem? (i := 499) (by decide +kernel), List.mem_of_getElem? (i := 710) (by decide +kernel), List.mem_of_getElem? (i := 711) (by decide +kernel)⟩
theorem lw_p53 : lw_okq (⟨"AlmsKernelModel", "turns", "()V"⟩, 19) := ⟨⟨by decide +kernel, by decide +kernel⟩, List.mem_of_getElem? (i := 499) (by decide +kernel), List.mem_of_getElem? (i := 714) (by decide +kernel), List.mem_of_getElem? (i := 715) (by decide +kernel)⟩
theorem lw_p54 : lw_okq (⟨"AlmsKernelModel", "nearest", "()I"⟩, 19) := ⟨⟨by decide +kernel, by decide +kernel⟩, List.mem_of_getElem? (i := 499) (by decide +kernel), List.mem_of_getElem? (i := 718) (by decide +kernel), List.mem_of_getElem? (i := 719) (by decide +kernel)⟩
theorem lw_p55 : lw_okq (⟨"AlmsKernelModel", "distance", "(I)I"⟩, 19) := ⟨⟨by decide +kernel, by decide +kernel⟩, List.mem_of_getElem? (i := 499) (by decide +kernel), List.mem_of_getElem? (i := 722) (by decide +kernel), List.mem_of_getElem? (i := 723) (by decide +kernel)⟩
theorem lw_p56 : lw_okq (⟨"AlmsKernelModel", "trackOf", "(I)I"⟩, 19) := ⟨⟨by decide +kernel, by decide +kernel⟩, List.mem_of_getElem? (i := 499) (by decide +kernel), List.mem_of_getElem? (i := 726) (by decide +kernel), List.mem_of_getElem? (i := 727) (by decide +kernel)⟩
def lw_privs_4 : List (MethodName × Nat) := [(⟨"AlmsKernelModel", "isLoan", "(I)Z"⟩, 19), (⟨"AlmsKernelModel", "pays", "()V"⟩, 19), (⟨"AlmsKernelModel", "sleeps", "(I)V"⟩, 19), (⟨"AlmsKernelModel", "gives", "()V"⟩, 19), (⟨"AlmsKernelModel", "richest", "()I"⟩, 19), (⟨"AlmsKernelModel", "turns", "()V"⟩, 19), (⟨"AlmsKernelModel", "nearest", "()I"⟩, 19), (⟨"AlmsKernelModel", "distance", "(I)I"⟩, 19), (⟨"AlmsKernelModel", "trackOf", "(I)I"⟩, 19)]
theorem lw_r4 : ∀ q ∈ lw_privs_4, lw_okq q := List.forall_mem_cons.mpr ⟨lw_p48, List.forall_mem_cons.mpr ⟨lw_p49, List.forall_mem_cons.mpr ⟨lw_p50, List.forall_mem_cons.mpr ⟨lw_p51, List.forall_mem_cons.mpr ⟨lw_p52, List.forall_mem_cons.mpr ⟨lw_p53, List.forall_mem_cons.mpr ⟨lw_p54, List.forall_mem_cons.mpr ⟨lw_p55, List.forall_mem_cons.mpr ⟨lw_p56, fun _ h => absurd h List.not_mem_nil⟩⟩⟩⟩⟩⟩⟩⟩⟩
def lw_privs : List (MethodName × Nat) := lw_privs_1 ++ (lw_privs_2 ++ (lw_privs_3 ++ (lw_privs_4)))
def lw_tbl : List Cond := k2_sels lw_privs ++ tables_1
theorem lw_privs_ok : ∀ q ∈ lw_privs, lw_okq q := by
  show ∀ q ∈ lw_privs_1 ++ (lw_privs_2 ++ (lw_privs_3 ++ (lw_privs_4))), lw_okq q
  exact List.forall_mem_append.mpr ⟨lw_r1, List.forall_mem_append.mpr ⟨lw_r2, List.forall_mem_append.mpr ⟨lw_r3, lw_r4⟩⟩⟩
-- ===== end of PART A; then your names; then what follows =====
end
section
/-! ===== BEGIN words of one list among another's, by their places ===== -/
theorem goodIn_r {big : List Cond} (ws : List Cond) (ps : List Nat) (hp : ws = ps.filterMap (fun i => big[i]?)) (h : ws.all goodWord = true) : GoodIn big ws := by
  intro w hw
  have h1 := List.all_eq_true.mp h w hw
  rw [hp] at hw
  obtain ⟨i, -, hi⟩ := List.mem_filterMap.mp hw
  have hm : w ∈ big := by first | exact List.mem_of_getElem? hi | exact List.getElem?_mem hi
  exact ⟨hm, good_of_word h1⟩
theorem goodIn_app {big a b : List Cond} (ha : GoodIn big a) (hb : GoodIn big b) : GoodIn big (a ++ b) := fun w h => (List.mem_append.mp h).elim (ha w) (hb w)
theorem goodIn_ca {big a b : List Cond} {c : Cond} (ha : GoodIn big (c :: a)) (hb : GoodIn big b) : GoodIn big (c :: (a ++ b)) := fun w h => (List.mem_cons.mp h).elim (fun e => ha w (List.mem_cons.mpr (Or.inl e))) (fun h => (List.mem_append.mp h).elim (fun h => ha w (List.mem_cons.mpr (Or.inr h))) (hb w))
theorem goodIn_sub {big ws : List Cond} (hm : ∀ w ∈ ws, w ∈ big) (h : ws.all goodWord = true) : GoodIn big ws := fun w hw => ⟨hm w hw, good_of_word (List.all_eq_true.mp h w hw)⟩
/-! ===== END ===== -/

/-! ===== BEGIN exceptions that leave a method, and their catching by the caller (launches without stack traces) ===== -/
section VXA
/-! The laws vx_back, vx_callV, vx_callS, vx_callSW, vx_throw0, vx_throwS follow proofs of the library, with one case more: JvmDerived/Free/Laws.lean (Back.of_free), Shelf42/LK1.lean (callV, callS), Shelf/KitTraced.lean (throwNew0V, throwNewS). -/
/-- where a method has thrown q: the class by its name, the cell, what was written, the world -/
def vx_T (XC : String → State → State → Prop) (st : State) (q : Addr) (t : State) (mc ms : Nat) (free : Addr → Prop) : Prop :=
  ∃ (E : String) (ce : Cell) (L : List Loc), XC E st t ∧ t.heap[q]? = some ce ∧ ce.vm = .none ∧ st.vm.findClass E = some ce.cls ∧ st.WarmedH t.vm ∧ st.sameButNew ({ t with vm := st.vm } : State) L mc ms ∧ ∀ z ∈ L, free z.base
def vx_Q (Qc : Array Value → State → Outcome → State → Prop) (XC : String → State → State → Prop) (mc ms : Nat) (free : Addr → Prop) : Array Value → State → Outcome → State → Prop := fun a st o t =>
  (Qc a st o t ∧ ∃ L, FrameEnd st o t L mc ms ∧ ∀ q ∈ L, free q.base) ∨ ∃ q, o = .threw q ∧ vx_T XC st q t mc ms free
/-- a callee that returns or throws -/
def vx_Met (l : Launch) (y : MethodName) (ws : List Cond) (rm : Room) (Pc : Array Value → State → Prop) (Qc : Array Value → State → Outcome → State → Prop) (XC : String → State → State → Prop) (mc ms : Nat) (free : Addr → Prop) : Prop :=
  MetFree l y (headSpec ws rm) Pc (fun _ _ _ _ _ => True) (vx_Q Qc XC mc ms free)
def vx_Post (XC : String → State → State → Prop) (mc ms : Nat) (free : Addr → Prop) : Pt → Array Value → Addr → Pt → Prop := fun A a q B =>
  ∃ (g : JFrame) (mk : MethodId) (t : State) (L : List Loc) (E : String) (ce : Cell), B.U.heap = t.heap ∧ B.U.vm = t.vm ∧ XC E (A.U.calling g mk a) t ∧ t.heap[q]? = some ce ∧ ce.vm = .none ∧ A.U.vm.findClass E = some ce.cls ∧ B.locs = A.locs ++ L ∧ (∀ z ∈ L, free z.base) ∧ B.cells = A.cells + mc ∧ B.slots = A.slots + ms
def vx_Back (l : Launch) (R : Room) (p : Program) (e : Env) (below : List Frame) (s : State) (sargs : Array Value) (y : MethodName) (len W9 : Nat)
    (Pre : Pt → Array Value → Prop) (Post : Pt → Array Value → Option Value → Pt → Prop) (PostX : Pt → Array Value → Addr → Pt → Prop) : Prop :=
  ∀ (m : MethodId) (meth : Method) (c : Code) (A : Pt) (g : JFrame) (ig : Instr) (mk : MethodId) (a : Array Value),
    Stand p l e R s m sargs below meth c A.U A.locs A.cells A.slots → g.method = m → g.locals.size = c.maxLocals → decode c.code g.pc = .ok (ig, len) →
    2 * g.monitorRoom + (g.stack.map fun v => v.category).sum ≤ W9 → A.U.methodNamed? y = some mk → Pre A a →
    (∃ (v : Option Value) (B : Pt), Stand p l e R s m sargs below meth c B.U B.locs B.cells B.slots ∧ Post A a v B ∧
      Steps p.tables e below (doInvoke e (A.U.setTop g) [] mk a).1 (B.U.setTop { g with pc := g.pc + len, stack := v.toList ++ g.stack })) ∨
    (∃ (q : Addr) (B : Pt), Stand p l e R s m sargs below meth c B.U B.locs B.cells B.slots ∧ PostX A a q B ∧
      Steps p.tables e below (doInvoke e (A.U.setTop g) [] mk a).1 ((B.U.setTop g).pushFrame (.throwing q)))
section Payer
variable {l : Launch} {R : Room} {p : Program} {e : Env} {below : List Frame} {s : State} {sargs : Array Value} {y : MethodName} {len W9 : Nat}
theorem vx_back {ws : List Cond} {rm : Room} {Pc : Array Value → State → Prop} {Qc : Array Value → State → Outcome → State → Prop} {XC : String → State → State → Prop} {mc ms : Nat} {free : Addr → Prop} {bytes : ByteArray} {maxL : Nat} {ret : Option FieldType}
    (hM : vx_Met l y ws rm Pc Qc XC mc ms free) (hblind : FrameBlind Pc) (hrc : rm.cells = mc) (hrs : rm.slots = ms)
    (hframes : rm.frames + 1 ≤ R.frames) (hlocals : W9 + (maxL + 11) + rm.locals ≤ R.locals)
    (hws : ∀ w ∈ ws, ∀ a' U, s.WarmedH U.vm → w.before a' U = true) (hcode : Cond.code y bytes maxL ret ∈ ws) (hinit : ∀ a' U, s.WarmedH U.vm → (Cond.initialized y.cls).before a' U = true) :
    vx_Back l R p e below s sargs y len W9 (PreOf R mc ms Pc) (PostOf Qc mc ms free) (vx_Post XC mc ms free) := by
  intro m meth c A g ig mk a X hg hsize hdg hW hn hp
  have h1 : (headSpec ws rm).pre.before a A.U = true := atoms_intro fun w hw => hws w hw _ _ X.warmed
  have h2 : (Cond.code y bytes maxL ret).before a A.U = true := hws _ hcode _ _ X.warmed
  have h3 : (Cond.initialized y.cls).before a A.U = true := hinit _ _ X.warmed
  have h4 : A.cells + (headSpec ws rm).room.cells ≤ R.cells := by rw [show (headSpec ws rm).room.cells = mc from hrc]; exact hp.1
  have h5 : A.slots + (headSpec ws rm).room.slots ≤ R.slots := by rw [show (headSpec ws rm).room.slots = ms from hrs]; exact hp.2.1
  have hPc : Pc a (A.U.calling g mk a) := hblind _ _ _ _ hp.2.2
  obtain ⟨U, Ls, c0, s0⟩ := A
  dsimp only [Pt.U, Pt.locs, Pt.cells, Pt.slots] at h1 h2 h3 h4 h5 X hn hPc ⊢
  obtain ⟨methY, cY, hmY, hcY, -, hlY, -, -, -, -⟩ := Cond.code_spec hn h2
  obtain ⟨kY, hkY, -⟩ := className_of_methodNamed hn
  have hinitY : kY.init = .initialized := Cond.initialized_spec (findClass_of_methodNamed hn) hkY h3
  have h : At U g.method c below := by rw [hg]; exact X.here
  have hlocals9 : W9 + (maxL + 11) + (headSpec ws rm).room.locals ≤ R.locals := hlocals
  have happ : (headSpec ws rm).appliesLoose y e.platform (U.calling g mk a) = true :=
    Spec.appliesLoose_calling (g := g) h hdg hn hkY hinitY
      (X.room_calling (g := g) (R' := (headSpec ws rm).room) hsize hmY hcY hframes (by rw [hlY]; omega) h4 h5) h1
  obtain ⟨mid, hmid⟩ := h.above
  have hfr : (U.setTop g).frames = (.java g :: mid) ++ below := by rw [State.frames_setTop' g h.top, hmid]; rfl
  obtain ⟨o, s₂, hsteps, -, hend, hq⟩ := Steps.callFree hM p X.admits X.cas X.clock (acts := []) hfr happ hPc trivial
  have hq' : vx_Q Qc XC mc ms free a (U.calling g mk a) o s₂ := hq
  rw [State.frames_setTop' g h.top] at hend
  obtain ⟨g₀, hg0⟩ := Option.isSome_iff_exists.mp h.top
  obtain ⟨r, hr⟩ := State.topJava?_eq_some.mp hg0
  have hr' : (({ U with heap := s₂.heap, slotsUsed := s₂.slotsUsed } : State).setVm s₂.vm).frames = .java g₀ :: r := hr
  rcases hq' with ⟨hqc, L, hfe, hL⟩ | ⟨q, rfl, E, ce, L, hx, hce, hcv, hcl, hW₂, hsm, hL⟩
  · obtain ⟨⟨v, rfl⟩, hW₂, e2, q2, q3, q4, q5, q6⟩ := id hfe
    have e3 : s₂ = ({ (U.calling g mk a).setFrames s₂.frames with heap := s₂.heap, slotsUsed := s₂.slotsUsed } : State).setVm s₂.vm := by
      have : s₂ = ({ s₂ with vm := (U.calling g mk a).vm } : State).setVm s₂.vm := rfl
      rw [e2] at this
      exact this
    obtain ⟨c₂, i₂, len₂, hc₂, hd₂, hf₂⟩ := hend
    have hW' : U.WarmedH s₂.vm := hW₂
    have hcc : c₂ = c := by
      have h1 : s₂.code? g.method = U.code? g.method := by
        rw [State.code?_eq, State.code?_eq, hW'.alike.method?]
      exact Option.some.inj (hc₂.symm.trans (h1.trans h.code))
    subst hcc
    have hlen : len₂ = len := by rw [hdg] at hd₂; cases hd₂; rfl
    subst hlen
    have hs₂ : s₂ = (({ U with heap := s₂.heap, slotsUsed := s₂.slotsUsed } : State).setVm s₂.vm).setTop { g with pc := g.pc + len₂, stack := v.toList ++ g.stack } := by
      refine e3.trans ?_
      rw [hf₂, State.calling_eq h.top, State.setFrames_setFrames, State.setTop_of_frames _ hr', hr]
      rfl
    have hsame : U.sameButNew ({ U with heap := s₂.heap, slotsUsed := s₂.slotsUsed } : State) L mc ms := by
      refine ⟨?_, q2, q3, q4, q5, q6⟩
      obtain ⟨t, ht, -⟩ := State.frames_cons hr
      show ({ U with heap := s₂.heap, slotsUsed := s₂.slotsUsed } : State) = { U.setFrames U.frames with heap := s₂.heap, slotsUsed := s₂.slotsUsed }
      rw [State.setFrames_self ht]
    subst hg
    refine Or.inl ⟨v, ⟨(({ U with heap := s₂.heap, slotsUsed := s₂.slotsUsed } : State).setVm s₂.vm), Ls ++ L, c0 + mc, s0 + ms⟩,
      ⟨X.admits, X.cas, X.clock, X.frames, X.room, X.hears, X.method, X.code, (X.here.setHeapUsed s₂.heap s₂.slotsUsed).setVm hW'.alike, X.tail, State.WarmedH.trans X.warmed hW', X.limits, X.bytes, X.same.trans (hsame.setVm s.vm)⟩,
      ⟨g, mk, s₂, L, rfl, rfl, hqc, rfl, hL, rfl, rfl⟩, ?_⟩
    show Steps p.tables e below _ ((({ U with heap := s₂.heap, slotsUsed := s₂.slotsUsed } : State).setVm s₂.vm).setTop { g with pc := g.pc + len₂, stack := v.toList ++ g.stack })
    rw [← hs₂]
    exact hsteps
  · obtain ⟨e2, q2, q3, q4, q5, q6⟩ := id hsm
    have e3 : s₂ = ({ (U.calling g mk a).setFrames s₂.frames with heap := s₂.heap, slotsUsed := s₂.slotsUsed } : State).setVm s₂.vm := by
      have : s₂ = ({ s₂ with vm := (U.calling g mk a).vm } : State).setVm s₂.vm := rfl
      rw [e2] at this
      exact this
    have hf₂ : s₂.frames = .throwing q :: .java g :: U.frames.tail := hend
    have hW' : U.WarmedH s₂.vm := hW₂
    have hs₂ : s₂ = ((({ U with heap := s₂.heap, slotsUsed := s₂.slotsUsed } : State).setVm s₂.vm).setTop g).pushFrame (.throwing q) := by
      refine e3.trans ?_
      rw [hf₂, State.calling_eq h.top, State.setFrames_setFrames, State.pushFrame, State.frames_setTop _ hr', State.setTop_of_frames _ hr', State.setFrames_setFrames, hr]
      rfl
    have hsame : U.sameButNew ({ U with heap := s₂.heap, slotsUsed := s₂.slotsUsed } : State) L mc ms := by
      refine ⟨?_, q2, q3, q4, q5, q6⟩
      obtain ⟨t, ht, -⟩ := State.frames_cons hr
      show ({ U with heap := s₂.heap, slotsUsed := s₂.slotsUsed } : State) = { U.setFrames U.frames with heap := s₂.heap, slotsUsed := s₂.slotsUsed }
      rw [State.setFrames_self ht]
    subst hg
    refine Or.inr ⟨q, ⟨(({ U with heap := s₂.heap, slotsUsed := s₂.slotsUsed } : State).setVm s₂.vm), Ls ++ L, c0 + mc, s0 + ms⟩,
      ⟨X.admits, X.cas, X.clock, X.frames, X.room, X.hears, X.method, X.code, (X.here.setHeapUsed s₂.heap s₂.slotsUsed).setVm hW'.alike, X.tail, State.WarmedH.trans X.warmed hW', X.limits, X.bytes, X.same.trans (hsame.setVm s.vm)⟩,
      ⟨g, mk, s₂, L, E, ce, rfl, rfl, hx, hce, hcv, hcl, rfl, hL, rfl, rfl⟩, ?_⟩
    show Steps p.tables e below _ (((({ U with heap := s₂.heap, slotsUsed := s₂.slotsUsed } : State).setVm s₂.vm).setTop g).pushFrame (.throwing q))
    rw [← hs₂]
    exact hsteps
end Payer
section Calls
variable {p : Program} {l : Launch} {e : Env} {R : Room} {s : State} {m : MethodId} {args : Array Value} {below : List Frame} {meth : Method} {c : Code} {T : State} {locs : List Loc} {cells slots : Nat}
theorem vx_callV (X : Stand p l e R s m args below meth c T locs cells slots) (hexec : p.tables.exec = Jvm.exec) {own C : String} {index : Nat} {y : MethodName} {bytes : ByteArray} {maxL : Nat} {ret : Option FieldType}
    (hown : s.vm.findClass own = some m.cls) (hlink : (Cond.methodLink own index y).before args s = true) (hinst : (Cond.instanceMethod y).before args s = true) (hsel : (Cond.selects C y y).before args s = true)
    (hcode : (Cond.code y bytes maxL ret).before args s = true) (hy : y.cls ≠ "java/lang/invoke/MethodHandle" ∧ y.cls ≠ "java/lang/invoke/VarHandle")
    {W9 : Nat} {Pre : Pt → Array Value → Prop} {Post : Pt → Array Value → Option Value → Pt → Prop} {PostX : Pt → Array Value → Addr → Pt → Prop} (hK : vx_Back l R p e below s args y 3 W9 Pre Post PostX)
    {b : Addr} {cellB : Cell} (hcell : T.heap[b]? = some cellB) (hobj : cellB.vm.isStatics = false) (hcls : s.vm.findClass C = some cellB.cls)
    {g : JFrame} (hg : g.method = m) (hsize : g.locals.size = c.maxLocals) {argsL rest : List Value} (hlen : ∀ sig, parseMethodDescriptor y.desc = some sig → argsL.length = sig.parameters.length)
    (hstack : g.stack = argsL.reverse ++ .ref b :: rest) (hW : 2 * g.monitorRoom + (rest.map fun v => v.category).sum ≤ W9) (hdg : decode c.code g.pc = .ok (.invokevirtual index, 3))
    (hpre : ∀ vm₁, s.WarmedH vm₁ → Pre ⟨T.setVm vm₁, locs, cells, slots⟩ (Value.ref b :: argsL).toArray) :
    (∃ (v : Option Value) (vm₁ : Vm) (B : Pt), s.WarmedH vm₁ ∧ Stand p l e R s m args below meth c B.U B.locs B.cells B.slots ∧ Post ⟨T.setVm vm₁, locs, cells, slots⟩ (Value.ref b :: argsL).toArray v B ∧
      ∀ target, Steps p.tables e below (B.U.setTop { g with pc := g.pc + 3, stack := v.toList ++ rest }) target → Steps p.tables e below (T.setTop g) target) ∨
    (∃ (q : Addr) (vm₁ : Vm) (B : Pt), s.WarmedH vm₁ ∧ Stand p l e R s m args below meth c B.U B.locs B.cells B.slots ∧ PostX ⟨T.setVm vm₁, locs, cells, slots⟩ (Value.ref b :: argsL).toArray q B ∧
      Steps p.tables e below (T.setTop g) ((B.U.setTop { g with stack := rest }).pushFrame (.throwing q))) := by
  obtain ⟨mk, methM, hnamed, hmethM, hstM, habM⟩ := Cond.instanceMethod_spec hinst
  obtain ⟨methM', cM, hmethM', -, -, -, -, -, -, hsigM⟩ := Cond.code_spec hnamed hcode
  cases hmethM.symm.trans hmethM'
  obtain ⟨c2, r2, m2, q1, q2, q3, q4, kP, hkP, hkPi⟩ := Cond.selects_spec hsel
  cases hcls.symm.trans q1
  cases (State.methodFound?_of_named hnamed hy).symm.trans q2
  cases hnamed.symm.trans q3
  have hselP : selectMethod e.platform s.vm cellB.cls mk = .method mk := by rw [Launch.admits_selectMethod X.admits]; exact q4
  obtain ⟨vm₁, X₁, hstep₁⟩ := X.invokevirtual hexec hown hlink hnamed hmethM hstM hkP hkPi hy (a := b) (cell := cellB) hcell
    (fun z h => by rw [h] at hobj; cases hobj) hselP hmethM habM hkP hkPi (g := g) hg (argsL := argsL) (rest := rest) (hlen _ hsigM) hstack hdg
  rcases hK m meth c ⟨T.setVm vm₁, locs, cells, slots⟩ { g with stack := rest } (.invokevirtual index) mk (Value.ref b :: argsL).toArray X₁ hg hsize hdg hW (X₁.named hnamed) (hpre vm₁ X₁.warmed) with ⟨v, B, X', hpost, hsteps⟩ | ⟨q, B, X', hpost, hsteps⟩
  · exact Or.inl ⟨v, vm₁, B, X₁.warmed, X', hpost, fun target h => hstep₁ _ fun acts => by rw [doInvoke_state]; exact hsteps.trans h⟩
  · exact Or.inr ⟨q, vm₁, B, X₁.warmed, X', hpost, hstep₁ _ fun acts => by rw [doInvoke_state]; exact hsteps⟩
theorem vx_callS (X : Stand p l e R s m args below meth c T locs cells slots) (hexec : p.tables.exec = Jvm.exec) {own : String} {index : Nat} {y : MethodName} {bytes : ByteArray} {maxL : Nat} {ret : Option FieldType}
    (hown : s.vm.findClass own = some m.cls) (hlink : (Cond.methodLink own index y).before args s = true) (hstat : (Cond.static y).before args s = true) (hinit : (Cond.initialized y.cls).before args s = true)
    (hcode : (Cond.code y bytes maxL ret).before args s = true) (hy : y.cls ≠ "java/lang/invoke/MethodHandle" ∧ y.cls ≠ "java/lang/invoke/VarHandle")
    {W9 : Nat} {Pre : Pt → Array Value → Prop} {Post : Pt → Array Value → Option Value → Pt → Prop} {PostX : Pt → Array Value → Addr → Pt → Prop} (hK : vx_Back l R p e below s args y 3 W9 Pre Post PostX)
    {g : JFrame} (hg : g.method = m) (hsize : g.locals.size = c.maxLocals) {argsL rest : List Value} (hlen : ∀ sig, parseMethodDescriptor y.desc = some sig → argsL.length = sig.parameters.length)
    (hstack : g.stack = argsL.reverse ++ rest) (hW : 2 * g.monitorRoom + (rest.map fun v => v.category).sum ≤ W9) (hdg : decode c.code g.pc = .ok (.invokestatic index, 3))
    (hpre : ∀ vm₁, s.WarmedH vm₁ → Pre ⟨T.setVm vm₁, locs, cells, slots⟩ argsL.toArray) :
    (∃ (v : Option Value) (vm₁ : Vm) (B : Pt), s.WarmedH vm₁ ∧ Stand p l e R s m args below meth c B.U B.locs B.cells B.slots ∧ Post ⟨T.setVm vm₁, locs, cells, slots⟩ argsL.toArray v B ∧
      ∀ target, Steps p.tables e below (B.U.setTop { g with pc := g.pc + 3, stack := v.toList ++ rest }) target → Steps p.tables e below (T.setTop g) target) ∨
    (∃ (q : Addr) (vm₁ : Vm) (B : Pt), s.WarmedH vm₁ ∧ Stand p l e R s m args below meth c B.U B.locs B.cells B.slots ∧ PostX ⟨T.setVm vm₁, locs, cells, slots⟩ argsL.toArray q B ∧
      Steps p.tables e below (T.setTop g) ((B.U.setTop { g with stack := rest }).pushFrame (.throwing q))) := by
  obtain ⟨mk, hnamed⟩ := Cond.code_named hcode
  obtain ⟨methM, cM, hmethM, -, -, -, -, -, -, hsigM⟩ := Cond.code_spec hnamed hcode
  have hstatic : methM.isStatic = true := Cond.static_spec hnamed hmethM hstat
  obtain ⟨kP, hkP, -⟩ := className_of_methodNamed hnamed
  have hinitP : kP.init = .initialized := Cond.initialized_spec (findClass_of_methodNamed hnamed) hkP hinit
  obtain ⟨vm₁, X₁, hstep₁⟩ := X.invokestatic hexec hown hlink hnamed hmethM hstatic hkP hinitP hy (g := g) hg (argsL := argsL) (rest := rest) (hlen _ hsigM) hstack hdg
  rcases hK m meth c ⟨T.setVm vm₁, locs, cells, slots⟩ { g with stack := rest } (.invokestatic index) mk argsL.toArray X₁ hg hsize hdg hW (X₁.named hnamed) (hpre vm₁ X₁.warmed) with ⟨v, B, X', hpost, hsteps⟩ | ⟨q, B, X', hpost, hsteps⟩
  · exact Or.inl ⟨v, vm₁, B, X₁.warmed, X', hpost, fun target h => hstep₁ _ fun acts => by rw [doInvoke_state]; exact hsteps.trans h⟩
  · exact Or.inr ⟨q, vm₁, B, X₁.warmed, X', hpost, hstep₁ _ fun acts => by rw [doInvoke_state]; exact hsteps⟩
end Calls
theorem vx_cls {s : State} {T : State} {vm₁ : Vm} {E : String} {k : ClassId} (hW : s.WarmedH vm₁) (h : (T.setVm vm₁).vm.findClass E = some k) : s.vm.findClass E = some k := by
  have h1 : vm₁.findClass E = some k := h
  rw [hW.alike.findClass] at h1
  exact h1
/-- the method's frame g, with q thrown over it -/
def vx_W (p : Program) (l : Launch) (e : Env) (R : Room) (s : State) (m : MethodId) (args : Array Value) (below : List Frame) (meth : Method) (c : Code) (H : Heap) (locs : List Loc) (cells slots : Nat) (Q : State → Prop) (g : JFrame) (q : Addr) : Prop :=
  ∀ T : State, T.heap = H → Stand p l e R s m args below meth c T locs cells slots → ∃ t, Steps p.tables e below ((T.setTop g).pushFrame (.throwing q)) t ∧ Q t
def vx_Run (p : Program) (l : Launch) (e : Env) (R : Room) (s : State) (m : MethodId) (args : Array Value) (below : List Frame) (meth : Method) (c : Code) (H : Heap) (locs : List Loc) (cells slots mc ms : Nat) (g : JFrame) (rest : List Value) (Qa : State → Outcome → State → Prop) (XC : String → State → State → Prop) (free : Addr → Prop) : Prop :=
  ∀ T : State, T.heap = H → Stand p l e R s m args below meth c T locs cells slots →
    (∃ (v : Option Value) (st₀ t T' : State) (L : List Loc), st₀.heap = H ∧ Stand p l e R s m args below meth c T' (locs ++ L) (cells + mc) (slots + ms) ∧ (∀ q ∈ L, free q.base) ∧ T'.heap = t.heap ∧ T'.vm = t.vm ∧ Qa st₀ (.returned v) t ∧
      Goes p e below T g T' { g with pc := g.pc + 3, stack := v.toList ++ rest }) ∨
    (∃ (q : Addr) (st₀ t T' : State) (L : List Loc) (E : String) (ce : Cell), st₀.heap = H ∧ Stand p l e R s m args below meth c T' (locs ++ L) (cells + mc) (slots + ms) ∧ (∀ z ∈ L, free z.base) ∧ T'.heap = t.heap ∧ T'.vm = t.vm ∧ XC E st₀ t ∧ t.heap[q]? = some ce ∧ ce.vm = .none ∧ s.vm.findClass E = some ce.cls ∧
      Steps p.tables e below (T.setTop g) ((T'.setTop { g with stack := rest }).pushFrame (.throwing q)))
def vx_X {S : Type} (px : S → Prop) (B : String → S → State → Prop) (A : Nat → Prop) : String → State → State → Prop := fun E st t => ∃ u : S, px u ∧ B E u t ∧ va_F A st t
section Runs
variable {p : Program} {l : Launch} {e : Env} {R : Room} {s : State} {m : MethodId} {args : Array Value} {below : List Frame} {meth : Method} {c : Code} {H : Heap} {locs : List Loc} {cells slots : Nat}
variable {y : MethodName} {bytes cc : ByteArray} {maxL nL mc ms n index : Nat} {ret : Option FieldType} {ws : List Cond} {rm : Room} {Pc : Array Value → State → Prop} {Qc : Array Value → State → Outcome → State → Prop} {XC : String → State → State → Prop} {free : Addr → Prop} {Ts : List Cond} {own C : String} {b : Addr} {As rest : List Value} {g : JFrame}
theorem vx_callBack (cb : CallB R s args own index y bytes maxL ret ws rm mc ms n) (hM : vx_Met l y ws rm Pc Qc XC mc ms free) (hbl : FrameBlind Pc) : vx_Back l R p e below s args y 3 8 (PreOf R mc ms Pc) (PostOf Qc mc ms free) (vx_Post XC mc ms free) := by
  obtain ⟨hrc, hrs, hfr, hlo, hws, hcw, -, hini, -⟩ := cb
  exact vx_back (bytes := bytes) (maxL := maxL) (ret := ret) hM hbl hrc hrs hfr hlo hws hcw (fun a' U hW => word_at hW (Or.inl (by first | rfl | simp [Cond.onTables, Cond.keeps, Cond.steady])) hini)
theorem vx_runV (S : CallFix p m c cc nL s args Ts own) (hM : vx_Met l y ws rm Pc Qc XC mc ms free) (cw : CallW R s args own C index y bytes maxL ret ws rm mc ms n) (hp : PreV s H C b Pc As)
    (hg : g.method = m) (hn : As.length = n) (hsize : g.locals.size = nL) (hstack : g.stack = As.reverse ++ .ref b :: rest) (hW : 2 * g.monitorRoom + (rest.map fun v => v.category).sum ≤ 8) (hdg : decode cc g.pc = .ok (.invokevirtual index, 3)) (hf : cells + mc ≤ R.cells ∧ slots + ms ≤ R.slots) :
    vx_Run p l e R s m args below meth c H locs cells slots mc ms g rest (Qc (Value.ref b :: As).toArray) XC free := by
  have hK : vx_Back l R p e below s args y 3 8 (PreOf R mc ms Pc) (PostOf Qc mc ms free) (vx_Post XC mc ms free) := vx_callBack cw.1 hM hp.1
  obtain ⟨⟨-, -, -, -, -, -, hcode, -, hy, hlen, hl⟩, hin, hse⟩ := cw
  obtain ⟨hx, hb, hml, ho, -⟩ := S
  obtain ⟨-, ⟨cellB, hcB, hoB, hclB⟩, hPc⟩ := hp
  intro T hT X
  rcases vx_callV X hx (C := C) (bytes := bytes) (maxL := maxL) (ret := ret) ho hl hin hse hcode hy hK (by rw [hT]; exact hcB) hoB hclB hg (hsize.trans hml.symm) (argsL := As) (rest := rest) (fun sig h => hn.trans (hlen sig h)) hstack hW (by rw [hb]; exact hdg)
    (fun vm₁ hW₁ => ⟨hf.1, hf.2, hPc (T.setVm vm₁) hT hW₁⟩) with ⟨v, vm₁, ⟨U', l2, c2, s2⟩, hW₁, X', ⟨g', mk, t, L, e1, e2, hq, h1, hL, h2, h3⟩, st⟩ | ⟨q, vm₁, ⟨U', l2, c2, s2⟩, hW₁, X', ⟨g', mk, t, L, E, ce, e1, e2, hq, hce, hcv, hcl, h1, hL, h2, h3⟩, st⟩
  · dsimp only [Pt.U, Pt.locs, Pt.cells, Pt.slots] at X' e1 e2 h1 h2 h3 st
    subst h1; subst h2; subst h3
    exact Or.inl ⟨v, (T.setVm vm₁).calling g' mk (Value.ref b :: As).toArray, t, U', L, hT, X', hL, e1, e2, hq, st⟩
  · dsimp only [Pt.U, Pt.locs, Pt.cells, Pt.slots] at X' e1 e2 h1 h2 h3 st hcl
    subst h1; subst h2; subst h3
    exact Or.inr ⟨q, (T.setVm vm₁).calling g' mk (Value.ref b :: As).toArray, t, U', L, E, ce, hT, X', hL, e1, e2, hq, hce, hcv, vx_cls hW₁ hcl, st⟩
theorem vx_runS (S : CallFix p m c cc nL s args Ts own) (hM : vx_Met l y ws rm Pc Qc XC mc ms free) (cw : CallB R s args own index y bytes maxL ret ws rm mc ms n ∧ (Cond.static y).before args s = true) (hp : PreS s H Pc As)
    (hg : g.method = m) (hn : As.length = n) (hsize : g.locals.size = nL) (hstack : g.stack = As.reverse ++ rest) (hW : 2 * g.monitorRoom + (rest.map fun v => v.category).sum ≤ 8) (hdg : decode cc g.pc = .ok (.invokestatic index, 3)) (hf : cells + mc ≤ R.cells ∧ slots + ms ≤ R.slots) :
    vx_Run p l e R s m args below meth c H locs cells slots mc ms g rest (Qc As.toArray) XC free := by
  have hK : vx_Back l R p e below s args y 3 8 (PreOf R mc ms Pc) (PostOf Qc mc ms free) (vx_Post XC mc ms free) := vx_callBack cw.1 hM hp.1
  obtain ⟨⟨-, -, -, -, -, -, hcode, hini, hy, hlen, hl⟩, hstt⟩ := cw
  obtain ⟨hx, hb, hml, ho, -⟩ := S
  intro T hT X
  rcases vx_callS X hx (bytes := bytes) (maxL := maxL) (ret := ret) ho hl hstt hini hcode hy hK hg (hsize.trans hml.symm) (argsL := As) (rest := rest) (fun sig h => hn.trans (hlen sig h)) hstack hW (by rw [hb]; exact hdg)
    (fun vm₁ hW₁ => ⟨hf.1, hf.2, hp.2 (T.setVm vm₁) hT hW₁⟩) with ⟨v, vm₁, ⟨U', l2, c2, s2⟩, hW₁, X', ⟨g', mk, t, L, e1, e2, hq, h1, hL, h2, h3⟩, st⟩ | ⟨q, vm₁, ⟨U', l2, c2, s2⟩, hW₁, X', ⟨g', mk, t, L, E, ce, e1, e2, hq, hce, hcv, hcl, h1, hL, h2, h3⟩, st⟩
  · dsimp only [Pt.U, Pt.locs, Pt.cells, Pt.slots] at X' e1 e2 h1 h2 h3 st
    subst h1; subst h2; subst h3
    exact Or.inl ⟨v, (T.setVm vm₁).calling g' mk As.toArray, t, U', L, hT, X', hL, e1, e2, hq, st⟩
  · dsimp only [Pt.U, Pt.locs, Pt.cells, Pt.slots] at X' e1 e2 h1 h2 h3 st hcl
    subst h1; subst h2; subst h3
    exact Or.inr ⟨q, (T.setVm vm₁).calling g' mk As.toArray, t, U', L, E, ce, hT, X', hL, e1, e2, hq, hce, hcv, vx_cls hW₁ hcl, st⟩
end Runs
section Rows
variable {p : Program} {l : Launch} {e : Env} {R : Room} {s : State} {m : MethodId} {args : Array Value} {below : List Frame} {meth : Method} {c : Code} {H : Heap} {locs : List Loc} {cells slots : Nat} {Q : State → Prop}
variable {mc ms : Nat} {free : Addr → Prop} {A0 A1 : Nat → Prop} {H0 : Heap} {a : Array Value} {pc : Nat} {ls : Array Slot} {st0 rest : List Value}
theorem vx_keep {st₀ t T' : State} {L : List Loc} (h0 : st₀.heap = H) (e1 : T'.heap = t.heap) (hS : va_S A0 H0 H locs) (hA : ∀ q, q < H.size → A1 q → A0 q) (hf : ∀ q, free q → A0 q) (hL : ∀ q ∈ L, free q.base) (hF : va_F A1 st₀ t) :
    H.size ≤ T'.heap.size ∧ (∀ q : Nat, q < H.size → ¬ A1 q → T'.heap[q]? = H[q]?) ∧ va_S A0 H0 T'.heap (locs ++ L) := by
  obtain ⟨hz, hk⟩ := hF
  rw [h0] at hz hk
  exact ⟨by rw [e1]; exact hz, fun q h1 h2 => by rw [e1]; exact hk q h1 h2,
    ⟨Nat.le_trans hS.1 (by rw [e1]; exact hz), fun q h1 h2 => by rw [e1, hk q (Nat.lt_of_lt_of_le h1 hS.1) (fun z => h2 (hA q (Nat.lt_of_lt_of_le h1 hS.1) z))]; exact hS.2.1 q h1 h2, fun q hq => by
      rcases List.mem_append.mp hq with h | h
      · exact hS.2.2 q h
      · exact hf _ (hL q h)⟩⟩
theorem vx_calli {S SX : Type} {post : Int32 → S → Prop} {px : SX → Prop} {B : S → State → Prop} {BX : String → SX → State → Prop} {AX : Nat → Prop} (hr : vx_Run p l e R s m args below meth c H locs cells slots mc ms (F0 m pc ls st0) rest (va_Qi post B A1 a) (vx_X px BX AX) free) (hS : va_S A0 H0 H locs) (hA : ∀ q, q < H.size → A1 q → A0 q) (hf : ∀ q, free q → A0 q) (hAX : ∀ q, q < H.size → AX q → A0 q)
    (kx : ∀ (E : String) (ce : Cell) (q9 : Addr) (u : SX) (t : State) (H1 : Heap) (locs1 : List Loc), t.heap = H1 → s.vm.Alike t.vm → px u → BX E u t → H.size ≤ H1.size → (∀ q : Nat, q < H.size → ¬ AX q → H1[q]? = H[q]?) → va_S A0 H0 H1 locs1 → H1[q9]? = some ce → ce.vm = .none → s.vm.findClass E = some ce.cls → vx_W p l e R s m args below meth c H1 locs1 (cells + mc) (slots + ms) Q (F0 m pc ls rest) q9)
    (kk : ∀ (r : Int32) (u : S) (t : State) (H1 : Heap) (locs1 : List Loc), t.heap = H1 → s.vm.Alike t.vm → post r u → B u t → H.size ≤ H1.size → (∀ q : Nat, q < H.size → ¬ A1 q → H1[q]? = H[q]?) → va_S A0 H0 H1 locs1 → W p l e R s m args below meth c H1 locs1 (cells + mc) (slots + ms) Q (F0 m (pc + 3) ls (.int r :: rest))) : W p l e R s m args below meth c H locs cells slots Q (F0 m pc ls st0) := by
  intro T hT X
  rcases hr T hT X with ⟨v, st₀, t, T', L, h0, X', hL, e1, e2, ⟨⟨r, u, hv, hp, hb⟩, hF⟩, st⟩ | ⟨q, st₀, t, T', L, E, ce, h0, X', hL, e1, e2, ⟨u, hp, hb, hF⟩, hce, hcv, hcl, st⟩
  · cases hv
    obtain ⟨k1, k2, k3⟩ := vx_keep h0 e1 hS hA hf hL hF
    obtain ⟨t2, a1, b1⟩ := kk r u t T'.heap (locs ++ L) e1.symm (by rw [← e2]; exact X'.warmed.alike) hp hb k1 k2 k3 T' rfl X'
    exact ⟨t2, st t2 a1, b1⟩
  · obtain ⟨k1, k2, k3⟩ := vx_keep h0 e1 hS hAX hf hL hF
    obtain ⟨t2, a1, b1⟩ := kx E ce q u t T'.heap (locs ++ L) e1.symm (by rw [← e2]; exact X'.warmed.alike) hp hb k1 k2 k3 (by rw [e1]; exact hce) hcv hcl T' rfl X'
    exact ⟨t2, st.trans a1, b1⟩
theorem vx_calll {S SX : Type} {post : Int64 → S → Prop} {px : SX → Prop} {B : S → State → Prop} {BX : String → SX → State → Prop} {AX : Nat → Prop} (hr : vx_Run p l e R s m args below meth c H locs cells slots mc ms (F0 m pc ls st0) rest (va_Ql post B A1 a) (vx_X px BX AX) free) (hS : va_S A0 H0 H locs) (hA : ∀ q, q < H.size → A1 q → A0 q) (hf : ∀ q, free q → A0 q) (hAX : ∀ q, q < H.size → AX q → A0 q)
    (kx : ∀ (E : String) (ce : Cell) (q9 : Addr) (u : SX) (t : State) (H1 : Heap) (locs1 : List Loc), t.heap = H1 → s.vm.Alike t.vm → px u → BX E u t → H.size ≤ H1.size → (∀ q : Nat, q < H.size → ¬ AX q → H1[q]? = H[q]?) → va_S A0 H0 H1 locs1 → H1[q9]? = some ce → ce.vm = .none → s.vm.findClass E = some ce.cls → vx_W p l e R s m args below meth c H1 locs1 (cells + mc) (slots + ms) Q (F0 m pc ls rest) q9)
    (kk : ∀ (r : Int64) (u : S) (t : State) (H1 : Heap) (locs1 : List Loc), t.heap = H1 → s.vm.Alike t.vm → post r u → B u t → H.size ≤ H1.size → (∀ q : Nat, q < H.size → ¬ A1 q → H1[q]? = H[q]?) → va_S A0 H0 H1 locs1 → W p l e R s m args below meth c H1 locs1 (cells + mc) (slots + ms) Q (F0 m (pc + 3) ls (.long r :: rest))) : W p l e R s m args below meth c H locs cells slots Q (F0 m pc ls st0) := by
  intro T hT X
  rcases hr T hT X with ⟨v, st₀, t, T', L, h0, X', hL, e1, e2, ⟨⟨r, u, hv, hp, hb⟩, hF⟩, st⟩ | ⟨q, st₀, t, T', L, E, ce, h0, X', hL, e1, e2, ⟨u, hp, hb, hF⟩, hce, hcv, hcl, st⟩
  · cases hv
    obtain ⟨k1, k2, k3⟩ := vx_keep h0 e1 hS hA hf hL hF
    obtain ⟨t2, a1, b1⟩ := kk r u t T'.heap (locs ++ L) e1.symm (by rw [← e2]; exact X'.warmed.alike) hp hb k1 k2 k3 T' rfl X'
    exact ⟨t2, st t2 a1, b1⟩
  · obtain ⟨k1, k2, k3⟩ := vx_keep h0 e1 hS hAX hf hL hF
    obtain ⟨t2, a1, b1⟩ := kx E ce q u t T'.heap (locs ++ L) e1.symm (by rw [← e2]; exact X'.warmed.alike) hp hb k1 k2 k3 (by rw [e1]; exact hce) hcv hcl T' rfl X'
    exact ⟨t2, st.trans a1, b1⟩
theorem vx_callf {S SX : Type} {post : UInt32 → S → Prop} {px : SX → Prop} {B : S → State → Prop} {BX : String → SX → State → Prop} {AX : Nat → Prop} (hr : vx_Run p l e R s m args below meth c H locs cells slots mc ms (F0 m pc ls st0) rest (va_Qf post B A1 a) (vx_X px BX AX) free) (hS : va_S A0 H0 H locs) (hA : ∀ q, q < H.size → A1 q → A0 q) (hf : ∀ q, free q → A0 q) (hAX : ∀ q, q < H.size → AX q → A0 q)
    (kx : ∀ (E : String) (ce : Cell) (q9 : Addr) (u : SX) (t : State) (H1 : Heap) (locs1 : List Loc), t.heap = H1 → s.vm.Alike t.vm → px u → BX E u t → H.size ≤ H1.size → (∀ q : Nat, q < H.size → ¬ AX q → H1[q]? = H[q]?) → va_S A0 H0 H1 locs1 → H1[q9]? = some ce → ce.vm = .none → s.vm.findClass E = some ce.cls → vx_W p l e R s m args below meth c H1 locs1 (cells + mc) (slots + ms) Q (F0 m pc ls rest) q9)
    (kk : ∀ (r : UInt32) (u : S) (t : State) (H1 : Heap) (locs1 : List Loc), t.heap = H1 → s.vm.Alike t.vm → post r u → B u t → H.size ≤ H1.size → (∀ q : Nat, q < H.size → ¬ A1 q → H1[q]? = H[q]?) → va_S A0 H0 H1 locs1 → W p l e R s m args below meth c H1 locs1 (cells + mc) (slots + ms) Q (F0 m (pc + 3) ls (.float r :: rest))) : W p l e R s m args below meth c H locs cells slots Q (F0 m pc ls st0) := by
  intro T hT X
  rcases hr T hT X with ⟨v, st₀, t, T', L, h0, X', hL, e1, e2, ⟨⟨r, u, hv, hp, hb⟩, hF⟩, st⟩ | ⟨q, st₀, t, T', L, E, ce, h0, X', hL, e1, e2, ⟨u, hp, hb, hF⟩, hce, hcv, hcl, st⟩
  · cases hv
    obtain ⟨k1, k2, k3⟩ := vx_keep h0 e1 hS hA hf hL hF
    obtain ⟨t2, a1, b1⟩ := kk r u t T'.heap (locs ++ L) e1.symm (by rw [← e2]; exact X'.warmed.alike) hp hb k1 k2 k3 T' rfl X'
    exact ⟨t2, st t2 a1, b1⟩
  · obtain ⟨k1, k2, k3⟩ := vx_keep h0 e1 hS hAX hf hL hF
    obtain ⟨t2, a1, b1⟩ := kx E ce q u t T'.heap (locs ++ L) e1.symm (by rw [← e2]; exact X'.warmed.alike) hp hb k1 k2 k3 (by rw [e1]; exact hce) hcv hcl T' rfl X'
    exact ⟨t2, st.trans a1, b1⟩
theorem vx_calld {S SX : Type} {post : UInt64 → S → Prop} {px : SX → Prop} {B : S → State → Prop} {BX : String → SX → State → Prop} {AX : Nat → Prop} (hr : vx_Run p l e R s m args below meth c H locs cells slots mc ms (F0 m pc ls st0) rest (va_Qd post B A1 a) (vx_X px BX AX) free) (hS : va_S A0 H0 H locs) (hA : ∀ q, q < H.size → A1 q → A0 q) (hf : ∀ q, free q → A0 q) (hAX : ∀ q, q < H.size → AX q → A0 q)
    (kx : ∀ (E : String) (ce : Cell) (q9 : Addr) (u : SX) (t : State) (H1 : Heap) (locs1 : List Loc), t.heap = H1 → s.vm.Alike t.vm → px u → BX E u t → H.size ≤ H1.size → (∀ q : Nat, q < H.size → ¬ AX q → H1[q]? = H[q]?) → va_S A0 H0 H1 locs1 → H1[q9]? = some ce → ce.vm = .none → s.vm.findClass E = some ce.cls → vx_W p l e R s m args below meth c H1 locs1 (cells + mc) (slots + ms) Q (F0 m pc ls rest) q9)
    (kk : ∀ (r : UInt64) (u : S) (t : State) (H1 : Heap) (locs1 : List Loc), t.heap = H1 → s.vm.Alike t.vm → post r u → B u t → H.size ≤ H1.size → (∀ q : Nat, q < H.size → ¬ A1 q → H1[q]? = H[q]?) → va_S A0 H0 H1 locs1 → W p l e R s m args below meth c H1 locs1 (cells + mc) (slots + ms) Q (F0 m (pc + 3) ls (.double r :: rest))) : W p l e R s m args below meth c H locs cells slots Q (F0 m pc ls st0) := by
  intro T hT X
  rcases hr T hT X with ⟨v, st₀, t, T', L, h0, X', hL, e1, e2, ⟨⟨r, u, hv, hp, hb⟩, hF⟩, st⟩ | ⟨q, st₀, t, T', L, E, ce, h0, X', hL, e1, e2, ⟨u, hp, hb, hF⟩, hce, hcv, hcl, st⟩
  · cases hv
    obtain ⟨k1, k2, k3⟩ := vx_keep h0 e1 hS hA hf hL hF
    obtain ⟨t2, a1, b1⟩ := kk r u t T'.heap (locs ++ L) e1.symm (by rw [← e2]; exact X'.warmed.alike) hp hb k1 k2 k3 T' rfl X'
    exact ⟨t2, st t2 a1, b1⟩
  · obtain ⟨k1, k2, k3⟩ := vx_keep h0 e1 hS hAX hf hL hF
    obtain ⟨t2, a1, b1⟩ := kx E ce q u t T'.heap (locs ++ L) e1.symm (by rw [← e2]; exact X'.warmed.alike) hp hb k1 k2 k3 (by rw [e1]; exact hce) hcv hcl T' rfl X'
    exact ⟨t2, st.trans a1, b1⟩
theorem vx_callv {S SX : Type} {post : S → Prop} {px : SX → Prop} {B : S → State → Prop} {BX : String → SX → State → Prop} {AX : Nat → Prop} (hr : vx_Run p l e R s m args below meth c H locs cells slots mc ms (F0 m pc ls st0) rest (va_Qv post B A1 a) (vx_X px BX AX) free) (hS : va_S A0 H0 H locs) (hA : ∀ q, q < H.size → A1 q → A0 q) (hf : ∀ q, free q → A0 q) (hAX : ∀ q, q < H.size → AX q → A0 q)
    (kx : ∀ (E : String) (ce : Cell) (q9 : Addr) (u : SX) (t : State) (H1 : Heap) (locs1 : List Loc), t.heap = H1 → s.vm.Alike t.vm → px u → BX E u t → H.size ≤ H1.size → (∀ q : Nat, q < H.size → ¬ AX q → H1[q]? = H[q]?) → va_S A0 H0 H1 locs1 → H1[q9]? = some ce → ce.vm = .none → s.vm.findClass E = some ce.cls → vx_W p l e R s m args below meth c H1 locs1 (cells + mc) (slots + ms) Q (F0 m pc ls rest) q9)
    (kk : ∀ (u : S) (t : State) (H1 : Heap) (locs1 : List Loc), t.heap = H1 → s.vm.Alike t.vm → post u → B u t → H.size ≤ H1.size → (∀ q : Nat, q < H.size → ¬ A1 q → H1[q]? = H[q]?) → va_S A0 H0 H1 locs1 → W p l e R s m args below meth c H1 locs1 (cells + mc) (slots + ms) Q (F0 m (pc + 3) ls (rest))) : W p l e R s m args below meth c H locs cells slots Q (F0 m pc ls st0) := by
  intro T hT X
  rcases hr T hT X with ⟨v, st₀, t, T', L, h0, X', hL, e1, e2, ⟨⟨u, hv, hp, hb⟩, hF⟩, st⟩ | ⟨q, st₀, t, T', L, E, ce, h0, X', hL, e1, e2, ⟨u, hp, hb, hF⟩, hce, hcv, hcl, st⟩
  · cases hv
    obtain ⟨k1, k2, k3⟩ := vx_keep h0 e1 hS hA hf hL hF
    obtain ⟨t2, a1, b1⟩ := kk u t T'.heap (locs ++ L) e1.symm (by rw [← e2]; exact X'.warmed.alike) hp hb k1 k2 k3 T' rfl X'
    exact ⟨t2, st t2 a1, b1⟩
  · obtain ⟨k1, k2, k3⟩ := vx_keep h0 e1 hS hAX hf hL hF
    obtain ⟨t2, a1, b1⟩ := kx E ce q u t T'.heap (locs ++ L) e1.symm (by rw [← e2]; exact X'.warmed.alike) hp hb k1 k2 k3 (by rw [e1]; exact hce) hcv hcl T' rfl X'
    exact ⟨t2, st.trans a1, b1⟩
/-- caught by the row x of this method's table; the rows ahead don't take it -/
theorem vx_catch {own name : String} {E : String} {ce : Cell} {q : Addr} (hown : s.vm.findClass own = some m.cls) (pre : List ExceptionTableEntry) (x : ExceptionTableEntry) (suf : List ExceptionTableEntry) (hsplit : c.exceptionTable.toList = pre ++ x :: suf)
    (hpass : ∀ z ∈ pre, covers z pc = false ∨ (z.catchType ≠ 0 ∧ ∃ nm : String, (Cond.classLink own z.catchType nm).before args s = true ∧ va_Nc E nm s)) (hx : covers x pc = true) (h0 : x.catchType ≠ 0)
    (hlink : (Cond.classLink own x.catchType name).before args s = true) (hcast : (Cond.castable E name).before args s = true) (hcell : H[q]? = some ce) (hv : ce.vm = .none) (hcl : s.vm.findClass E = some ce.cls)
    (kk : W p l e R s m args below meth c H locs cells slots Q (F0 m x.handlerPc ls [.ref q])) : vx_W p l e R s m args below meth c H locs cells slots Q (F0 m pc ls rest) q := by
  intro T hT X
  have hpl : e.platform.magicAccessors = ({} : Platform).magicAccessors := by rw [X.admits.platform]
  obtain ⟨c3, c4, hc3, hc4, hasg⟩ := Cond.castable_spec hcast
  cases Option.some.inj (hc3.symm.trans hcl)
  obtain ⟨c5, hc5, hcl5⟩ := Cond.classLink_spec hown hlink e.platform hpl
  cases Option.some.inj (hc4.symm.trans hc5)
  obtain ⟨vm', X', st⟩ := X.thenCaughtThrough q (g := F0 m pc ls rest) rfl (Steps.refl _) (by rw [hT]; exact hcell) (by rw [hv]; rfl) (by obtain ⟨k9, h9, -⟩ := Vm.findClass_spec hcl; exact ⟨k9, h9⟩) pre x suf hsplit
    (fun z hz => by
      rcases hpass z hz with h | ⟨hz0, nm, hl1, hn1⟩
      · exact Or.inl h
      · obtain ⟨c6, hc6, hcl6⟩ := Cond.classLink_spec hown hl1 e.platform hpl
        obtain ⟨a8, b8, h1, h2, h3⟩ := hn1
        cases Option.some.inj (h1.symm.trans hcl)
        cases Option.some.inj (h2.symm.trans hc6)
        exact Or.inr ⟨hz0, _, hcl6, h3⟩) hx (Or.inr ⟨h0, c4, hcl5, hasg⟩)
  obtain ⟨t, a1, b1⟩ := kk (T.setVm vm') hT X'
  exact ⟨t, st.trans a1, b1⟩
end Rows
section Ends
variable {p : Program} {l : Launch} {e : Env} {R : Room} {s : State} {m : MethodId} {args : Array Value} {below : List Frame} {meth : Method} {c : Code} {H : Heap} {locs : List Loc} {cells slots : Nat} {Q : State → Prop}
variable {mc ms : Nat} {free : Addr → Prop} {A0 A1 : Nat → Prop} {H0 : Heap} {a : Array Value} {ls : Array Slot} {st0 rest : List Value}
variable {Qc : Array Value → State → Outcome → State → Prop} {XC : String → State → State → Prop}
/-- what a body that may throw owes at its end -/
def vx_MQ (below : List Frame) (Qc : Array Value → State → Outcome → State → Prop) (XC : String → State → State → Prop) (a : Array Value) (s : State) (mc ms : Nat) (free : Addr → Prop) : State → Prop := fun t =>
  ∃ o, t.status = .running ∧ Ended t below o ∧ vx_Q Qc XC mc ms free a s o t
theorem vx_ret {g : JFrame} {mc ms : Nat} (k : W p l e R s m args below meth c H locs cells slots (MQ below Qc args s mc ms free) g) : W p l e R s m args below meth c H locs cells slots (vx_MQ below Qc XC args s mc ms free) g := by
  intro T hT X
  obtain ⟨t, a1, o, b1, b2, b3, b4⟩ := k T hT X
  exact ⟨t, a1, o, b1, b2, Or.inl ⟨b3, b4⟩⟩
/-- not caught here: it goes on to the caller -/
theorem vx_widen {g : JFrame} {q : Addr} {k n : Nat} (h1 : cells ≤ k) (h2 : slots ≤ n) (kk : vx_W p l e R s m args below meth c H locs k n Q g q) : vx_W p l e R s m args below meth c H locs cells slots Q g q := fun T hT X => kk T hT (stand_widen X h1 h2)
theorem vx_out {pc : Nat} {E : String} {ce : Cell} {q : Addr} {mc ms : Nat} (hout : ∀ x ∈ c.exceptionTable.toList, covers x pc = false) (hlocks : meth.locks = false) (hcell : H[q]? = some ce) (hv : ce.vm = .none) (hcl : s.vm.findClass E = some ce.cls)
    (hx : ∀ t : State, t.heap = H → s.vm.Alike t.vm → XC E s t) (hf : ∀ z ∈ locs, free z.base) (hc : cells ≤ mc) (hs : slots ≤ ms) :
    vx_W p l e R s m args below meth c H locs cells slots (vx_MQ below Qc XC args s mc ms free) (F0 m pc ls rest) q := by
  intro T hT X
  obtain ⟨st1, hrun, hend, hW, hsm⟩ := X.leaveThrown q (g := F0 m pc ls rest) rfl rfl rfl hout hlocks
  have hcell9 : (T.setFrames (.throwing q :: below)).heap[q]? = some ce := by
    show T.heap[q]? = some ce
    rw [hT]; exact hcell
  exact ⟨_, st1, .threw q, hrun, hend, Or.inr ⟨q, rfl, E, ce, locs, hx _ hT hW.alike, hcell9, hv, hcl, hW, hsm.mono hc hs, hf⟩⟩
theorem vx_frame {U : State} {k n : Nat} (h : s.sameButNew ({ U with vm := s.vm } : State) locs k n) : s.heap.size ≤ U.heap.size ∧ ∀ q : Nat, q < s.heap.size → (∀ z ∈ locs, z.base ≠ q) → U.heap[q]? = s.heap[q]? := by
  obtain ⟨-, h2, -, -, -, h6⟩ := h
  refine ⟨h2, fun q hq hz => ?_⟩
  obtain ⟨c9, e1, e2, e3, e4⟩ := h6 q _ (Array.getElem?_eq_getElem hq)
  have hs : c9.slots = (s.heap[q]).slots := Array.ext_getElem? fun i => e4 i fun hm => hz _ hm rfl
  have h9 : c9 = s.heap[q] := by
    rw [hs] at e2
    exact e2
  have e5 : U.heap[q]? = some c9 := e1
  rw [e5, h9, Array.getElem?_eq_getElem hq]
/-- the words of a throw but the four that speak of the heap -/
def vx_no (w : Cond) : Bool := decide (w ≠ .isRef (.static Bundle.tN "UNASSIGNED_STACK" Bundle.steD)) && decide (w ≠ .isRef (.static Bundle.tN "SUPPRESSED_SENTINEL" Bundle.listD)) && decide (w ≠ .laysStatic Bundle.tN "UNASSIGNED_STACK" Bundle.steD) && decide (w ≠ .laysStatic Bundle.tN "SUPPRESSED_SENTINEL" Bundle.listD)
def vx_at0 (own : String) (ic : Nat) (X : String) (names : List String) : List Cond := (Bundle.ownAtoms0 own ic X names).filter vx_no
def vx_atS (own : String) (ic : Nat) (X : String) (names : List String) : List Cond := (Bundle.ownAtoms own ic X names).filter vx_no
/-- a word that the tables alone decide, or a good one -/
def vx_ot (w : Cond) : Bool := w.onTables || goodWord w
theorem vx_ot_at {args a' : Array Value} {s U : State} {w : Cond} (hW : s.WarmedH U.vm) (hvm : s.vm = U.vm) (hg : vx_ot w = true) (h : w.before args s = true) : w.before a' U = true := by
  simp only [vx_ot, Bool.or_eq_true] at hg
  rcases hg with hg | hg
  · exact va_tabs hg hvm h
  · exact word_at hW (good_of_word hg) h
/-- a list's words: the good ones out of the method's own list, the others by premises of their own -/
theorem vx_hat {args : Array Value} {s : State} {L B : List Cond} (h1 : ∀ w ∈ L.filter goodWord, w.before args s = true) (h2 : ∀ w ∈ L.filter (fun w => !goodWord w), w ∈ B) (h3 : ∀ w ∈ B, w.before args s = true) : ∀ w ∈ L, w.before args s = true := by
  intro w hw
  by_cases g : goodWord w = true
  · exact h1 w (List.mem_filter.mpr ⟨hw, g⟩)
  · refine h3 w (h2 w (List.mem_filter.mpr ⟨hw, ?_⟩))
    show (!goodWord w) = true
    cases hgw : goodWord w
    · rfl
    · exact absurd hgw g
theorem vx_c {args : Array Value} {s : State} {w : Cond} {B : List Cond} (h : w.before args s = true) (t : ∀ w ∈ B, w.before args s = true) : ∀ w' ∈ w :: B, w'.before args s = true := fun w' h' => (List.mem_cons.mp h').elim (fun e => by rw [e]; exact h) (t w')
theorem vx_n {args : Array Value} {s : State} : ∀ w ∈ ([] : List Cond), w.before args s = true := fun _ h => nomatch h
theorem vx_own {args : Array Value} {s : State} {L : List Cond} (h1 : ∀ w ∈ L.filter vx_no, w.before args s = true)
    (hU : (Cond.isRef (.static Bundle.tN "UNASSIGNED_STACK" Bundle.steD)).before args s = true) (hN : (Cond.isRef (.static Bundle.tN "SUPPRESSED_SENTINEL" Bundle.listD)).before args s = true)
    (lU : (Cond.laysStatic Bundle.tN "UNASSIGNED_STACK" Bundle.steD).before args s = true) (lN : (Cond.laysStatic Bundle.tN "SUPPRESSED_SENTINEL" Bundle.listD).before args s = true) : ∀ w ∈ L, w.before args s = true := by
  intro w hw
  by_cases e1 : w = .isRef (.static Bundle.tN "UNASSIGNED_STACK" Bundle.steD)
  · rw [e1]; exact hU
  · by_cases e2 : w = .isRef (.static Bundle.tN "SUPPRESSED_SENTINEL" Bundle.listD)
    · rw [e2]; exact hN
    · by_cases e3 : w = .laysStatic Bundle.tN "UNASSIGNED_STACK" Bundle.steD
      · rw [e3]; exact lU
      · by_cases e4 : w = .laysStatic Bundle.tN "SUPPRESSED_SENTINEL" Bundle.listD
        · rw [e4]; exact lN
        · exact h1 w (List.mem_filter.mpr ⟨hw, by unfold vx_no; rw [decide_eq_true e1, decide_eq_true e2, decide_eq_true e3, decide_eq_true e4]; rfl⟩)
/-- where a static field lies, its class's statics cell in H -/
def vx_L (C n d : String) (A : Nat → Prop) (U : State) (H : Heap) : Prop := ∃ (c : ClassId) (k : Class) (i : Nat) (f : Field) (a : Nat) (cell : Cell), U.vm.findClass C = some c ∧ U.fieldFound? C n d = some (c, k, i, f) ∧ f.isStatic = true ∧ k.statics = some a ∧ H[a]? = some cell ∧ cell.vm.isStatics = true ∧ cell.cls = c ∧ f.slot < cell.slots.size ∧ k.staticTypes[f.slot]? = some f.type ∧ ¬ A a
theorem vx_L.moved {C n d : String} {A : Nat → Prop} {u U : State} {H : Heap} (hvm : u.vm.Alike U.vm) (h : vx_L C n d A u H) : vx_L C n d A U H := by
  obtain ⟨c, k, i, f, a, cell, h1, h2, h3, h4, h5, h6, h7, h8, h9, h10⟩ := h
  obtain ⟨k', hi', he⟩ := State.fieldFound?_setVm hvm h2
  exact ⟨c, k', i, f, a, cell, by rw [hvm.findClass]; exact h1, hi', h3, by rw [he]; exact h4, h5, h6, h7, h8, by rw [he]; exact h9, h10⟩
theorem vx_L.kept {C n d : String} {A : Nat → Prop} {U : State} {H H1 : Heap} (h : vx_L C n d A U H) (hq : ∀ a : Nat, a < H.size → ¬ A a → H1[a]? = H[a]?) : vx_L C n d A U H1 := by
  obtain ⟨c, k, i, f, a, cell, h1, h2, h3, h4, h5, h6, h7, h8, h9, h10⟩ := h
  exact ⟨c, k, i, f, a, cell, h1, h2, h3, h4, by rw [hq a (Array.getElem?_eq_some_iff.mp h5).1 h10]; exact h5, h6, h7, h8, h9, h10⟩
theorem vx_L.narrow {C n d : String} {A B : Nat → Prop} {U : State} {H : Heap} (h : vx_L C n d A U H) (hAB : ∀ q, B q → A q) : vx_L C n d B U H := by
  obtain ⟨c, k, i, f, a, cell, h1, h2, h3, h4, h5, h6, h7, h8, h9, h10⟩ := h
  exact ⟨c, k, i, f, a, cell, h1, h2, h3, h4, h5, h6, h7, h8, h9, fun z => h10 (hAB _ z)⟩
theorem vx_L.word {C n d : String} {A : Nat → Prop} {s : State} {args : Array Value} (h : vx_L C n d A s s.heap) : (Cond.laysStatic C n d).before args s = true := by
  obtain ⟨c, k, i, f, a, cell, h1, h2, h3, h4, h5, h6, h7, h8, h9, -⟩ := h
  show (Cond.laysStatic C n d).holds args s none s [] = true
  exact Cond.laysStatic_of h1 h2 h3 h4 h5 h6 h7 h8 h9
/-- .. and what it holds: null or some reference -/
def vx_Zq (C n d : String) (A : Nat → Prop) (U : State) (H : Heap) : Prop := va_Zq C n d A U H ∧ vx_L C n d A U H
theorem vx_Zq.moved {C n d : String} {A : Nat → Prop} {u U : State} {H : Heap} (hvm : u.vm.Alike U.vm) (h : vx_Zq C n d A u H) : vx_Zq C n d A U H := ⟨va_Zq.moved hvm h.1, vx_L.moved hvm h.2⟩
theorem vx_Zq.kept {C n d : String} {A : Nat → Prop} {U : State} {H H1 : Heap} (h : vx_Zq C n d A U H) (hq : ∀ a : Nat, a < H.size → ¬ A a → H1[a]? = H[a]?) : vx_Zq C n d A U H1 := ⟨va_Zq.kept h.1 hq, vx_L.kept h.2 hq⟩
theorem vx_Zq.narrow {C n d : String} {A B : Nat → Prop} {U : State} {H : Heap} (h : vx_Zq C n d A U H) (hAB : ∀ q, B q → A q) : vx_Zq C n d B U H := ⟨va_Zq.narrow h.1 hAB, vx_L.narrow h.2 hAB⟩
theorem vx_Zqof {args : Array Value} {s : State} {C n d : String} {A : Nat → Prop} (hl : (Cond.laysStatic C n d).before args s = true) (hini : (Cond.initialized C).before args s = true) (h : (Cond.isRef (.static C n d)).before args s = true) (hA : ∀ a : Nat, a < s.heap.size → ¬ A a) : vx_Zq C n d A s s.heap := by
  refine ⟨va_Zqof hl hini h hA, ?_⟩
  obtain ⟨c, k, i, f, a, cell, h1, h2, h3, h4, h5, h6, h7, h8, h9⟩ := Cond.laysStatic_spec hl
  exact ⟨c, k, i, f, a, cell, h1, h2, h3, h4, h5, h6, h7, h8, h9, hA a (Array.getElem?_eq_some_iff.mp h5).1⟩
theorem vx_isRef {C n d : String} {v : Value} {A : Nat → Prop} {s : State} {args : Array Value} (h : va_Z C n d v A s s.heap) (hv : v.isRef = true) : (Cond.isRef (.static C n d)).before args s = true := by
  obtain ⟨cf, kf, fi, f, a, cell, h1, h2, h3, h4, h5, h6, h7, -⟩ := h
  have he : (Term.static C n d).eval args s none [] s = some v := by
    simp [Term.eval, State.fieldNamed?, h1, h2, h4, h5, h6, h7]
  simp only [Cond.before, Cond.holds, Cond.value, he]
  cases v <;> simp_all [Value.isRef]
theorem vx_isRefq {C n d : String} {A : Nat → Prop} {s : State} {args : Array Value} (h : va_Zq C n d A s s.heap) : (Cond.isRef (.static C n d)).before args s = true := by
  rcases h with h | ⟨t, h⟩
  · exact vx_isRef h rfl
  · exact vx_isRef h rfl
/-- the same frame, seen from here: as if the method were called anew in this heap -/
theorem vx_rebase {T : State} (X : Stand p l e R s m args below meth c T locs cells slots) {R' : Room} (hf : R'.frames ≤ R.frames) (hl : R'.locals ≤ R.locals) (hc : cells + R'.cells ≤ R.cells) (hs : slots + R'.slots ≤ R.slots) :
    Stand p l e R' ((T.setVm s.vm).setFrames (.invoking m args :: below)) m args below meth c T [] 0 0 := by
  have htop : (T.setVm s.vm).topJava?.isSome := X.here.top
  have hF : ((T.setVm s.vm).setFrames (.invoking m args :: below)).frames = .invoking m args :: below := State.frames_setFrames _ (State.cur_lt_of_top htop)
  obtain ⟨g₀, hg0⟩ := Option.isSome_iff_exists.mp htop
  obtain ⟨r, hr⟩ := State.topJava?_eq_some.mp hg0
  have hl9 : e.platform.stackLimits (T.setVm s.vm).me = e.platform.stackLimits s.me := X.limits
  have hb9 : (T.setVm s.vm).me.stackBytes = s.me.stackBytes := X.bytes
  refine ⟨X.admits, X.cas, X.clock, hF, ?_, X.hears, X.method, X.code, X.here, X.tail, X.warmed, ?_, ?_, ?_⟩
  · have h := X.room
    have hU : ((T.setVm s.vm).setFrames (.invoking m args :: below)).localsInUse = s.localsInUse := by
      rw [State.localsInUse_invoking hF (meth := meth) (c := c) X.method X.code, State.localsInUse_invoking X.frames X.method X.code]
    simp only [State.hasRoom, Bool.and_eq_true, decide_eq_true_eq] at h ⊢
    obtain ⟨⟨⟨⟨h1, h2, h3, h4, h5, h6⟩, h7⟩, h8⟩, h9⟩ := h
    rw [X.frames, List.length_cons] at h2 h3
    have q1 := X.heapSize
    have q2 := X.used
    simp only [hF, hU, List.length_cons, State.stackLimits_setFrames, State.stackBytes_setFrames, hl9, hb9]
    refine ⟨⟨⟨⟨by omega, by omega, by omega, by omega, by omega, h6⟩, ?_⟩, ?_⟩, X.book⟩
    · show T.heap.size + R'.cells ≤ e.platform.maxCells
      omega
    · show T.slotsUsed + R'.slots ≤ e.platform.maxSlots
      omega
  · rw [State.stackLimits_setFrames]; rfl
  · rw [State.stackBytes_setFrames]; rfl
  · refine ⟨?_, Nat.le_refl _, Nat.le_refl _, ?_, ?_, fun a c9 h9 => ⟨c9, h9, rfl, rfl, fun _ _ => rfl⟩⟩
    · obtain ⟨t, ht, -⟩ := State.frames_cons hr
      show T.setVm s.vm = { ((T.setVm s.vm).setFrames (.invoking m args :: below)).setFrames (T.setVm s.vm).frames with heap := T.heap, slotsUsed := T.slotsUsed }
      rw [State.setFrames_setFrames, State.setFrames_self ht]
      rfl
    · show T.slotsUsed = T.slotsUsed + ((T.heap.toList.drop T.heap.size).map (·.slots.size)).sum
      rw [List.drop_eq_nil_of_le (Nat.le_of_eq Array.length_toList)]
      rfl
    · show ((T.heap.toList.drop T.heap.size).map (·.slots.size)).sum ≤ 0
      rw [List.drop_eq_nil_of_le (Nat.le_of_eq Array.length_toList)]
      exact Nat.le_refl _
/-- 'throw new E()': new; dup; invokespecial; athrow -/
theorem vx_throw0 {cc : ByteArray} {pc : Nat} (hexec : p.tables.exec = Jvm.exec) (hb : c.code = cc) (hl : l.stackTraces = false) {own cls : String} {names : List String} {ik ic mc ms : Nat} {A : Nat → Prop}
    (hown : s.vm.findClass own = some m.cls) (hcls : Bundle.fit cls = true) (hnames : ∀ n ∈ names, Bundle.fit n = true)
    (hk : (Cond.classLink own ik cls).before args s = true) (hini : (Cond.initialized cls).before args s = true) (hat : ∀ w ∈ vx_at0 own ic cls names, w.before args s = true)
    (hgood : ∀ w ∈ Cond.classLink own ik cls :: Cond.initialized cls :: vx_at0 own ic cls names, vx_ot w = true)
    (hU : vx_Zq Bundle.tN "UNASSIGNED_STACK" Bundle.steD A s s.heap) (hN : vx_Zq Bundle.tN "SUPPRESSED_SENTINEL" Bundle.listD A s s.heap) (hS : va_S A s.heap H locs) (hsize : ls.size = c.maxLocals)
    (d0 : decode cc pc = .ok (.new ik, 3)) (d3 : decode cc (pc + 3) = .ok (.dup, 1)) (d4 : decode cc (pc + 4) = .ok (.invokespecial ic, 3)) (d7 : decode cc (pc + 7) = .ok (.athrow, 1))
    (hout : ∀ x ∈ c.exceptionTable.toList, covers x (pc + 7) = false)
    (hRframes : names.length + 3 < R.frames) (hRlocals : (rest.map fun v => v.category).sum + (13 * (names.length + 1) + 42) ≤ R.locals) (hRcells : cells + 1 ≤ R.cells) (hRslots : slots + 6 ≤ R.slots) (hlocks : meth.locks = false)
    (hx : ∀ t : State, s.vm.Alike t.vm → H.size ≤ t.heap.size → (∀ q : Nat, q < H.size → t.heap[q]? = H[q]?) → XC cls s t)
    (hf : ∀ z ∈ locs, free z.base) (hc : cells + 1 ≤ mc) (hs : slots + 6 ≤ ms) :
    W p l e R s m args below meth c H locs cells slots (vx_MQ below Qc XC args s mc ms free) (F0 m pc ls rest) := by
  intro T hT X
  have htr : e.platform.stackTraces = false := (show e.platform.stackTraces = l.stackTraces by rw [X.admits.platform]).trans hl
  have Y := vx_rebase X (R' := { frames := R.frames, locals := R.locals, cells := 1, slots := 6 }) (Nat.le_refl _) (Nat.le_refl _) hRcells hRslots
  obtain ⟨s', hA⟩ : ∃ z, z = (T.setVm s.vm).setFrames (.invoking m args :: below) := ⟨_, rfl⟩
  rw [← hA] at Y
  have hvm : s'.vm = s.vm := by rw [hA]; rfl
  have hhp : s'.heap = H := by rw [hA]; exact hT
  have hW0 : s.WarmedH s'.vm := by rw [hvm]; exact State.WarmedH.refl s
  have hat' : ∀ w ∈ vx_at0 own ic cls names, w.before args s' = true := fun w hw => vx_ot_at hW0 hvm.symm (hgood w (List.mem_cons_of_mem _ (List.mem_cons_of_mem _ hw))) (hat w hw)
  have hk' : (Cond.classLink own ik cls).before args s' = true := vx_ot_at hW0 hvm.symm (hgood _ List.mem_cons_self) hk
  have hini' : (Cond.initialized cls).before args s' = true := vx_ot_at hW0 hvm.symm (hgood _ (List.mem_cons_of_mem _ List.mem_cons_self)) hini
  have hU' : vx_Zq Bundle.tN "UNASSIGNED_STACK" Bundle.steD A s' s'.heap := by rw [hhp]; exact vx_Zq.moved hW0.alike (hU.kept hS.2.1)
  have hN' : vx_Zq Bundle.tN "SUPPRESSED_SENTINEL" Bundle.listD A s' s'.heap := by rw [hhp]; exact vx_Zq.moved hW0.alike (hN.kept hS.2.1)
  have h : ∀ w ∈ Bundle.ownAtoms0 own ic cls names, w.before args s' = true := vx_own hat' (vx_isRefq hU'.1) (vx_isRefq hN'.1) hU'.2.word hN'.2.word
  have hown' : s'.vm.findClass own = some m.cls := by rw [hvm]; exact hown
  have hins : (Cond.instantiable cls 6).before args s' = true := h _ (by simp [Bundle.ownAtoms0])
  obtain ⟨vm₁, cX, kX, hfX, hkX, -, -, X₁, st1⟩ := Y.newCold hexec (own := own) (C := cls) (index := ik) (n := 6) hown' hk' hins hini'
    (g := F0 m pc ls rest) rfl (by rw [hb]; exact d0) (Nat.le_refl _) (Nat.le_refl _)
  generalize hT1 : (T.setVm vm₁).pushCell { cls := cX, slots := kX.instanceTypes.map defaultValue, vm := .none } = T1 at X₁ st1
  have hcat : (Value.ref T.heap.size).category = 1 := rfl
  have hcellA : T1.heap[T.heap.size]? = some (freshCell cX kX) := by rw [← hT1]; exact State.heap_pushCell_size _ _
  have d3' : decode c.code (pc + 3) = .ok (.dup, 1) := by rw [hb]; exact d3
  obtain ⟨U, hsteps, hrun, hend, hW, hsame, ce, hce, hO⟩ := X₁.ctorThrow0 hexec htr (own := own) (cls := cls) (names := names) (ic := ic) hown' hcls hnames h (fun x hx => nomatch hx) hfX hkX hcellA (by rw [hhp, hT]; exact Nat.le_refl _)
    (g := { method := m, pc := pc + 4, locals := ls, stack := .ref T.heap.size :: .ref T.heap.size :: rest, locked := none }) rfl hsize rfl rfl (rest := rest) rfl
    (by rw [hb]; exact d4) (by rw [hb]; exact d7) hout hRframes (by simp only [List.map_cons, List.sum_cons, hcat]; omega) hlocks
  obtain ⟨f1, f2⟩ := vx_frame hsame
  rw [hhp] at f1 f2
  have hWs : s.WarmedH U.vm := State.WarmedH.trans hW0 hW
  have hcl : s.vm.findClass cls = some ce.cls := by
    have h9 := hO.cls
    rw [hvm] at h9
    exact h9
  have hall : s.sameButNew ({ U with vm := s.vm } : State) locs mc ms := by
    subst hA
    obtain ⟨e1, e2⟩ := hsame
    rw [State.setFrames_setFrames] at e1
    have h2 : (T.setVm s.vm).sameButNew ({ U with vm := s.vm } : State) [] (0 + 1) (0 + 6) := ⟨e1, e2⟩
    have h3 := X.same.trans h2
    rw [List.append_nil] at h3
    exact h3.mono hc hs
  refine ⟨U, ?_, .threw T.heap.size, hrun, hend, Or.inr ⟨T.heap.size, rfl, cls, ce, locs, hx U hWs.alike f1 (fun q hq => f2 q hq (fun z hz => nomatch hz)), hce, hO.vm, hcl, hWs, hall, hf⟩⟩
  refine st1 _ ?_
  show Steps p.tables e below (T1.setTop { method := m, pc := pc + 3, locals := ls, stack := .ref T.heap.size :: rest, locked := none }) _
  jvm_step X₁.here [X₁.here.top, hexec, d3', Value.category]
  exact hsteps
/-- 'throw new E("text")': new; dup; ldc; invokespecial; athrow -/
theorem vx_throwS {cc : ByteArray} {pc : Nat} (hexec : p.tables.exec = Jvm.exec) (hb : c.code = cc) (hl : l.stackTraces = false) {own cls text : String} {names : List String} {ik is ic mc ms sa : Nat} {A : Nat → Prop}
    (hown : s.vm.findClass own = some m.cls) (hcls : Bundle.fit cls = true) (hnames : ∀ n ∈ names, Bundle.fit n = true)
    (hk : (Cond.classLink own ik cls).before args s = true) (hini : (Cond.initialized cls).before args s = true) (hstr : vk_R own is text sa s) (hat : ∀ w ∈ vx_atS own ic cls names, w.before args s = true)
    (hgood : ∀ w ∈ Cond.classLink own ik cls :: Cond.initialized cls :: vx_atS own ic cls names, vx_ot w = true)
    (hU : vx_Zq Bundle.tN "UNASSIGNED_STACK" Bundle.steD A s s.heap) (hN : vx_Zq Bundle.tN "SUPPRESSED_SENTINEL" Bundle.listD A s s.heap) (hS : va_S A s.heap H locs) (hsize : ls.size = c.maxLocals)
    (d0 : decode cc pc = .ok (.new ik, 3)) (d3 : decode cc (pc + 3) = .ok (.dup, 1)) (d4 : decode cc (pc + 4) = .ok (.ldc is, 2)) (d6 : decode cc (pc + 6) = .ok (.invokespecial ic, 3)) (d9 : decode cc (pc + 9) = .ok (.athrow, 1))
    (hout : ∀ x ∈ c.exceptionTable.toList, covers x (pc + 9) = false)
    (hRframes : names.length + 3 < R.frames) (hRlocals : (rest.map fun v => v.category).sum + (13 * (names.length + 1) + 43) ≤ R.locals) (hRcells : cells + 1 ≤ R.cells) (hRslots : slots + 6 ≤ R.slots) (hlocks : meth.locks = false)
    (hx : ∀ t : State, s.vm.Alike t.vm → H.size ≤ t.heap.size → (∀ q : Nat, q < H.size → t.heap[q]? = H[q]?) → XC cls s t)
    (hf : ∀ z ∈ locs, free z.base) (hc : cells + 1 ≤ mc) (hs : slots + 6 ≤ ms) :
    W p l e R s m args below meth c H locs cells slots (vx_MQ below Qc XC args s mc ms free) (F0 m pc ls rest) := by
  intro T hT X
  have htr : e.platform.stackTraces = false := (show e.platform.stackTraces = l.stackTraces by rw [X.admits.platform]).trans hl
  have Y := vx_rebase X (R' := { frames := R.frames, locals := R.locals, cells := 1, slots := 6 }) (Nat.le_refl _) (Nat.le_refl _) hRcells hRslots
  obtain ⟨s', hA⟩ : ∃ z, z = (T.setVm s.vm).setFrames (.invoking m args :: below) := ⟨_, rfl⟩
  rw [← hA] at Y
  have hvm : s'.vm = s.vm := by rw [hA]; rfl
  have hhp : s'.heap = H := by rw [hA]; exact hT
  have hW0 : s.WarmedH s'.vm := by rw [hvm]; exact State.WarmedH.refl s
  have hat' : ∀ w ∈ vx_atS own ic cls names, w.before args s' = true := fun w hw => vx_ot_at hW0 hvm.symm (hgood w (List.mem_cons_of_mem _ (List.mem_cons_of_mem _ hw))) (hat w hw)
  have hk' : (Cond.classLink own ik cls).before args s' = true := vx_ot_at hW0 hvm.symm (hgood _ List.mem_cons_self) hk
  have hini' : (Cond.initialized cls).before args s' = true := vx_ot_at hW0 hvm.symm (hgood _ (List.mem_cons_of_mem _ List.mem_cons_self)) hini
  have hU' : vx_Zq Bundle.tN "UNASSIGNED_STACK" Bundle.steD A s' s'.heap := by rw [hhp]; exact vx_Zq.moved hW0.alike (hU.kept hS.2.1)
  have hN' : vx_Zq Bundle.tN "SUPPRESSED_SENTINEL" Bundle.listD A s' s'.heap := by rw [hhp]; exact vx_Zq.moved hW0.alike (hN.kept hS.2.1)
  have h : ∀ w ∈ Bundle.ownAtoms own ic cls names, w.before args s' = true := vx_own hat' (vx_isRefq hU'.1) (vx_isRefq hN'.1) hU'.2.word hN'.2.word
  have hown' : s'.vm.findClass own = some m.cls := by rw [hvm]; exact hown
  have hins : (Cond.instantiable cls 6).before args s' = true := h _ (by simp [Bundle.ownAtoms])
  obtain ⟨vm₁, cX, kX, hfX, hkX, -, -, X₁, st1⟩ := Y.newCold hexec (own := own) (C := cls) (index := ik) (n := 6) hown' hk' hins hini'
    (g := F0 m pc ls rest) rfl (by rw [hb]; exact d0) (Nat.le_refl _) (Nat.le_refl _)
  generalize hT1 : (T.setVm vm₁).pushCell { cls := cX, slots := kX.instanceTypes.map defaultValue, vm := .none } = T1 at X₁ st1
  have hcat : (Value.ref T.heap.size).category = 1 := rfl
  have hcellA : T1.heap[T.heap.size]? = some (freshCell cX kX) := by rw [← hT1]; exact State.heap_pushCell_size _ _
  have d3' : decode c.code (pc + 3) = .ok (.dup, 1) := by rw [hb]; exact d3
  have d4' : decode c.code (pc + 4) = .ok (.ldc is, 2) := by rw [hb]; exact d4
  have hstr' : vk_R own is text sa s' := vk_R.warm hW0 hstr
  obtain ⟨U, hsteps, hrun, hend, hW, hsame, ce, hce, hO⟩ := X₁.ctorThrowS hexec htr (own := own) (cls := cls) (names := names) (ic := ic) hown' hcls hnames h (fun x hx => nomatch hx) hfX hkX hcellA (by rw [hhp, hT]; exact Nat.le_refl _) (msg := .ref sa) rfl
    (g := { method := m, pc := pc + 6, locals := ls, stack := .ref sa :: .ref T.heap.size :: .ref T.heap.size :: rest, locked := none }) rfl hsize rfl rfl (rest := rest) rfl
    (by rw [hb]; exact d6) (by rw [hb]; exact d9) hout hRframes (by simp only [List.map_cons, List.sum_cons, hcat]; omega) hlocks
  obtain ⟨f1, f2⟩ := vx_frame hsame
  rw [hhp] at f1 f2
  have hWs : s.WarmedH U.vm := State.WarmedH.trans hW0 hW
  have hcl : s.vm.findClass cls = some ce.cls := by
    have h9 := hO.cls
    rw [hvm] at h9
    exact h9
  have hall : s.sameButNew ({ U with vm := s.vm } : State) locs mc ms := by
    subst hA
    obtain ⟨e1, e2⟩ := hsame
    rw [State.setFrames_setFrames] at e1
    have h2 : (T.setVm s.vm).sameButNew ({ U with vm := s.vm } : State) [] (0 + 1) (0 + 6) := ⟨e1, e2⟩
    have h3 := X.same.trans h2
    rw [List.append_nil] at h3
    exact h3.mono hc hs
  refine ⟨U, ?_, .threw T.heap.size, hrun, hend, Or.inr ⟨T.heap.size, rfl, cls, ce, locs, hx U hWs.alike f1 (fun q hq => f2 q hq (fun z hz => nomatch hz)), hce, hO.vm, hcl, hWs, hall, hf⟩⟩
  refine st1 _ ?_
  show Steps p.tables e below (T1.setTop { method := m, pc := pc + 3, locals := ls, stack := .ref T.heap.size :: rest, locked := none }) _
  jvm_step X₁.here [X₁.here.top, hexec, d3', Value.category]
  exact X₁.ldcString hexec (own := own) (text := text) (index := is) (a := sa) hown' hstr'.1 hstr'.2
    (g := { method := m, pc := pc + 4, locals := ls, stack := .ref T.heap.size :: .ref T.heap.size :: rest, locked := none }) rfl d4' _ hsteps
/-- 'throw new E("text")', the text by a wide index -/
theorem vx_throwSW {cc : ByteArray} {pc : Nat} (hexec : p.tables.exec = Jvm.exec) (hb : c.code = cc) (hl : l.stackTraces = false) {own cls text : String} {names : List String} {ik is ic mc ms sa : Nat} {A : Nat → Prop}
    (hown : s.vm.findClass own = some m.cls) (hcls : Bundle.fit cls = true) (hnames : ∀ n ∈ names, Bundle.fit n = true)
    (hk : (Cond.classLink own ik cls).before args s = true) (hini : (Cond.initialized cls).before args s = true) (hstr : vk_R own is text sa s) (hat : ∀ w ∈ vx_atS own ic cls names, w.before args s = true)
    (hgood : ∀ w ∈ Cond.classLink own ik cls :: Cond.initialized cls :: vx_atS own ic cls names, vx_ot w = true)
    (hU : vx_Zq Bundle.tN "UNASSIGNED_STACK" Bundle.steD A s s.heap) (hN : vx_Zq Bundle.tN "SUPPRESSED_SENTINEL" Bundle.listD A s s.heap) (hS : va_S A s.heap H locs) (hsize : ls.size = c.maxLocals)
    (d0 : decode cc pc = .ok (.new ik, 3)) (d3 : decode cc (pc + 3) = .ok (.dup, 1)) (d4 : decode cc (pc + 4) = .ok (.ldc_w is, 3)) (d7 : decode cc (pc + 7) = .ok (.invokespecial ic, 3)) (d10 : decode cc (pc + 10) = .ok (.athrow, 1))
    (hout : ∀ x ∈ c.exceptionTable.toList, covers x (pc + 10) = false)
    (hRframes : names.length + 3 < R.frames) (hRlocals : (rest.map fun v => v.category).sum + (13 * (names.length + 1) + 43) ≤ R.locals) (hRcells : cells + 1 ≤ R.cells) (hRslots : slots + 6 ≤ R.slots) (hlocks : meth.locks = false)
    (hx : ∀ t : State, s.vm.Alike t.vm → H.size ≤ t.heap.size → (∀ q : Nat, q < H.size → t.heap[q]? = H[q]?) → XC cls s t)
    (hf : ∀ z ∈ locs, free z.base) (hc : cells + 1 ≤ mc) (hs : slots + 6 ≤ ms) :
    W p l e R s m args below meth c H locs cells slots (vx_MQ below Qc XC args s mc ms free) (F0 m pc ls rest) := by
  intro T hT X
  have htr : e.platform.stackTraces = false := (show e.platform.stackTraces = l.stackTraces by rw [X.admits.platform]).trans hl
  have Y := vx_rebase X (R' := { frames := R.frames, locals := R.locals, cells := 1, slots := 6 }) (Nat.le_refl _) (Nat.le_refl _) hRcells hRslots
  obtain ⟨s', hA⟩ : ∃ z, z = (T.setVm s.vm).setFrames (.invoking m args :: below) := ⟨_, rfl⟩
  rw [← hA] at Y
  have hvm : s'.vm = s.vm := by rw [hA]; rfl
  have hhp : s'.heap = H := by rw [hA]; exact hT
  have hW0 : s.WarmedH s'.vm := by rw [hvm]; exact State.WarmedH.refl s
  have hat' : ∀ w ∈ vx_atS own ic cls names, w.before args s' = true := fun w hw => vx_ot_at hW0 hvm.symm (hgood w (List.mem_cons_of_mem _ (List.mem_cons_of_mem _ hw))) (hat w hw)
  have hk' : (Cond.classLink own ik cls).before args s' = true := vx_ot_at hW0 hvm.symm (hgood _ List.mem_cons_self) hk
  have hini' : (Cond.initialized cls).before args s' = true := vx_ot_at hW0 hvm.symm (hgood _ (List.mem_cons_of_mem _ List.mem_cons_self)) hini
  have hU' : vx_Zq Bundle.tN "UNASSIGNED_STACK" Bundle.steD A s' s'.heap := by rw [hhp]; exact vx_Zq.moved hW0.alike (hU.kept hS.2.1)
  have hN' : vx_Zq Bundle.tN "SUPPRESSED_SENTINEL" Bundle.listD A s' s'.heap := by rw [hhp]; exact vx_Zq.moved hW0.alike (hN.kept hS.2.1)
  have h : ∀ w ∈ Bundle.ownAtoms own ic cls names, w.before args s' = true := vx_own hat' (vx_isRefq hU'.1) (vx_isRefq hN'.1) hU'.2.word hN'.2.word
  have hown' : s'.vm.findClass own = some m.cls := by rw [hvm]; exact hown
  have hins : (Cond.instantiable cls 6).before args s' = true := h _ (by simp [Bundle.ownAtoms])
  obtain ⟨vm₁, cX, kX, hfX, hkX, -, -, X₁, st1⟩ := Y.newCold hexec (own := own) (C := cls) (index := ik) (n := 6) hown' hk' hins hini'
    (g := F0 m pc ls rest) rfl (by rw [hb]; exact d0) (Nat.le_refl _) (Nat.le_refl _)
  generalize hT1 : (T.setVm vm₁).pushCell { cls := cX, slots := kX.instanceTypes.map defaultValue, vm := .none } = T1 at X₁ st1
  have hcat : (Value.ref T.heap.size).category = 1 := rfl
  have hcellA : T1.heap[T.heap.size]? = some (freshCell cX kX) := by rw [← hT1]; exact State.heap_pushCell_size _ _
  have d3' : decode c.code (pc + 3) = .ok (.dup, 1) := by rw [hb]; exact d3
  have d4' : decode c.code (pc + 4) = .ok (.ldc_w is, 3) := by rw [hb]; exact d4
  have hstr' : vk_R own is text sa s' := vk_R.warm hW0 hstr
  obtain ⟨U, hsteps, hrun, hend, hW, hsame, ce, hce, hO⟩ := X₁.ctorThrowS hexec htr (own := own) (cls := cls) (names := names) (ic := ic) hown' hcls hnames h (fun x hx => nomatch hx) hfX hkX hcellA (by rw [hhp, hT]; exact Nat.le_refl _) (msg := .ref sa) rfl
    (g := { method := m, pc := pc + 7, locals := ls, stack := .ref sa :: .ref T.heap.size :: .ref T.heap.size :: rest, locked := none }) rfl hsize rfl rfl (rest := rest) rfl
    (by rw [hb]; exact d7) (by rw [hb]; exact d10) hout hRframes (by simp only [List.map_cons, List.sum_cons, hcat]; omega) hlocks
  obtain ⟨f1, f2⟩ := vx_frame hsame
  rw [hhp] at f1 f2
  have hWs : s.WarmedH U.vm := State.WarmedH.trans hW0 hW
  have hcl : s.vm.findClass cls = some ce.cls := by
    have h9 := hO.cls
    rw [hvm] at h9
    exact h9
  have hall : s.sameButNew ({ U with vm := s.vm } : State) locs mc ms := by
    subst hA
    obtain ⟨e1, e2⟩ := hsame
    rw [State.setFrames_setFrames] at e1
    have h2 : (T.setVm s.vm).sameButNew ({ U with vm := s.vm } : State) [] (0 + 1) (0 + 6) := ⟨e1, e2⟩
    have h3 := X.same.trans h2
    rw [List.append_nil] at h3
    exact h3.mono hc hs
  refine ⟨U, ?_, .threw T.heap.size, hrun, hend, Or.inr ⟨T.heap.size, rfl, cls, ce, locs, hx U hWs.alike f1 (fun q hq => f2 q hq (fun z hz => nomatch hz)), hce, hO.vm, hcl, hWs, hall, hf⟩⟩
  refine st1 _ ?_
  show Steps p.tables e below (T1.setTop { method := m, pc := pc + 3, locals := ls, stack := .ref T.heap.size :: rest, locked := none }) _
  jvm_step X₁.here [X₁.here.top, hexec, d3', Value.category]
  exact X₁.ldcStringW hexec (own := own) (text := text) (index := is) (a := sa) hown' hstr'.1 hstr'.2
    (g := { method := m, pc := pc + 4, locals := ls, stack := .ref T.heap.size :: .ref T.heap.size :: rest, locked := none }) rfl d4' _ hsteps
end Ends
section Bodies
variable {l : Launch}
theorem vx_ofW {y : MethodName} {ws ws' : List Cond} {rm : Room} {Pc : Array Value → State → Prop} {Qc : Array Value → State → Outcome → State → Prop} {XC : String → State → State → Prop} {mc ms : Nat} {free : Addr → Prop} {cc : ByteArray} {maxL : Nat} {ret : Option FieldType}
    (hy : plainName y.cls = true) (hw : ws = Cond.code y cc maxL ret :: ws')
    (body : ∀ p e s m args below meth c s₁, BodyLoose p l y (headSpec ws rm) cc maxL ret e s m args below meth c s₁ → c.maxLocals = maxL → (∀ x ∈ c.exceptionTable.toList, False) → Pc args s →
      W p l e (headSpec ws rm).room s m args below meth c s.heap [] 0 0 (vx_MQ below Qc XC args s mc ms free) (entryFrame m args maxL)) : vx_Met l y ws rm Pc Qc XC mc ms free := by
  refine MetFree.of_bodyS (code := cc) (maxLocals := maxL) (ret := ret) hy ?_ ?_
  · intro args s m h hn
    obtain ⟨meth, c, h1, h2, h3, h4, h5, h6, -, -⟩ := Cond.code_spec hn (atoms_spec (ws := ws) h _ (by rw [hw]; exact List.mem_cons_self))
    exact ⟨meth, c, h1, h2, h3, h4, h5, h6⟩
  · intro p e s m args below meth c s₁ B hml hP _
    have hh0 : s₁.heap = s.heap := by rw [B.state]; rfl
    have ht : ∀ x ∈ c.exceptionTable.toList, False := by
      obtain ⟨meth9, c9, h1, h2, -, -, -, -, h7, -⟩ := Cond.code_spec B.named (atoms_spec (ws := ws) B.pre _ (by rw [hw]; exact List.mem_cons_self))
      cases Option.some.inj (h1.symm.trans B.method)
      cases Option.some.inj (h2.symm.trans (Stand.of_body B).code)
      intro x hx
      rw [Array.isEmpty_iff.mp h7] at hx
      cases hx
    obtain ⟨t, a1, o, b1, b2, b3⟩ := body p e s m args below meth c s₁ B hml ht hP s₁ hh0 (Stand.of_body B)
    exact ⟨t, o, a1, b1, b2, b3⟩
/-- the table of a body with handlers -/
theorem vx_table {p : Program} {x y : MethodName} {S : Spec} {cc bytes : ByteArray} {maxL maxL' : Nat} {ret ret' : Option FieldType} {e : Env} {s s₁ : State} {m : MethodId} {args : Array Value} {below : List Frame} {meth : Method} {c : Code} {hh : List (Nat × Nat × Nat × Nat)}
    (B : BodyLoose p l y S cc maxL ret e s m args below meth c s₁) (h : (Cond.codeWith y bytes maxL' ret' hh).before args s = true) : c.exceptionTable.toList = tableOf hh := by
  obtain ⟨m9, meth9, c9, hn9, h1, h2, -, -, h6, -⟩ := Cond.codeWith_spec h
  cases Option.some.inj (hn9.symm.trans B.named)
  cases Option.some.inj (h1.symm.trans B.method)
  cases Option.some.inj (h2.symm.trans (Stand.of_body B).code)
  rw [← h6, table_eq]
end Bodies
end VXA
/-! ===== END ===== -/
/-! ===== BEGIN a static call of a method with an exception table ===== -/
section VXS
variable {p : Program} {l : Launch} {e : Env} {R : Room} {s : State} {m : MethodId} {args : Array Value} {below : List Frame} {meth : Method} {c : Code} {T : State} {H : Heap} {locs : List Loc} {cells slots : Nat}
abbrev vx_CSW (R : Room) (s : State) (args : Array Value) (own : String) (index : Nat) (y : MethodName) (bytes : ByteArray) (maxL : Nat) (ret : Option FieldType) (hh : List (Nat × Nat × Nat × Nat)) (ws : List Cond) (rm : Room) (mc ms n : Nat) : Prop :=
  (rm.cells = mc ∧ rm.slots = ms ∧ rm.frames + 1 ≤ R.frames ∧ 8 + (maxL + 11) + rm.locals ≤ R.locals ∧ (∀ w ∈ ws, ∀ (a' : Array Value) (U : State), s.WarmedH U.vm → w.before a' U = true) ∧ Cond.codeWith y bytes maxL ret hh ∈ ws) ∧
  (Cond.codeWith y bytes maxL ret hh).before args s = true ∧ (Cond.initialized y.cls).before args s = true ∧ (y.cls ≠ "java/lang/invoke/MethodHandle" ∧ y.cls ≠ "java/lang/invoke/VarHandle") ∧
  (∀ sig, parseMethodDescriptor y.desc = some sig → n = sig.parameters.length) ∧ (Cond.methodLink own index y).before args s = true ∧ (Cond.static y).before args s = true
theorem vx_cwSW {own : String} {index maxL mc ms : Nat} {y : MethodName} {bytes : ByteArray} {ret : Option FieldType} {hh : List (Nat × Nat × Nat × Nat)} {Ts ws ws' : List Cond} {rm : Room} (n : Nat) (ht : ∀ w ∈ Ts, w.before args s = true) (hT : GoodIn Ts (va_wsS own index y ws)) (hw : ws = Cond.codeWith y bytes maxL ret hh :: ws') (hrc : rm.cells = mc) (hrs : rm.slots = ms)
    (hd : y.cls ≠ "java/lang/invoke/MethodHandle" ∧ y.cls ≠ "java/lang/invoke/VarHandle" ∧ (parseMethodDescriptor y.desc).map (fun d => d.parameters.length) = some n) (hR : rm.frames + 1 ≤ R.frames ∧ 8 + (maxL + 11) + rm.locals ≤ R.locals) :
    vx_CSW R s args own index y bytes maxL ret hh ws rm mc ms n := by
  have ok : ∀ w ∈ va_wsS own index y ws, w.before args s = true := fun w h => ht w (hT w h).1
  have hG : GoodIn Ts ws := fun w h => hT w (by unfold va_wsS; exact List.mem_append_right _ h)
  have hc : Cond.codeWith y bytes maxL ret hh ∈ ws := by rw [hw]; exact List.mem_cons_self
  refine ⟨⟨hrc, hrs, hR.1, hR.2, pay_in ht hG, hc⟩, ht _ (hG _ hc).1, ok _ (by simp [va_wsS]), ⟨hd.1, hd.2.1⟩, fun sig h => ?_, ok _ (by simp [va_wsS]), ok _ (by simp [va_wsS])⟩
  have h2 := hd.2.2
  rw [h] at h2
  exact (Option.some.inj h2).symm
theorem vx_callSW (X : Stand p l e R s m args below meth c T locs cells slots) (hexec : p.tables.exec = Jvm.exec) {own : String} {index : Nat} {y : MethodName} {bytes : ByteArray} {maxL : Nat} {ret : Option FieldType} {hh : List (Nat × Nat × Nat × Nat)}
    (hown : s.vm.findClass own = some m.cls) (hlink : (Cond.methodLink own index y).before args s = true) (hstat : (Cond.static y).before args s = true) (hinit : (Cond.initialized y.cls).before args s = true)
    (hcode : (Cond.codeWith y bytes maxL ret hh).before args s = true) (hy : y.cls ≠ "java/lang/invoke/MethodHandle" ∧ y.cls ≠ "java/lang/invoke/VarHandle")
    {W9 : Nat} {Pre : Pt → Array Value → Prop} {Post : Pt → Array Value → Option Value → Pt → Prop} (hK : Back l R p e below s args y 3 W9 Pre Post)
    {g : JFrame} (hg : g.method = m) (hsize : g.locals.size = c.maxLocals) {argsL rest : List Value} (hlen : ∀ sig, parseMethodDescriptor y.desc = some sig → argsL.length = sig.parameters.length)
    (hstack : g.stack = argsL.reverse ++ rest) (hW : 2 * g.monitorRoom + (rest.map fun v => v.category).sum ≤ W9) (hdg : decode c.code g.pc = .ok (.invokestatic index, 3))
    (hpre : ∀ vm₁, s.WarmedH vm₁ → Pre ⟨T.setVm vm₁, locs, cells, slots⟩ argsL.toArray) :
    ∃ (v : Option Value) (vm₁ : Vm) (B : Pt), s.WarmedH vm₁ ∧ Stand p l e R s m args below meth c B.U B.locs B.cells B.slots ∧ Post ⟨T.setVm vm₁, locs, cells, slots⟩ argsL.toArray v B ∧
      ∀ target, Steps p.tables e below (B.U.setTop { g with pc := g.pc + 3, stack := v.toList ++ rest }) target → Steps p.tables e below (T.setTop g) target := by
  obtain ⟨mk, methM, cM, hnamed, hmethM, -, -, -, -, -, -, hsigM⟩ := Cond.codeWith_spec hcode
  have hstatic : methM.isStatic = true := Cond.static_spec hnamed hmethM hstat
  obtain ⟨kP, hkP, -⟩ := className_of_methodNamed hnamed
  have hinitP : kP.init = .initialized := Cond.initialized_spec (findClass_of_methodNamed hnamed) hkP hinit
  obtain ⟨vm₁, X₁, hstep₁⟩ := X.invokestatic hexec hown hlink hnamed hmethM hstatic hkP hinitP hy (g := g) hg (argsL := argsL) (rest := rest) (hlen _ hsigM) hstack hdg
  obtain ⟨v, B, X', hpost, hsteps⟩ := hK m meth c ⟨T.setVm vm₁, locs, cells, slots⟩ { g with stack := rest } (.invokestatic index) mk argsL.toArray X₁ hg hsize hdg hW (X₁.named hnamed) (hpre vm₁ X₁.warmed)
  exact ⟨v, vm₁, B, X₁.warmed, X', hpost, fun target h => hstep₁ _ fun acts => by rw [doInvoke_state]; exact hsteps.trans h⟩
theorem vx_runSW {y : MethodName} {bytes cc : ByteArray} {maxL nL mc ms n index : Nat} {ret : Option FieldType} {hh : List (Nat × Nat × Nat × Nat)} {ws : List Cond} {rm : Room} {Pc : Array Value → State → Prop} {Qc : Array Value → State → Outcome → State → Prop} {free : Addr → Prop} {Ts : List Cond} {own : String} {As rest : List Value} {g : JFrame}
    (S : CallFix p m c cc nL s args Ts own) (hM : Met l y ws rm Pc Qc mc ms free) (cw : vx_CSW R s args own index y bytes maxL ret hh ws rm mc ms n) (hp : PreS s H Pc As)
    (hg : g.method = m) (hn : As.length = n) (hsize : g.locals.size = nL) (hstack : g.stack = As.reverse ++ rest) (hW : 2 * g.monitorRoom + (rest.map fun v => v.category).sum ≤ 8) (hdg : decode cc g.pc = .ok (.invokestatic index, 3)) (hf : cells + mc ≤ R.cells ∧ slots + ms ≤ R.slots) :
    va_Run p l e R s m args below meth c H locs cells slots mc ms g rest (Qc As.toArray) (free) := by
  obtain ⟨⟨hrc, hrs, hfr, hlo, hws, hcw⟩, hcode, hini, hy, hlen, hl, hstt⟩ := cw
  have hK : Back l R p e below s args y 3 8 (PreOf R mc ms Pc) (PostOf Qc mc ms free) := va_backW (hh := hh) (bytes := bytes) (maxL := maxL) (ret := ret) hM hp.1 hrc hrs hfr hlo hws hcw (fun a' U hW => word_at hW (Or.inl (by first | rfl | simp [Cond.onTables, Cond.keeps, Cond.steady])) hini)
  obtain ⟨hx, hb, hml, ho, -⟩ := S
  intro T hT X
  obtain ⟨v, vm₁, ⟨U', l2, c2, s2⟩, hW₁, X', ⟨g', mk, t, L, e1, e2, hq, h1, hL, h2, h3⟩, st⟩ := vx_callSW X hx (hh := hh) (bytes := bytes) (maxL := maxL) (ret := ret) ho hl hstt hini hcode hy hK hg (hsize.trans hml.symm) (argsL := As) (rest := rest) (fun sig h => hn.trans (hlen sig h)) hstack hW (by rw [hb]; exact hdg)
    (fun vm₁ hW₁ => ⟨hf.1, hf.2, hp.2 (T.setVm vm₁) hT hW₁⟩)
  dsimp only [Pt.U, Pt.locs, Pt.cells, Pt.slots] at X' e1 e2 h1 h2 h3 st
  subst h1; subst h2; subst h3
  exact ⟨v, (T.setVm vm₁).calling g' mk As.toArray, t, U', L, hT, X', hL, e1, e2, hq, st⟩
/-- not caught here, past rows that name other classes: it goes on to the caller -/
theorem vx_outP {p : Program} {l : Launch} {e : Env} {R : Room} {s : State} {m : MethodId} {args : Array Value} {below : List Frame} {meth : Method} {c : Code} {H : Heap} {locs : List Loc} {cells slots : Nat} {free : Addr → Prop} {ls : Array Slot} {rest : List Value} {Qc : Array Value → State → Outcome → State → Prop} {XC : String → State → State → Prop}
    {pc : Nat} {own E : String} {ce : Cell} {q : Addr} {mc ms : Nat} (hown : s.vm.findClass own = some m.cls) (hlocks : meth.locks = false)
    (hpass : ∀ z ∈ c.exceptionTable.toList, covers z pc = false ∨ (z.catchType ≠ 0 ∧ ∃ nm : String, (Cond.classLink own z.catchType nm).before args s = true ∧ va_Nc E nm s)) (hcell : H[q]? = some ce) (hv : ce.vm = .none) (hcl : s.vm.findClass E = some ce.cls)
    (hx : ∀ t : State, t.heap = H → s.vm.Alike t.vm → XC E s t) (hf : ∀ z ∈ locs, free z.base) (hc : cells ≤ mc) (hs : slots ≤ ms) :
    vx_W p l e R s m args below meth c H locs cells slots (vx_MQ below Qc XC args s mc ms free) (F0 m pc ls rest) q := by
  intro T hT X
  have hpl : e.platform.magicAccessors = ({} : Platform).magicAccessors := by rw [X.admits.platform]
  obtain ⟨vm', hW', X', st⟩ := X.outThrough hlocks q (g := F0 m pc ls rest) rfl rfl rfl (cell := ce) (by rw [hT]; exact hcell) (by rw [hv]; rfl)
    (by obtain ⟨k9, h9, -⟩ := Vm.findClass_spec hcl; exact ⟨k9, h9⟩) (fun z hz => by
      rcases hpass z hz with h | ⟨hz0, nm, hl1, hn1⟩
      · exact Or.inl h
      · obtain ⟨c6, hc6, hcl6⟩ := Cond.classLink_spec hown hl1 e.platform hpl
        obtain ⟨a8, b8, h1, h2, h3⟩ := hn1
        cases Option.some.inj (h1.symm.trans hcl)
        cases Option.some.inj (h2.symm.trans hc6)
        exact Or.inr ⟨hz0, _, hcl6, h3⟩)
  obtain ⟨g₀, hfr⟩ := X'.frames_eq
  have hcell9 : ((T.setVm vm').setFrames (.throwing q :: below)).heap[q]? = some ce := by
    show T.heap[q]? = some ce
    rw [hT]; exact hcell
  have hend : Ended ((T.setVm vm').setFrames (.throwing q :: below)) below (.threw q) := State.frames_setFrames _ (State.cur_lt_of_frames hfr)
  refine ⟨(T.setVm vm').setFrames (.throwing q :: below), ?_, .threw q, X'.here.running, hend, Or.inr ⟨q, rfl, E, ce, locs, hx _ hT (X'.ends _).1.alike, hcell9, hv, hcl, (X'.ends _).1, (X'.ends _).2.mono hc hs, hf⟩⟩
  rw [X.pushThrowing_eq]
  exact st
/-- a thing of a world lies in the heap -/
theorem vx_lt {D : va_G} {cl : List vw_C} {ws : va_W} {H1 : Heap} (h : va_P D cl ws H1) {k : Nat} {q : Nat × va_E} (hk : ws[k]? = some q) : q.1 < H1.size := (h k q hk).lt
end VXS
/-! ===== END ===== -/
/-! ===== BEGIN methods with a table of their own: called by a name, returning or throwing ===== -/
section VXH
/-! vx_backW, vx_callVX, vx_callSX, vx_callVW, vx_runVW, vx_runVX, vx_runSX, vx_ofWH follow the same proofs as their sisters above (Free/Laws.lean, Shelf42/LK1.lean); vx_outP calls Shelf42/NT130.lean (outThrough). -/
section
variable {l : Launch} {R : Room} {p : Program} {e : Env} {below : List Frame} {s : State} {sargs : Array Value} {y : MethodName} {len W9 : Nat}
theorem vx_backW {ws : List Cond} {rm : Room} {Pc : Array Value → State → Prop} {Qc : Array Value → State → Outcome → State → Prop} {XC : String → State → State → Prop} {mc ms : Nat} {free : Addr → Prop} {bytes : ByteArray} {maxL : Nat} {ret : Option FieldType} {hh : List (Nat × Nat × Nat × Nat)}
    (hM : vx_Met l y ws rm Pc Qc XC mc ms free) (hblind : FrameBlind Pc) (hrc : rm.cells = mc) (hrs : rm.slots = ms)
    (hframes : rm.frames + 1 ≤ R.frames) (hlocals : W9 + (maxL + 11) + rm.locals ≤ R.locals)
    (hws : ∀ w ∈ ws, ∀ a' U, s.WarmedH U.vm → w.before a' U = true) (hcode : Cond.codeWith y bytes maxL ret hh ∈ ws) (hinit : ∀ a' U, s.WarmedH U.vm → (Cond.initialized y.cls).before a' U = true) :
    vx_Back l R p e below s sargs y len W9 (PreOf R mc ms Pc) (PostOf Qc mc ms free) (vx_Post XC mc ms free) := by
  intro m meth c A g ig mk a X hg hsize hdg hW hn hp
  have h1 : (headSpec ws rm).pre.before a A.U = true := atoms_intro fun w hw => hws w hw _ _ X.warmed
  have h2 : (Cond.codeWith y bytes maxL ret hh).before a A.U = true := hws _ hcode _ _ X.warmed
  have h3 : (Cond.initialized y.cls).before a A.U = true := hinit _ _ X.warmed
  have h4 : A.cells + (headSpec ws rm).room.cells ≤ R.cells := by rw [show (headSpec ws rm).room.cells = mc from hrc]; exact hp.1
  have h5 : A.slots + (headSpec ws rm).room.slots ≤ R.slots := by rw [show (headSpec ws rm).room.slots = ms from hrs]; exact hp.2.1
  have hPc : Pc a (A.U.calling g mk a) := hblind _ _ _ _ hp.2.2
  obtain ⟨U, Ls, c0, s0⟩ := A
  dsimp only [Pt.U, Pt.locs, Pt.cells, Pt.slots] at h1 h2 h3 h4 h5 X hn hPc ⊢
  obtain ⟨m9, methY, cY, hn9, hmY, hcY, -, hlY, -⟩ := Cond.codeWith_spec h2
  cases Option.some.inj (hn9.symm.trans hn)
  obtain ⟨kY, hkY, -⟩ := className_of_methodNamed hn
  have hinitY : kY.init = .initialized := Cond.initialized_spec (findClass_of_methodNamed hn) hkY h3
  have h : At U g.method c below := by rw [hg]; exact X.here
  have hlocals9 : W9 + (maxL + 11) + (headSpec ws rm).room.locals ≤ R.locals := hlocals
  have happ : (headSpec ws rm).appliesLoose y e.platform (U.calling g mk a) = true :=
    Spec.appliesLoose_calling (g := g) h hdg hn hkY hinitY
      (X.room_calling (g := g) (R' := (headSpec ws rm).room) hsize hmY hcY hframes (by rw [hlY]; omega) h4 h5) h1
  obtain ⟨mid, hmid⟩ := h.above
  have hfr : (U.setTop g).frames = (.java g :: mid) ++ below := by rw [State.frames_setTop' g h.top, hmid]; rfl
  obtain ⟨o, s₂, hsteps, -, hend, hq⟩ := Steps.callFree hM p X.admits X.cas X.clock (acts := []) hfr happ hPc trivial
  have hq' : vx_Q Qc XC mc ms free a (U.calling g mk a) o s₂ := hq
  rw [State.frames_setTop' g h.top] at hend
  obtain ⟨g₀, hg0⟩ := Option.isSome_iff_exists.mp h.top
  obtain ⟨r, hr⟩ := State.topJava?_eq_some.mp hg0
  have hr' : (({ U with heap := s₂.heap, slotsUsed := s₂.slotsUsed } : State).setVm s₂.vm).frames = .java g₀ :: r := hr
  rcases hq' with ⟨hqc, L, hfe, hL⟩ | ⟨q, rfl, E, ce, L, hx, hce, hcv, hcl, hW₂, hsm, hL⟩
  · obtain ⟨⟨v, rfl⟩, hW₂, e2, q2, q3, q4, q5, q6⟩ := id hfe
    have e3 : s₂ = ({ (U.calling g mk a).setFrames s₂.frames with heap := s₂.heap, slotsUsed := s₂.slotsUsed } : State).setVm s₂.vm := by
      have : s₂ = ({ s₂ with vm := (U.calling g mk a).vm } : State).setVm s₂.vm := rfl
      rw [e2] at this
      exact this
    obtain ⟨c₂, i₂, len₂, hc₂, hd₂, hf₂⟩ := hend
    have hW' : U.WarmedH s₂.vm := hW₂
    have hcc : c₂ = c := by
      have h1 : s₂.code? g.method = U.code? g.method := by
        rw [State.code?_eq, State.code?_eq, hW'.alike.method?]
      exact Option.some.inj (hc₂.symm.trans (h1.trans h.code))
    subst hcc
    have hlen : len₂ = len := by rw [hdg] at hd₂; cases hd₂; rfl
    subst hlen
    have hs₂ : s₂ = (({ U with heap := s₂.heap, slotsUsed := s₂.slotsUsed } : State).setVm s₂.vm).setTop { g with pc := g.pc + len₂, stack := v.toList ++ g.stack } := by
      refine e3.trans ?_
      rw [hf₂, State.calling_eq h.top, State.setFrames_setFrames, State.setTop_of_frames _ hr', hr]
      rfl
    have hsame : U.sameButNew ({ U with heap := s₂.heap, slotsUsed := s₂.slotsUsed } : State) L mc ms := by
      refine ⟨?_, q2, q3, q4, q5, q6⟩
      obtain ⟨t, ht, -⟩ := State.frames_cons hr
      show ({ U with heap := s₂.heap, slotsUsed := s₂.slotsUsed } : State) = { U.setFrames U.frames with heap := s₂.heap, slotsUsed := s₂.slotsUsed }
      rw [State.setFrames_self ht]
    subst hg
    refine Or.inl ⟨v, ⟨(({ U with heap := s₂.heap, slotsUsed := s₂.slotsUsed } : State).setVm s₂.vm), Ls ++ L, c0 + mc, s0 + ms⟩,
      ⟨X.admits, X.cas, X.clock, X.frames, X.room, X.hears, X.method, X.code, (X.here.setHeapUsed s₂.heap s₂.slotsUsed).setVm hW'.alike, X.tail, State.WarmedH.trans X.warmed hW', X.limits, X.bytes, X.same.trans (hsame.setVm s.vm)⟩,
      ⟨g, mk, s₂, L, rfl, rfl, hqc, rfl, hL, rfl, rfl⟩, ?_⟩
    show Steps p.tables e below _ ((({ U with heap := s₂.heap, slotsUsed := s₂.slotsUsed } : State).setVm s₂.vm).setTop { g with pc := g.pc + len₂, stack := v.toList ++ g.stack })
    rw [← hs₂]
    exact hsteps
  · obtain ⟨e2, q2, q3, q4, q5, q6⟩ := id hsm
    have e3 : s₂ = ({ (U.calling g mk a).setFrames s₂.frames with heap := s₂.heap, slotsUsed := s₂.slotsUsed } : State).setVm s₂.vm := by
      have : s₂ = ({ s₂ with vm := (U.calling g mk a).vm } : State).setVm s₂.vm := rfl
      rw [e2] at this
      exact this
    have hf₂ : s₂.frames = .throwing q :: .java g :: U.frames.tail := hend
    have hW' : U.WarmedH s₂.vm := hW₂
    have hs₂ : s₂ = ((({ U with heap := s₂.heap, slotsUsed := s₂.slotsUsed } : State).setVm s₂.vm).setTop g).pushFrame (.throwing q) := by
      refine e3.trans ?_
      rw [hf₂, State.calling_eq h.top, State.setFrames_setFrames, State.pushFrame, State.frames_setTop _ hr', State.setTop_of_frames _ hr', State.setFrames_setFrames, hr]
      rfl
    have hsame : U.sameButNew ({ U with heap := s₂.heap, slotsUsed := s₂.slotsUsed } : State) L mc ms := by
      refine ⟨?_, q2, q3, q4, q5, q6⟩
      obtain ⟨t, ht, -⟩ := State.frames_cons hr
      show ({ U with heap := s₂.heap, slotsUsed := s₂.slotsUsed } : State) = { U.setFrames U.frames with heap := s₂.heap, slotsUsed := s₂.slotsUsed }
      rw [State.setFrames_self ht]
    subst hg
    refine Or.inr ⟨q, ⟨(({ U with heap := s₂.heap, slotsUsed := s₂.slotsUsed } : State).setVm s₂.vm), Ls ++ L, c0 + mc, s0 + ms⟩,
      ⟨X.admits, X.cas, X.clock, X.frames, X.room, X.hears, X.method, X.code, (X.here.setHeapUsed s₂.heap s₂.slotsUsed).setVm hW'.alike, X.tail, State.WarmedH.trans X.warmed hW', X.limits, X.bytes, X.same.trans (hsame.setVm s.vm)⟩,
      ⟨g, mk, s₂, L, E, ce, rfl, rfl, hx, hce, hcv, hcl, rfl, hL, rfl, rfl⟩, ?_⟩
    show Steps p.tables e below _ (((({ U with heap := s₂.heap, slotsUsed := s₂.slotsUsed } : State).setVm s₂.vm).setTop g).pushFrame (.throwing q))
    rw [← hs₂]
    exact hsteps
end
variable {p : Program} {l : Launch} {e : Env} {R : Room} {s : State} {m : MethodId} {args : Array Value} {below : List Frame} {meth : Method} {c : Code} {T : State} {H : Heap} {locs : List Loc} {cells slots : Nat}
theorem vx_callVX (X : Stand p l e R s m args below meth c T locs cells slots) (hexec : p.tables.exec = Jvm.exec) {own C : String} {index : Nat} {y : MethodName} {bytes : ByteArray} {maxL : Nat} {ret : Option FieldType} {hh : List (Nat × Nat × Nat × Nat)}
    (hown : s.vm.findClass own = some m.cls) (hlink : (Cond.methodLink own index y).before args s = true) (hinst : (Cond.instanceMethod y).before args s = true) (hsel : (Cond.selects C y y).before args s = true)
    (hcode : (Cond.codeWith y bytes maxL ret hh).before args s = true) (hy : y.cls ≠ "java/lang/invoke/MethodHandle" ∧ y.cls ≠ "java/lang/invoke/VarHandle")
    {W9 : Nat} {Pre : Pt → Array Value → Prop} {Post : Pt → Array Value → Option Value → Pt → Prop} {PostX : Pt → Array Value → Addr → Pt → Prop} (hK : vx_Back l R p e below s args y 3 W9 Pre Post PostX)
    {b : Addr} {cellB : Cell} (hcell : T.heap[b]? = some cellB) (hobj : cellB.vm.isStatics = false) (hcls : s.vm.findClass C = some cellB.cls)
    {g : JFrame} (hg : g.method = m) (hsize : g.locals.size = c.maxLocals) {argsL rest : List Value} (hlen : ∀ sig, parseMethodDescriptor y.desc = some sig → argsL.length = sig.parameters.length)
    (hstack : g.stack = argsL.reverse ++ .ref b :: rest) (hW : 2 * g.monitorRoom + (rest.map fun v => v.category).sum ≤ W9) (hdg : decode c.code g.pc = .ok (.invokevirtual index, 3))
    (hpre : ∀ vm₁, s.WarmedH vm₁ → Pre ⟨T.setVm vm₁, locs, cells, slots⟩ (Value.ref b :: argsL).toArray) :
    (∃ (v : Option Value) (vm₁ : Vm) (B : Pt), s.WarmedH vm₁ ∧ Stand p l e R s m args below meth c B.U B.locs B.cells B.slots ∧ Post ⟨T.setVm vm₁, locs, cells, slots⟩ (Value.ref b :: argsL).toArray v B ∧
      ∀ target, Steps p.tables e below (B.U.setTop { g with pc := g.pc + 3, stack := v.toList ++ rest }) target → Steps p.tables e below (T.setTop g) target) ∨
    (∃ (q : Addr) (vm₁ : Vm) (B : Pt), s.WarmedH vm₁ ∧ Stand p l e R s m args below meth c B.U B.locs B.cells B.slots ∧ PostX ⟨T.setVm vm₁, locs, cells, slots⟩ (Value.ref b :: argsL).toArray q B ∧
      Steps p.tables e below (T.setTop g) ((B.U.setTop { g with stack := rest }).pushFrame (.throwing q))) := by
  obtain ⟨mk, methM, hnamed, hmethM, hstM, habM⟩ := Cond.instanceMethod_spec hinst
  obtain ⟨m8, methM', cM, hn8, hmethM', -, -, -, -, -, -, hsigM⟩ := Cond.codeWith_spec hcode
  cases Option.some.inj (hn8.symm.trans hnamed)
  cases hmethM.symm.trans hmethM'
  obtain ⟨c2, r2, m2, q1, q2, q3, q4, kP, hkP, hkPi⟩ := Cond.selects_spec hsel
  cases hcls.symm.trans q1
  cases (State.methodFound?_of_named hnamed hy).symm.trans q2
  cases hnamed.symm.trans q3
  have hselP : selectMethod e.platform s.vm cellB.cls mk = .method mk := by rw [Launch.admits_selectMethod X.admits]; exact q4
  obtain ⟨vm₁, X₁, hstep₁⟩ := X.invokevirtual hexec hown hlink hnamed hmethM hstM hkP hkPi hy (a := b) (cell := cellB) hcell
    (fun z h => by rw [h] at hobj; cases hobj) hselP hmethM habM hkP hkPi (g := g) hg (argsL := argsL) (rest := rest) (hlen _ hsigM) hstack hdg
  rcases hK m meth c ⟨T.setVm vm₁, locs, cells, slots⟩ { g with stack := rest } (.invokevirtual index) mk (Value.ref b :: argsL).toArray X₁ hg hsize hdg hW (X₁.named hnamed) (hpre vm₁ X₁.warmed) with ⟨v, B, X', hpost, hsteps⟩ | ⟨q, B, X', hpost, hsteps⟩
  · exact Or.inl ⟨v, vm₁, B, X₁.warmed, X', hpost, fun target h => hstep₁ _ fun acts => by rw [doInvoke_state]; exact hsteps.trans h⟩
  · exact Or.inr ⟨q, vm₁, B, X₁.warmed, X', hpost, hstep₁ _ fun acts => by rw [doInvoke_state]; exact hsteps⟩
theorem vx_callSX (X : Stand p l e R s m args below meth c T locs cells slots) (hexec : p.tables.exec = Jvm.exec) {own : String} {index : Nat} {y : MethodName} {bytes : ByteArray} {maxL : Nat} {ret : Option FieldType} {hh : List (Nat × Nat × Nat × Nat)}
    (hown : s.vm.findClass own = some m.cls) (hlink : (Cond.methodLink own index y).before args s = true) (hstat : (Cond.static y).before args s = true) (hinit : (Cond.initialized y.cls).before args s = true)
    (hcode : (Cond.codeWith y bytes maxL ret hh).before args s = true) (hy : y.cls ≠ "java/lang/invoke/MethodHandle" ∧ y.cls ≠ "java/lang/invoke/VarHandle")
    {W9 : Nat} {Pre : Pt → Array Value → Prop} {Post : Pt → Array Value → Option Value → Pt → Prop} {PostX : Pt → Array Value → Addr → Pt → Prop} (hK : vx_Back l R p e below s args y 3 W9 Pre Post PostX)
    {g : JFrame} (hg : g.method = m) (hsize : g.locals.size = c.maxLocals) {argsL rest : List Value} (hlen : ∀ sig, parseMethodDescriptor y.desc = some sig → argsL.length = sig.parameters.length)
    (hstack : g.stack = argsL.reverse ++ rest) (hW : 2 * g.monitorRoom + (rest.map fun v => v.category).sum ≤ W9) (hdg : decode c.code g.pc = .ok (.invokestatic index, 3))
    (hpre : ∀ vm₁, s.WarmedH vm₁ → Pre ⟨T.setVm vm₁, locs, cells, slots⟩ argsL.toArray) :
    (∃ (v : Option Value) (vm₁ : Vm) (B : Pt), s.WarmedH vm₁ ∧ Stand p l e R s m args below meth c B.U B.locs B.cells B.slots ∧ Post ⟨T.setVm vm₁, locs, cells, slots⟩ argsL.toArray v B ∧
      ∀ target, Steps p.tables e below (B.U.setTop { g with pc := g.pc + 3, stack := v.toList ++ rest }) target → Steps p.tables e below (T.setTop g) target) ∨
    (∃ (q : Addr) (vm₁ : Vm) (B : Pt), s.WarmedH vm₁ ∧ Stand p l e R s m args below meth c B.U B.locs B.cells B.slots ∧ PostX ⟨T.setVm vm₁, locs, cells, slots⟩ argsL.toArray q B ∧
      Steps p.tables e below (T.setTop g) ((B.U.setTop { g with stack := rest }).pushFrame (.throwing q))) := by
  obtain ⟨mk, methM, cM, hnamed, hmethM, -, -, -, -, -, -, hsigM⟩ := Cond.codeWith_spec hcode
  have hstatic : methM.isStatic = true := Cond.static_spec hnamed hmethM hstat
  obtain ⟨kP, hkP, -⟩ := className_of_methodNamed hnamed
  have hinitP : kP.init = .initialized := Cond.initialized_spec (findClass_of_methodNamed hnamed) hkP hinit
  obtain ⟨vm₁, X₁, hstep₁⟩ := X.invokestatic hexec hown hlink hnamed hmethM hstatic hkP hinitP hy (g := g) hg (argsL := argsL) (rest := rest) (hlen _ hsigM) hstack hdg
  rcases hK m meth c ⟨T.setVm vm₁, locs, cells, slots⟩ { g with stack := rest } (.invokestatic index) mk argsL.toArray X₁ hg hsize hdg hW (X₁.named hnamed) (hpre vm₁ X₁.warmed) with ⟨v, B, X', hpost, hsteps⟩ | ⟨q, B, X', hpost, hsteps⟩
  · exact Or.inl ⟨v, vm₁, B, X₁.warmed, X', hpost, fun target h => hstep₁ _ fun acts => by rw [doInvoke_state]; exact hsteps.trans h⟩
  · exact Or.inr ⟨q, vm₁, B, X₁.warmed, X', hpost, hstep₁ _ fun acts => by rw [doInvoke_state]; exact hsteps⟩
theorem vx_callVW (X : Stand p l e R s m args below meth c T locs cells slots) (hexec : p.tables.exec = Jvm.exec) {own C : String} {index : Nat} {y : MethodName} {bytes : ByteArray} {maxL : Nat} {ret : Option FieldType} {hh : List (Nat × Nat × Nat × Nat)}
    (hown : s.vm.findClass own = some m.cls) (hlink : (Cond.methodLink own index y).before args s = true) (hinst : (Cond.instanceMethod y).before args s = true) (hsel : (Cond.selects C y y).before args s = true)
    (hcode : (Cond.codeWith y bytes maxL ret hh).before args s = true) (hy : y.cls ≠ "java/lang/invoke/MethodHandle" ∧ y.cls ≠ "java/lang/invoke/VarHandle")
    {W9 : Nat} {Pre : Pt → Array Value → Prop} {Post : Pt → Array Value → Option Value → Pt → Prop} (hK : Back l R p e below s args y 3 W9 Pre Post)
    {b : Addr} {cellB : Cell} (hcell : T.heap[b]? = some cellB) (hobj : cellB.vm.isStatics = false) (hcls : s.vm.findClass C = some cellB.cls)
    {g : JFrame} (hg : g.method = m) (hsize : g.locals.size = c.maxLocals) {argsL rest : List Value} (hlen : ∀ sig, parseMethodDescriptor y.desc = some sig → argsL.length = sig.parameters.length)
    (hstack : g.stack = argsL.reverse ++ .ref b :: rest) (hW : 2 * g.monitorRoom + (rest.map fun v => v.category).sum ≤ W9) (hdg : decode c.code g.pc = .ok (.invokevirtual index, 3))
    (hpre : ∀ vm₁, s.WarmedH vm₁ → Pre ⟨T.setVm vm₁, locs, cells, slots⟩ (Value.ref b :: argsL).toArray) :
    ∃ (v : Option Value) (vm₁ : Vm) (B : Pt), s.WarmedH vm₁ ∧ Stand p l e R s m args below meth c B.U B.locs B.cells B.slots ∧ Post ⟨T.setVm vm₁, locs, cells, slots⟩ (Value.ref b :: argsL).toArray v B ∧
      ∀ target, Steps p.tables e below (B.U.setTop { g with pc := g.pc + 3, stack := v.toList ++ rest }) target → Steps p.tables e below (T.setTop g) target := by
  obtain ⟨mk, methM, hnamed, hmethM, hstM, habM⟩ := Cond.instanceMethod_spec hinst
  obtain ⟨m8, methM', cM, hn8, hmethM', -, -, -, -, -, -, hsigM⟩ := Cond.codeWith_spec hcode
  cases Option.some.inj (hn8.symm.trans hnamed)
  cases hmethM.symm.trans hmethM'
  obtain ⟨c2, r2, m2, q1, q2, q3, q4, kP, hkP, hkPi⟩ := Cond.selects_spec hsel
  cases hcls.symm.trans q1
  cases (State.methodFound?_of_named hnamed hy).symm.trans q2
  cases hnamed.symm.trans q3
  have hselP : selectMethod e.platform s.vm cellB.cls mk = .method mk := by rw [Launch.admits_selectMethod X.admits]; exact q4
  obtain ⟨vm₁, X₁, hstep₁⟩ := X.invokevirtual hexec hown hlink hnamed hmethM hstM hkP hkPi hy (a := b) (cell := cellB) hcell
    (fun z h => by rw [h] at hobj; cases hobj) hselP hmethM habM hkP hkPi (g := g) hg (argsL := argsL) (rest := rest) (hlen _ hsigM) hstack hdg
  obtain ⟨v, B, X', hpost, hsteps⟩ := hK m meth c ⟨T.setVm vm₁, locs, cells, slots⟩ { g with stack := rest } (.invokevirtual index) mk (Value.ref b :: argsL).toArray X₁ hg hsize hdg hW (X₁.named hnamed) (hpre vm₁ X₁.warmed)
  exact ⟨v, vm₁, B, X₁.warmed, X', hpost, fun target h => hstep₁ _ fun acts => by rw [doInvoke_state]; exact hsteps.trans h⟩
abbrev vx_CVW (R : Room) (s : State) (args : Array Value) (own C : String) (index : Nat) (y : MethodName) (bytes : ByteArray) (maxL : Nat) (ret : Option FieldType) (hh : List (Nat × Nat × Nat × Nat)) (ws : List Cond) (rm : Room) (mc ms n : Nat) : Prop :=
  (rm.cells = mc ∧ rm.slots = ms ∧ rm.frames + 1 ≤ R.frames ∧ 8 + (maxL + 11) + rm.locals ≤ R.locals ∧ (∀ w ∈ ws, ∀ (a' : Array Value) (U : State), s.WarmedH U.vm → w.before a' U = true) ∧ Cond.codeWith y bytes maxL ret hh ∈ ws) ∧
  (Cond.codeWith y bytes maxL ret hh).before args s = true ∧ (Cond.initialized y.cls).before args s = true ∧ (y.cls ≠ "java/lang/invoke/MethodHandle" ∧ y.cls ≠ "java/lang/invoke/VarHandle") ∧
  (∀ sig, parseMethodDescriptor y.desc = some sig → n = sig.parameters.length) ∧ (Cond.methodLink own index y).before args s = true ∧ (Cond.instanceMethod y).before args s = true ∧ (Cond.selects C y y).before args s = true
theorem vx_cwVW {own C : String} {index maxL mc ms : Nat} {y : MethodName} {bytes : ByteArray} {ret : Option FieldType} {hh : List (Nat × Nat × Nat × Nat)} {Ts ws ws' : List Cond} {rm : Room} (n : Nat) (ht : ∀ w ∈ Ts, w.before args s = true) (hT : GoodIn Ts (wsV own index C y ws)) (hw : ws = Cond.codeWith y bytes maxL ret hh :: ws') (hrc : rm.cells = mc) (hrs : rm.slots = ms)
    (hd : y.cls = C ∧ y.cls ≠ "java/lang/invoke/MethodHandle" ∧ y.cls ≠ "java/lang/invoke/VarHandle" ∧ (parseMethodDescriptor y.desc).map (fun d => d.parameters.length) = some n) (hR : rm.frames + 1 ≤ R.frames ∧ 8 + (maxL + 11) + rm.locals ≤ R.locals) :
    vx_CVW R s args own C index y bytes maxL ret hh ws rm mc ms n := by
  obtain ⟨hC, hd⟩ := hd
  subst hC
  have ok : ∀ w ∈ wsV own index y.cls y ws, w.before args s = true := fun w h => ht w (hT w h).1
  have hG : GoodIn Ts ws := fun w h => hT w (by unfold wsV; exact List.mem_append_right _ h)
  have hc : Cond.codeWith y bytes maxL ret hh ∈ ws := by rw [hw]; exact List.mem_cons_self
  refine ⟨⟨hrc, hrs, hR.1, hR.2, pay_in ht hG, hc⟩, ht _ (hG _ hc).1, ok _ (by simp [wsV]), ⟨hd.1, hd.2.1⟩, fun sig h => ?_, ok _ (by simp [wsV]), ok _ (by simp [wsV]), ok _ (by simp [wsV])⟩
  have h2 := hd.2.2
  rw [h] at h2
  exact (Option.some.inj h2).symm
theorem vx_runVW {y : MethodName} {bytes cc : ByteArray} {maxL nL mc ms n index : Nat} {ret : Option FieldType} {hh : List (Nat × Nat × Nat × Nat)} {ws : List Cond} {rm : Room} {Pc : Array Value → State → Prop} {Qc : Array Value → State → Outcome → State → Prop} {free : Addr → Prop} {Ts : List Cond} {own C : String} {b : Addr} {As rest : List Value} {g : JFrame}
    (S : CallFix p m c cc nL s args Ts own) (hM : Met l y ws rm Pc Qc mc ms free) (cw : vx_CVW R s args own C index y bytes maxL ret hh ws rm mc ms n) (hp : PreV s H C b Pc As)
    (hg : g.method = m) (hn : As.length = n) (hsize : g.locals.size = nL) (hstack : g.stack = As.reverse ++ .ref b :: rest) (hW : 2 * g.monitorRoom + (rest.map fun v => v.category).sum ≤ 8) (hdg : decode cc g.pc = .ok (.invokevirtual index, 3)) (hf : cells + mc ≤ R.cells ∧ slots + ms ≤ R.slots) :
    va_Run p l e R s m args below meth c H locs cells slots mc ms g rest (Qc (Value.ref b :: As).toArray) free := by
  obtain ⟨⟨hrc, hrs, hfr, hlo, hws, hcw⟩, hcode, hini, hy, hlen, hl, hin, hse⟩ := cw
  have hK : Back l R p e below s args y 3 8 (PreOf R mc ms Pc) (PostOf Qc mc ms free) := va_backW (hh := hh) (bytes := bytes) (maxL := maxL) (ret := ret) hM hp.1 hrc hrs hfr hlo hws hcw (fun a' U hW => word_at hW (Or.inl (by first | rfl | simp [Cond.onTables, Cond.keeps, Cond.steady])) hini)
  obtain ⟨hx, hb, hml, ho, -⟩ := S
  obtain ⟨-, ⟨cellB, hcB, hoB, hclB⟩, hPc⟩ := hp
  intro T hT X
  obtain ⟨v, vm₁, ⟨U', l2, c2, s2⟩, hW₁, X', ⟨g', mk, t, L, e1, e2, hq, h1, hL, h2, h3⟩, st⟩ := vx_callVW X hx (C := C) (hh := hh) (bytes := bytes) (maxL := maxL) (ret := ret) ho hl hin hse hcode hy hK (by rw [hT]; exact hcB) hoB hclB hg (hsize.trans hml.symm) (argsL := As) (rest := rest) (fun sig h => hn.trans (hlen sig h)) hstack hW (by rw [hb]; exact hdg)
    (fun vm₁ hW₁ => ⟨hf.1, hf.2, hPc (T.setVm vm₁) hT hW₁⟩)
  dsimp only [Pt.U, Pt.locs, Pt.cells, Pt.slots] at X' e1 e2 h1 h2 h3 st
  subst h1; subst h2; subst h3
  exact ⟨v, (T.setVm vm₁).calling g' mk (Value.ref b :: As).toArray, t, U', L, hT, X', hL, e1, e2, hq, st⟩
section
variable {y : MethodName} {bytes cc : ByteArray} {maxL nL mc ms n index : Nat} {ret : Option FieldType} {ws : List Cond} {rm : Room} {Pc : Array Value → State → Prop} {Qc : Array Value → State → Outcome → State → Prop} {XC : String → State → State → Prop} {free : Addr → Prop} {Ts : List Cond} {own C : String} {b : Addr} {As rest : List Value} {g : JFrame}
theorem vx_runVX {hh : List (Nat × Nat × Nat × Nat)} (S : CallFix p m c cc nL s args Ts own) (hM : vx_Met l y ws rm Pc Qc XC mc ms free) (cw : vx_CVW R s args own C index y bytes maxL ret hh ws rm mc ms n) (hp : PreV s H C b Pc As)
    (hg : g.method = m) (hn : As.length = n) (hsize : g.locals.size = nL) (hstack : g.stack = As.reverse ++ .ref b :: rest) (hW : 2 * g.monitorRoom + (rest.map fun v => v.category).sum ≤ 8) (hdg : decode cc g.pc = .ok (.invokevirtual index, 3)) (hf : cells + mc ≤ R.cells ∧ slots + ms ≤ R.slots) :
    vx_Run p l e R s m args below meth c H locs cells slots mc ms g rest (Qc (Value.ref b :: As).toArray) XC free := by
  obtain ⟨⟨hrc, hrs, hfr, hlo, hws, hcw⟩, hcode, hini, hy, hlen, hl, hin, hse⟩ := cw
  have hK : vx_Back l R p e below s args y 3 8 (PreOf R mc ms Pc) (PostOf Qc mc ms free) (vx_Post XC mc ms free) := vx_backW (hh := hh) (bytes := bytes) (maxL := maxL) (ret := ret) hM hp.1 hrc hrs hfr hlo hws hcw (fun a' U hW => word_at hW (Or.inl (by first | rfl | simp [Cond.onTables, Cond.keeps, Cond.steady])) hini)
  obtain ⟨hx, hb, hml, ho, -⟩ := S
  obtain ⟨-, ⟨cellB, hcB, hoB, hclB⟩, hPc⟩ := hp
  intro T hT X
  rcases vx_callVX X hx (C := C) (hh := hh) (bytes := bytes) (maxL := maxL) (ret := ret) ho hl hin hse hcode hy hK (by rw [hT]; exact hcB) hoB hclB hg (hsize.trans hml.symm) (argsL := As) (rest := rest) (fun sig h => hn.trans (hlen sig h)) hstack hW (by rw [hb]; exact hdg)
    (fun vm₁ hW₁ => ⟨hf.1, hf.2, hPc (T.setVm vm₁) hT hW₁⟩) with ⟨v, vm₁, ⟨U', l2, c2, s2⟩, hW₁, X', ⟨g', mk, t, L, e1, e2, hq, h1, hL, h2, h3⟩, st⟩ | ⟨q, vm₁, ⟨U', l2, c2, s2⟩, hW₁, X', ⟨g', mk, t, L, E, ce, e1, e2, hq, hce, hcv, hcl, h1, hL, h2, h3⟩, st⟩
  · dsimp only [Pt.U, Pt.locs, Pt.cells, Pt.slots] at X' e1 e2 h1 h2 h3 st
    subst h1; subst h2; subst h3
    exact Or.inl ⟨v, (T.setVm vm₁).calling g' mk (Value.ref b :: As).toArray, t, U', L, hT, X', hL, e1, e2, hq, st⟩
  · dsimp only [Pt.U, Pt.locs, Pt.cells, Pt.slots] at X' e1 e2 h1 h2 h3 st hcl
    subst h1; subst h2; subst h3
    exact Or.inr ⟨q, (T.setVm vm₁).calling g' mk (Value.ref b :: As).toArray, t, U', L, E, ce, hT, X', hL, e1, e2, hq, hce, hcv, vx_cls hW₁ hcl, st⟩
theorem vx_runSX {hh : List (Nat × Nat × Nat × Nat)} (S : CallFix p m c cc nL s args Ts own) (hM : vx_Met l y ws rm Pc Qc XC mc ms free) (cw : vx_CSW R s args own index y bytes maxL ret hh ws rm mc ms n) (hp : PreS s H Pc As)
    (hg : g.method = m) (hn : As.length = n) (hsize : g.locals.size = nL) (hstack : g.stack = As.reverse ++ rest) (hW : 2 * g.monitorRoom + (rest.map fun v => v.category).sum ≤ 8) (hdg : decode cc g.pc = .ok (.invokestatic index, 3)) (hf : cells + mc ≤ R.cells ∧ slots + ms ≤ R.slots) :
    vx_Run p l e R s m args below meth c H locs cells slots mc ms g rest (Qc As.toArray) XC free := by
  obtain ⟨⟨hrc, hrs, hfr, hlo, hws, hcw⟩, hcode, hini, hy, hlen, hl, hstt⟩ := cw
  have hK : vx_Back l R p e below s args y 3 8 (PreOf R mc ms Pc) (PostOf Qc mc ms free) (vx_Post XC mc ms free) := vx_backW (hh := hh) (bytes := bytes) (maxL := maxL) (ret := ret) hM hp.1 hrc hrs hfr hlo hws hcw (fun a' U hW => word_at hW (Or.inl (by first | rfl | simp [Cond.onTables, Cond.keeps, Cond.steady])) hini)
  obtain ⟨hx, hb, hml, ho, -⟩ := S
  intro T hT X
  rcases vx_callSX X hx (hh := hh) (bytes := bytes) (maxL := maxL) (ret := ret) ho hl hstt hini hcode hy hK hg (hsize.trans hml.symm) (argsL := As) (rest := rest) (fun sig h => hn.trans (hlen sig h)) hstack hW (by rw [hb]; exact hdg)
    (fun vm₁ hW₁ => ⟨hf.1, hf.2, hp.2 (T.setVm vm₁) hT hW₁⟩) with ⟨v, vm₁, ⟨U', l2, c2, s2⟩, hW₁, X', ⟨g', mk, t, L, e1, e2, hq, h1, hL, h2, h3⟩, st⟩ | ⟨q, vm₁, ⟨U', l2, c2, s2⟩, hW₁, X', ⟨g', mk, t, L, E, ce, e1, e2, hq, hce, hcv, hcl, h1, hL, h2, h3⟩, st⟩
  · dsimp only [Pt.U, Pt.locs, Pt.cells, Pt.slots] at X' e1 e2 h1 h2 h3 st
    subst h1; subst h2; subst h3
    exact Or.inl ⟨v, (T.setVm vm₁).calling g' mk As.toArray, t, U', L, hT, X', hL, e1, e2, hq, st⟩
  · dsimp only [Pt.U, Pt.locs, Pt.cells, Pt.slots] at X' e1 e2 h1 h2 h3 st hcl
    subst h1; subst h2; subst h3
    exact Or.inr ⟨q, (T.setVm vm₁).calling g' mk As.toArray, t, U', L, E, ce, hT, X', hL, e1, e2, hq, hce, hcv, vx_cls hW₁ hcl, st⟩
end
end VXH
theorem vx_ofWH {l : Launch} {y : MethodName} {ws ws' : List Cond} {rm : Room} {Pc : Array Value → State → Prop} {Qc : Array Value → State → Outcome → State → Prop} {XC : String → State → State → Prop} {mc ms : Nat} {free : Addr → Prop} {cc : ByteArray} {maxL : Nat} {ret : Option FieldType} {hh : List (Nat × Nat × Nat × Nat)}
    (hy : plainName y.cls = true) (hw : ws = Cond.codeWith y cc maxL ret hh :: ws')
    (body : ∀ p e s m args below meth c s₁, BodyLoose p l y (headSpec ws rm) cc maxL ret e s m args below meth c s₁ → c.maxLocals = maxL → Pc args s →
      W p l e (headSpec ws rm).room s m args below meth c s.heap [] 0 0 (vx_MQ below Qc XC args s mc ms free) (entryFrame m args maxL)) : vx_Met l y ws rm Pc Qc XC mc ms free := by
  refine MetFree.of_bodyS (code := cc) (maxLocals := maxL) (ret := ret) hy ?_ ?_
  · intro args s m h hn
    obtain ⟨m9, meth, c, hn9, h1, h2, h3, h4, -, h5, h6, -⟩ := Cond.codeWith_spec (atoms_spec (ws := ws) h _ (by rw [hw]; exact List.mem_cons_self))
    cases hn.symm.trans hn9
    exact ⟨meth, c, h1, h2, h3, h4, h5, h6⟩
  · intro p e s m args below meth c s₁ B hml hP _
    have hh0 : s₁.heap = s.heap := by rw [B.state]; rfl
    obtain ⟨t, a1, o, b1, b2, b3⟩ := body p e s m args below meth c s₁ B hml hP s₁ hh0 (Stand.of_body B)
    exact ⟨t, o, a1, b1, b2, b3⟩
/-! ===== END ===== -/
end
section
def RX0 : String := "AlmsKernel"
def TX0 : u_T := fun k => match k with
  | 0 => ("AlmsKernel", "wages", "[I", true)
  | 1 => ("AlmsKernel", "purses", "[I", true)
  | 2 => ("AlmsKernel", "states", "[I", true)
  | 3 => ("AlmsKernel", "faultCounts", "[I", true)
  | 4 => ("AlmsKernel", "owners", "[I", true)
  | 5 => ("AlmsKernel", "holders", "[I", true)
  | 6 => ("AlmsKernel", "pages", "[I", true)
  | 7 => ("AlmsKernel", "there", "[Z", true)
  | 8 => ("AlmsKernel", "touchTicks", "[I", true)
  | 9 => ("AlmsKernel", "loanFrames", "[I", true)
  | 10 => ("AlmsKernel", "lenders", "[I", true)
  | 11 => ("AlmsKernel", "borrowers", "[I", true)
  | 12 => ("AlmsKernel", "lasting", "[Z", true)
  | 13 => ("AlmsKernel", "interests", "[I", true)
  | 14 => ("AlmsKernel", "loanCount", "I", false)
  | 15 => ("AlmsKernel", "rate", "I", false)
  | 16 => ("AlmsKernel", "now", "I", false)
  | 17 => ("AlmsKernel", "headTrack", "I", false)
  | _ => ("AlmsKernel", "chosenFrame", "I", false)
def tyX0 : Nat → FieldType := fun k => match k with
  | 0 => .array .int
  | 1 => .array .int
  | 2 => .array .int
  | 3 => .array .int
  | 4 => .array .int
  | 5 => .array .int
  | 6 => .array .int
  | 7 => .array .boolean
  | 8 => .array .int
  | 9 => .array .int
  | 10 => .array .int
  | 11 => .array .int
  | 12 => .array .boolean
  | 13 => .array .int
  | 14 => .int
  | 15 => .int
  | 16 => .int
  | 17 => .int
  | _ => .int
abbrev wsX00 : List Cond := u_ws RX0 TX0 19
theorem nmX0 : ∀ a, a < 19 → ∀ b, b < 19 → a ≠ b → (TX0 a).2.1 ≠ (TX0 b).2.1 := by decide +kernel
theorem tyX0_ok : ∀ k, k < 19 → parseFieldDescriptor (TX0 k).2.2.1 = some (tyX0 k) := by decide +kernel
abbrev cX0_init : ByteArray := prog_1_method_1_code
def yX0_init : MethodName := ⟨RX0, "<init>", "()V"⟩
abbrev cX0_setWage : ByteArray := prog_1_method_2_code
def yX0_setWage : MethodName := ⟨RX0, "setWage", "(II)I"⟩
abbrev cX0_setRate : ByteArray := prog_1_method_3_code
def yX0_setRate : MethodName := ⟨RX0, "setRate", "(I)I"⟩
abbrev cX0_buy : ByteArray := prog_1_method_4_code
def yX0_buy : MethodName := ⟨RX0, "buy", "(I)I"⟩
abbrev cX0_sell : ByteArray := prog_1_method_5_code
def yX0_sell : MethodName := ⟨RX0, "sell", "(I)I"⟩
abbrev cX0_drop : ByteArray := prog_1_method_6_code
def yX0_drop : MethodName := ⟨RX0, "drop", "(I)I"⟩
abbrev cX0_touch : ByteArray := prog_1_method_7_code
def yX0_touch : MethodName := ⟨RX0, "touch", "(II)I"⟩
abbrev cX0_payBack : ByteArray := prog_1_method_8_code
def yX0_payBack : MethodName := ⟨RX0, "payBack", "(I)I"⟩
abbrev cX0_advance : ByteArray := prog_1_method_9_code
def yX0_advance : MethodName := ⟨RX0, "advance", "(I)I"⟩
abbrev cX0_tick : ByteArray := prog_1_method_10_code
def yX0_tick : MethodName := ⟨RX0, "tick", "()I"⟩
abbrev cX0_owner : ByteArray := prog_1_method_11_code
def yX0_owner : MethodName := ⟨RX0, "owner", "(I)I"⟩
abbrev cX0_holder : ByteArray := prog_1_method_12_code
def yX0_holder : MethodName := ⟨RX0, "holder", "(I)I"⟩
abbrev cX0_holderByLog : ByteArray := prog_1_method_13_code
def yX0_holderByLog : MethodName := ⟨RX0, "holderByLog", "(I)I"⟩
abbrev cX0_pageIn : ByteArray := prog_1_method_14_code
def yX0_pageIn : MethodName := ⟨RX0, "pageIn", "(I)I"⟩
abbrev cX0_age : ByteArray := prog_1_method_15_code
def yX0_age : MethodName := ⟨RX0, "age", "(I)I"⟩
abbrev cX0_free : ByteArray := prog_1_method_16_code
def yX0_free : MethodName := ⟨RX0, "free", "()I"⟩
abbrev cX0_owns : ByteArray := prog_1_method_17_code
def yX0_owns : MethodName := ⟨RX0, "owns", "(I)I"⟩
abbrev cX0_borrowed : ByteArray := prog_1_method_18_code
def yX0_borrowed : MethodName := ⟨RX0, "borrowed", "(I)I"⟩
abbrev cX0_lent : ByteArray := prog_1_method_19_code
def yX0_lent : MethodName := ⟨RX0, "lent", "(I)I"⟩
abbrev cX0_stateOf : ByteArray := prog_1_method_20_code
def yX0_stateOf : MethodName := ⟨RX0, "stateOf", "(I)I"⟩
abbrev cX0_purse : ByteArray := prog_1_method_21_code
def yX0_purse : MethodName := ⟨RX0, "purse", "(I)I"⟩
abbrev cX0_faults : ByteArray := prog_1_method_22_code
def yX0_faults : MethodName := ⟨RX0, "faults", "(I)I"⟩
abbrev cX0_loans : ByteArray := prog_1_method_23_code
def yX0_loans : MethodName := ⟨RX0, "loans", "()I"⟩
abbrev cX0_lasts : ByteArray := prog_1_method_24_code
def yX0_lasts : MethodName := ⟨RX0, "lasts", "(I)Z"⟩
abbrev cX0_partiesOf : ByteArray := prog_1_method_25_code
def yX0_partiesOf : MethodName := ⟨RX0, "partiesOf", "(I)I"⟩
abbrev cX0_interest : ByteArray := prog_1_method_26_code
def yX0_interest : MethodName := ⟨RX0, "interest", "(I)I"⟩
abbrev cX0_head : ByteArray := prog_1_method_27_code
def yX0_head : MethodName := ⟨RX0, "head", "()I"⟩
abbrev cX0_requests : ByteArray := prog_1_method_28_code
def yX0_requests : MethodName := ⟨RX0, "requests", "()I"⟩
abbrev cX0_requestAt : ByteArray := prog_1_method_29_code
def yX0_requestAt : MethodName := ⟨RX0, "requestAt", "(I)I"⟩
abbrev cX0_isProcess : ByteArray := prog_1_method_30_code
def yX0_isProcess : MethodName := ⟨RX0, "isProcess", "(I)Z"⟩
abbrev cX0_isPage : ByteArray := prog_1_method_31_code
def yX0_isPage : MethodName := ⟨RX0, "isPage", "(I)Z"⟩
abbrev cX0_isFrame : ByteArray := prog_1_method_32_code
def yX0_isFrame : MethodName := ⟨RX0, "isFrame", "(I)Z"⟩
abbrev cX0_isLoan : ByteArray := prog_1_method_33_code
def yX0_isLoan : MethodName := ⟨RX0, "isLoan", "(I)Z"⟩
abbrev cX0_isComing : ByteArray := prog_1_method_34_code
def yX0_isComing : MethodName := ⟨RX0, "isComing", "(I)Z"⟩
abbrev cX0_ageOf : ByteArray := prog_1_method_35_code
def yX0_ageOf : MethodName := ⟨RX0, "ageOf", "(I)I"⟩
abbrev cX0_dropPage : ByteArray := prog_1_method_36_code
def yX0_dropPage : MethodName := ⟨RX0, "dropPage", "(I)V"⟩
abbrev cX0_lowestEmptyFrame : ByteArray := prog_1_method_37_code
def yX0_lowestEmptyFrame : MethodName := ⟨RX0, "lowestEmptyFrame", "(I)I"⟩
abbrev cX0_frameWithPage : ByteArray := prog_1_method_38_code
def yX0_frameWithPage : MethodName := ⟨RX0, "frameWithPage", "(II)I"⟩
abbrev cX0_oldestFrame : ByteArray := prog_1_method_39_code
def yX0_oldestFrame : MethodName := ⟨RX0, "oldestFrame", "(I)I"⟩
abbrev cX0_frameForFault : ByteArray := prog_1_method_40_code
def yX0_frameForFault : MethodName := ⟨RX0, "frameForFault", "(I)I"⟩
abbrev cX0_callIn : ByteArray := prog_1_method_41_code
def yX0_callIn : MethodName := ⟨RX0, "callIn", "(I)I"⟩
abbrev cX0_borrow : ByteArray := prog_1_method_42_code
def yX0_borrow : MethodName := ⟨RX0, "borrow", "(I)I"⟩
abbrev cX0_richestLender : ByteArray := prog_1_method_43_code
def yX0_richestLender : MethodName := ⟨RX0, "richestLender", "(I)I"⟩
abbrev cX0_frameToLend : ByteArray := prog_1_method_44_code
def yX0_frameToLend : MethodName := ⟨RX0, "frameToLend", "(I)I"⟩
abbrev cX0_countBorrowed : ByteArray := prog_1_method_45_code
def yX0_countBorrowed : MethodName := ⟨RX0, "countBorrowed", "(I)I"⟩
abbrev cX0_endLoan : ByteArray := prog_1_method_46_code
def yX0_endLoan : MethodName := ⟨RX0, "endLoan", "(I)V"⟩
abbrev cX0_passTick : ByteArray := prog_1_method_47_code
def yX0_passTick : MethodName := ⟨RX0, "passTick", "()V"⟩
abbrev cX0_payWages : ByteArray := prog_1_method_48_code
def yX0_payWages : MethodName := ⟨RX0, "payWages", "()V"⟩
abbrev cX0_chargeLoans : ByteArray := prog_1_method_49_code
def yX0_chargeLoans : MethodName := ⟨RX0, "chargeLoans", "()V"⟩
abbrev cX0_charge : ByteArray := prog_1_method_50_code
def yX0_charge : MethodName := ⟨RX0, "charge", "(I)V"⟩
abbrev cX0_putToSleep : ByteArray := prog_1_method_51_code
def yX0_putToSleep : MethodName := ⟨RX0, "putToSleep", "(I)V"⟩
abbrev cX0_giveAlms : ByteArray := prog_1_method_52_code
def yX0_giveAlms : MethodName := ⟨RX0, "giveAlms", "()V"⟩
abbrev cX0_richestGiver : ByteArray := prog_1_method_53_code
def yX0_richestGiver : MethodName := ⟨RX0, "richestGiver", "()I"⟩
abbrev cX0_trackOf : ByteArray := prog_1_method_54_code
def yX0_trackOf : MethodName := ⟨RX0, "trackOf", "(I)I"⟩
abbrev cX0_isRequested : ByteArray := prog_1_method_55_code
def yX0_isRequested : MethodName := ⟨RX0, "isRequested", "(I)Z"⟩
abbrev cX0_moveDisk : ByteArray := prog_1_method_56_code
def yX0_moveDisk : MethodName := ⟨RX0, "moveDisk", "()V"⟩
abbrev cX0_nearestRequest : ByteArray := prog_1_method_57_code
def yX0_nearestRequest : MethodName := ⟨RX0, "nearestRequest", "()I"⟩
abbrev cX0_finishRequest : ByteArray := prog_1_method_58_code
def yX0_finishRequest : MethodName := ⟨RX0, "finishRequest", "(I)V"⟩
def RX1 : String := "AlmsKernelModel"
def TX1 : u_T := fun k => match k with
  | 0 => ("AlmsKernelModel", "tick", "I", false)
  | 1 => ("AlmsKernelModel", "rate", "I", false)
  | 2 => ("AlmsKernelModel", "owners", "[I", true)
  | 3 => ("AlmsKernelModel", "pages", "[I", true)
  | 4 => ("AlmsKernelModel", "isThere", "[Z", true)
  | 5 => ("AlmsKernelModel", "touched", "[I", true)
  | 6 => ("AlmsKernelModel", "lentBy", "[I", true)
  | 7 => ("AlmsKernelModel", "wages", "[I", true)
  | 8 => ("AlmsKernelModel", "purses", "[I", true)
  | 9 => ("AlmsKernelModel", "states", "[I", true)
  | 10 => ("AlmsKernelModel", "faults", "[I", true)
  | 11 => ("AlmsKernelModel", "loans", "I", false)
  | 12 => ("AlmsKernelModel", "loanFrames", "[I", true)
  | 13 => ("AlmsKernelModel", "lenders", "[I", true)
  | 14 => ("AlmsKernelModel", "borrowers", "[I", true)
  | 15 => ("AlmsKernelModel", "interests", "[I", true)
  | 16 => ("AlmsKernelModel", "head", "I", false)
  | 17 => ("AlmsKernelModel", "chosen", "I", false)
  | _ => ("AlmsKernelModel", "thrown", "I", false)
def tyX1 : Nat → FieldType := fun k => match k with
  | 0 => .int
  | 1 => .int
  | 2 => .array .int
  | 3 => .array .int
  | 4 => .array .boolean
  | 5 => .array .int
  | 6 => .array .int
  | 7 => .array .int
  | 8 => .array .int
  | 9 => .array .int
  | 10 => .array .int
  | 11 => .int
  | 12 => .array .int
  | 13 => .array .int
  | 14 => .array .int
  | 15 => .array .int
  | 16 => .int
  | 17 => .int
  | _ => .int
abbrev wsX10 : List Cond := u_ws RX1 TX1 19
theorem nmX1 : ∀ a, a < 19 → ∀ b, b < 19 → a ≠ b → (TX1 a).2.1 ≠ (TX1 b).2.1 := by decide +kernel
theorem tyX1_ok : ∀ k, k < 19 → parseFieldDescriptor (TX1 k).2.2.1 = some (tyX1 k) := by decide +kernel
abbrev cX1_init : ByteArray := prog_3_method_1_code
def yX1_init : MethodName := ⟨RX1, "<init>", "()V"⟩
abbrev cX1_thrown : ByteArray := prog_3_method_2_code
def yX1_thrown : MethodName := ⟨RX1, "thrown", "()I"⟩
abbrev cX1_goes : ByteArray := prog_3_method_3_code
def yX1_goes : MethodName := ⟨RX1, "goes", "(I)Z"⟩
abbrev cX1_isIn : ByteArray := prog_3_method_4_code
def yX1_isIn : MethodName := ⟨RX1, "isIn", "(III)Z"⟩
abbrev cX1_isProcess : ByteArray := prog_3_method_5_code
def yX1_isProcess : MethodName := ⟨RX1, "isProcess", "(I)Z"⟩
abbrev cX1_isFrame : ByteArray := prog_3_method_6_code
def yX1_isFrame : MethodName := ⟨RX1, "isFrame", "(I)Z"⟩
abbrev cX1_isLoan : ByteArray := prog_3_method_7_code
def yX1_isLoan : MethodName := ⟨RX1, "isLoan", "(I)Z"⟩
abbrev cX1_holderOf : ByteArray := prog_3_method_8_code
def yX1_holderOf : MethodName := ⟨RX1, "holderOf", "(I)I"⟩
abbrev cX1_isEmpty : ByteArray := prog_3_method_9_code
def yX1_isEmpty : MethodName := ⟨RX1, "isEmpty", "(I)Z"⟩
abbrev cX1_isComing : ByteArray := prog_3_method_10_code
def yX1_isComing : MethodName := ⟨RX1, "isComing", "(I)Z"⟩
abbrev cX1_hasPage : ByteArray := prog_3_method_11_code
def yX1_hasPage : MethodName := ⟨RX1, "hasPage", "(I)Z"⟩
abbrev cX1_ageOf : ByteArray := prog_3_method_12_code
def yX1_ageOf : MethodName := ⟨RX1, "ageOf", "(I)I"⟩
abbrev cX1_doesLast : ByteArray := prog_3_method_13_code
def yX1_doesLast : MethodName := ⟨RX1, "doesLast", "(I)Z"⟩
abbrev cX1_setWage : ByteArray := prog_3_method_14_code
def yX1_setWage : MethodName := ⟨RX1, "setWage", "(II)I"⟩
abbrev cX1_setRate : ByteArray := prog_3_method_15_code
def yX1_setRate : MethodName := ⟨RX1, "setRate", "(I)I"⟩
abbrev cX1_lowestFree : ByteArray := prog_3_method_16_code
def yX1_lowestFree : MethodName := ⟨RX1, "lowestFree", "()I"⟩
abbrev cX1_buy : ByteArray := prog_3_method_17_code
def yX1_buy : MethodName := ⟨RX1, "buy", "(I)I"⟩
abbrev cX1_sell : ByteArray := prog_3_method_18_code
def yX1_sell : MethodName := ⟨RX1, "sell", "(I)I"⟩
abbrev cX1_drop : ByteArray := prog_3_method_19_code
def yX1_drop : MethodName := ⟨RX1, "drop", "(I)I"⟩
abbrev cX1_frameWith : ByteArray := prog_3_method_20_code
def yX1_frameWith : MethodName := ⟨RX1, "frameWith", "(II)I"⟩
abbrev cX1_emptyOf : ByteArray := prog_3_method_21_code
def yX1_emptyOf : MethodName := ⟨RX1, "emptyOf", "(I)I"⟩
abbrev cX1_calledIn : ByteArray := prog_3_method_22_code
def yX1_calledIn : MethodName := ⟨RX1, "calledIn", "(I)I"⟩
abbrev cX1_borrowedBy : ByteArray := prog_3_method_23_code
def yX1_borrowedBy : MethodName := ⟨RX1, "borrowedBy", "(I)I"⟩
abbrev cX1_canLend : ByteArray := prog_3_method_24_code
def yX1_canLend : MethodName := ⟨RX1, "canLend", "(II)Z"⟩
abbrev cX1_isLender : ByteArray := prog_3_method_25_code
def yX1_isLender : MethodName := ⟨RX1, "isLender", "(I)Z"⟩
abbrev cX1_lenderFor : ByteArray := prog_3_method_26_code
def yX1_lenderFor : MethodName := ⟨RX1, "lenderFor", "(I)I"⟩
abbrev cX1_worth : ByteArray := prog_3_method_27_code
def yX1_worth : MethodName := ⟨RX1, "worth", "(I)I"⟩
abbrev cX1_frameOf : ByteArray := prog_3_method_28_code
def yX1_frameOf : MethodName := ⟨RX1, "frameOf", "(I)I"⟩
abbrev cX1_oldestOf : ByteArray := prog_3_method_29_code
def yX1_oldestOf : MethodName := ⟨RX1, "oldestOf", "(I)I"⟩
abbrev cX1_ends : ByteArray := prog_3_method_30_code
def yX1_ends : MethodName := ⟨RX1, "ends", "(I)V"⟩
abbrev cX1_lends : ByteArray := prog_3_method_31_code
def yX1_lends : MethodName := ⟨RX1, "lends", "(II)V"⟩
abbrev cX1_frameFor : ByteArray := prog_3_method_32_code
def yX1_frameFor : MethodName := ⟨RX1, "frameFor", "(I)I"⟩
abbrev cX1_touch : ByteArray := prog_3_method_33_code
def yX1_touch : MethodName := ⟨RX1, "touch", "(II)I"⟩
abbrev cX1_payBack : ByteArray := prog_3_method_34_code
def yX1_payBack : MethodName := ⟨RX1, "payBack", "(I)I"⟩
abbrev cX1_trackOf : ByteArray := prog_3_method_35_code
def yX1_trackOf : MethodName := ⟨RX1, "trackOf", "(I)I"⟩
abbrev cX1_sleeps : ByteArray := prog_3_method_36_code
def yX1_sleeps : MethodName := ⟨RX1, "sleeps", "(I)V"⟩
abbrev cX1_pays : ByteArray := prog_3_method_37_code
def yX1_pays : MethodName := ⟨RX1, "pays", "()V"⟩
abbrev cX1_richest : ByteArray := prog_3_method_38_code
def yX1_richest : MethodName := ⟨RX1, "richest", "()I"⟩
abbrev cX1_gives : ByteArray := prog_3_method_39_code
def yX1_gives : MethodName := ⟨RX1, "gives", "()V"⟩
abbrev cX1_distance : ByteArray := prog_3_method_40_code
def yX1_distance : MethodName := ⟨RX1, "distance", "(I)I"⟩
abbrev cX1_nearest : ByteArray := prog_3_method_41_code
def yX1_nearest : MethodName := ⟨RX1, "nearest", "()I"⟩
abbrev cX1_turns : ByteArray := prog_3_method_42_code
def yX1_turns : MethodName := ⟨RX1, "turns", "()V"⟩
abbrev cX1_advance : ByteArray := prog_3_method_43_code
def yX1_advance : MethodName := ⟨RX1, "advance", "(I)I"⟩
abbrev cX1_tick : ByteArray := prog_3_method_44_code
def yX1_tick : MethodName := ⟨RX1, "tick", "()I"⟩
abbrev cX1_owner : ByteArray := prog_3_method_45_code
def yX1_owner : MethodName := ⟨RX1, "owner", "(I)I"⟩
abbrev cX1_holder : ByteArray := prog_3_method_46_code
def yX1_holder : MethodName := ⟨RX1, "holder", "(I)I"⟩
abbrev cX1_holderByLog : ByteArray := prog_3_method_47_code
def yX1_holderByLog : MethodName := ⟨RX1, "holderByLog", "(I)I"⟩
abbrev cX1_pageIn : ByteArray := prog_3_method_48_code
def yX1_pageIn : MethodName := ⟨RX1, "pageIn", "(I)I"⟩
abbrev cX1_age : ByteArray := prog_3_method_49_code
def yX1_age : MethodName := ⟨RX1, "age", "(I)I"⟩
abbrev cX1_free : ByteArray := prog_3_method_50_code
def yX1_free : MethodName := ⟨RX1, "free", "()I"⟩
abbrev cX1_owns : ByteArray := prog_3_method_51_code
def yX1_owns : MethodName := ⟨RX1, "owns", "(I)I"⟩
abbrev cX1_borrowed : ByteArray := prog_3_method_52_code
def yX1_borrowed : MethodName := ⟨RX1, "borrowed", "(I)I"⟩
abbrev cX1_lent : ByteArray := prog_3_method_53_code
def yX1_lent : MethodName := ⟨RX1, "lent", "(I)I"⟩
abbrev cX1_stateOf : ByteArray := prog_3_method_54_code
def yX1_stateOf : MethodName := ⟨RX1, "stateOf", "(I)I"⟩
abbrev cX1_purse : ByteArray := prog_3_method_55_code
def yX1_purse : MethodName := ⟨RX1, "purse", "(I)I"⟩
abbrev cX1_faults : ByteArray := prog_3_method_56_code
def yX1_faults : MethodName := ⟨RX1, "faults", "(I)I"⟩
abbrev cX1_loans : ByteArray := prog_3_method_57_code
def yX1_loans : MethodName := ⟨RX1, "loans", "()I"⟩
abbrev cX1_lasts : ByteArray := prog_3_method_58_code
def yX1_lasts : MethodName := ⟨RX1, "lasts", "(I)Z"⟩
abbrev cX1_partiesOf : ByteArray := prog_3_method_59_code
def yX1_partiesOf : MethodName := ⟨RX1, "partiesOf", "(I)I"⟩
abbrev cX1_interest : ByteArray := prog_3_method_60_code
def yX1_interest : MethodName := ⟨RX1, "interest", "(I)I"⟩
abbrev cX1_head : ByteArray := prog_3_method_61_code
def yX1_head : MethodName := ⟨RX1, "head", "()I"⟩
abbrev cX1_requests : ByteArray := prog_3_method_62_code
def yX1_requests : MethodName := ⟨RX1, "requests", "()I"⟩
abbrev cX1_requestAt : ByteArray := prog_3_method_63_code
def yX1_requestAt : MethodName := ⟨RX1, "requestAt", "(I)I"⟩
def RJx145de : String := "java/io/Serializable"
def TJx145de : u_T := fun k => match k with
  | _ => ("", "", "", false)
def tyJx145de : Nat → FieldType := fun k => match k with
  | _ => .int
abbrev wsJx145de0 : List Cond := u_ws RJx145de TJx145de 0
theorem nmJx145de : ∀ a, a < 0 → ∀ b, b < 0 → a ≠ b → (TJx145de a).2.1 ≠ (TJx145de b).2.1 := by decide +kernel
theorem tyJx145de_ok : ∀ k, k < 0 → parseFieldDescriptor (TJx145de k).2.2.1 = some (tyJx145de k) := by decide +kernel
def RJ9 : String := "java/lang/Math"
def TJ9 : u_T := fun k => match k with
  | _ => ("", "", "", false)
def tyJ9 : Nat → FieldType := fun k => match k with
  | _ => .int
abbrev wsJ90 : List Cond := u_ws RJ9 TJ9 0
theorem nmJ9 : ∀ a, a < 0 → ∀ b, b < 0 → a ≠ b → (TJ9 a).2.1 ≠ (TJ9 b).2.1 := by decide +kernel
theorem tyJ9_ok : ∀ k, k < 0 → parseFieldDescriptor (TJ9 k).2.2.1 = some (tyJ9 k) := by decide +kernel
abbrev cJ9_abs_0f7a4 : ByteArray := prog_8_method_59_code
def yJ9_abs_0f7a4 : MethodName := ⟨RJ9, "abs", "(I)I"⟩
def RJ0 : String := "java/lang/String"
def TJ0 : u_T := fun k => match k with
  | _ => ("", "", "", false)
def tyJ0 : Nat → FieldType := fun k => match k with
  | _ => .int
abbrev wsJ00 : List Cond := u_ws RJ0 TJ0 0
theorem nmJ0 : ∀ a, a < 0 → ∀ b, b < 0 → a ≠ b → (TJ0 a).2.1 ≠ (TJ0 b).2.1 := by decide +kernel
theorem tyJ0_ok : ∀ k, k < 0 → parseFieldDescriptor (TJ0 k).2.2.1 = some (tyJ0 k) := by decide +kernel
def RJ7 : String := "java/util/Arrays"
def TJ7 : u_T := fun k => match k with
  | _ => ("", "", "", false)
def tyJ7 : Nat → FieldType := fun k => match k with
  | _ => .int
abbrev wsJ70 : List Cond := u_ws RJ7 TJ7 0
theorem nmJ7 : ∀ a, a < 0 → ∀ b, b < 0 → a ≠ b → (TJ7 a).2.1 ≠ (TJ7 b).2.1 := by decide +kernel
theorem tyJ7_ok : ∀ k, k < 0 → parseFieldDescriptor (TJ7 k).2.2.1 = some (tyJ7 k) := by decide +kernel
abbrev cJ7_fill_53178 : ByteArray := prog_12_method_103_code
def yJ7_fill_53178 : MethodName := ⟨RJ7, "fill", "([II)V"⟩
def RL : String := "AlmsKernelLaw"
abbrev cL_setWage : ByteArray := method_3_code
def yL_setWage : MethodName := ⟨RL, "setWage", "(LAlmsKernel;II[J)I"⟩
abbrev cL_setRate : ByteArray := method_4_code
def yL_setRate : MethodName := ⟨RL, "setRate", "(LAlmsKernel;I[J)I"⟩
abbrev cL_buy : ByteArray := method_5_code
def yL_buy : MethodName := ⟨RL, "buy", "(LAlmsKernel;I[J)I"⟩
abbrev cL_sell : ByteArray := method_6_code
def yL_sell : MethodName := ⟨RL, "sell", "(LAlmsKernel;I[J)I"⟩
abbrev cL_drop : ByteArray := method_7_code
def yL_drop : MethodName := ⟨RL, "drop", "(LAlmsKernel;I[J)I"⟩
abbrev cL_touch : ByteArray := method_8_code
def yL_touch : MethodName := ⟨RL, "touch", "(LAlmsKernel;II[J)I"⟩
abbrev cL_payBack : ByteArray := method_9_code
def yL_payBack : MethodName := ⟨RL, "payBack", "(LAlmsKernel;I[J)I"⟩
abbrev cL_advance : ByteArray := method_10_code
def yL_advance : MethodName := ⟨RL, "advance", "(LAlmsKernel;I[J)I"⟩
abbrev cL_owner : ByteArray := method_11_code
def yL_owner : MethodName := ⟨RL, "owner", "(LAlmsKernel;I[J)I"⟩
abbrev cL_holder : ByteArray := method_12_code
def yL_holder : MethodName := ⟨RL, "holder", "(LAlmsKernel;I[J)I"⟩
abbrev cL_holderByLog : ByteArray := method_13_code
def yL_holderByLog : MethodName := ⟨RL, "holderByLog", "(LAlmsKernel;I[J)I"⟩
abbrev cL_pageIn : ByteArray := method_14_code
def yL_pageIn : MethodName := ⟨RL, "pageIn", "(LAlmsKernel;I[J)I"⟩
abbrev cL_age : ByteArray := method_15_code
def yL_age : MethodName := ⟨RL, "age", "(LAlmsKernel;I[J)I"⟩
abbrev cL_owns : ByteArray := method_16_code
def yL_owns : MethodName := ⟨RL, "owns", "(LAlmsKernel;I[J)I"⟩
abbrev cL_borrowed : ByteArray := method_17_code
def yL_borrowed : MethodName := ⟨RL, "borrowed", "(LAlmsKernel;I[J)I"⟩
abbrev cL_lent : ByteArray := method_18_code
def yL_lent : MethodName := ⟨RL, "lent", "(LAlmsKernel;I[J)I"⟩
abbrev cL_stateOf : ByteArray := method_19_code
def yL_stateOf : MethodName := ⟨RL, "stateOf", "(LAlmsKernel;I[J)I"⟩
abbrev cL_purse : ByteArray := method_20_code
def yL_purse : MethodName := ⟨RL, "purse", "(LAlmsKernel;I[J)I"⟩
abbrev cL_faults : ByteArray := method_21_code
def yL_faults : MethodName := ⟨RL, "faults", "(LAlmsKernel;I[J)I"⟩
abbrev cL_lasts : ByteArray := method_22_code
def yL_lasts : MethodName := ⟨RL, "lasts", "(LAlmsKernel;I[J)I"⟩
abbrev cL_partiesOf : ByteArray := method_23_code
def yL_partiesOf : MethodName := ⟨RL, "partiesOf", "(LAlmsKernel;I[J)I"⟩
abbrev cL_interest : ByteArray := method_24_code
def yL_interest : MethodName := ⟨RL, "interest", "(LAlmsKernel;I[J)I"⟩
abbrev cL_requestAt : ByteArray := method_25_code
def yL_requestAt : MethodName := ⟨RL, "requestAt", "(LAlmsKernel;I[J)I"⟩
abbrev cL_law : ByteArray := code
def yL_law : MethodName := ⟨RL, "law", "([I)Z"⟩
def wsJ7_fill_53178 : List Cond := .code yJ7_fill_53178 cJ7_fill_53178 4 none :: ([])
def wsX0_init_r1 : List Cond := [Cond.methodLink RX0 3 objectInit, Cond.instanceMethod objectInit, Cond.code objectInit ⟨#[0xb1]⟩ 1 none, Cond.arrayClass .int, Cond.fieldLink RX0 9 "AlmsKernel" "wages" "[I", Cond.fieldLink RX0 13 "AlmsKernel" "purses" "[I", Cond.fieldLink RX0 16 "AlmsKernel" "states" "[I", Cond.fieldLink RX0 19 "AlmsKernel" "faultCounts" "[I", Cond.fieldLink RX0 22 "AlmsKernel" "owners" "[I", Cond.fieldLink RX0 25 "AlmsKernel" "holders" "[I", Cond.fieldLink RX0 28 "AlmsKernel" "pages" "[I", Cond.arrayClass .boolean, Cond.fieldLink RX0 31 "AlmsKernel" "there" "[Z", Cond.fieldLink RX0 35 "AlmsKernel" "touchTicks" "[I", Cond.fieldLink RX0 38 "AlmsKernel" "loanFrames" "[I", Cond.fieldLink RX0 41 "AlmsKernel" "lenders" "[I", Cond.fieldLink RX0 44 "AlmsKernel" "borrowers" "[I", Cond.fieldLink RX0 47 "AlmsKernel" "lasting" "[Z", Cond.fieldLink RX0 50 "AlmsKernel" "interests" "[I", Cond.fieldLink RX0 53 "AlmsKernel" "loanCount" "I", Cond.fieldLink RX0 57 "AlmsKernel" "rate" "I", Cond.fieldLink RX0 60 "AlmsKernel" "now" "I", Cond.fieldLink RX0 63 "AlmsKernel" "headTrack" "I", Cond.fieldLink RX0 66 "AlmsKernel" "chosenFrame" "I"]
def wsX0_init_r2 : List Cond := [Cond.methodLink RX0 69 yJ7_fill_53178, Cond.static yJ7_fill_53178, Cond.initialized RJ7, Cond.code yJ7_fill_53178 cJ7_fill_53178 4 none]
def wsX0_init : List Cond := .code yX0_init cX0_init 1 none :: ((wsX0_init_r1 ++ wsX0_init_r2) ++ wsX00)
def wsX0_isProcess : List Cond := .code yX0_isProcess cX0_isProcess 1 (some .boolean) :: ([])
def wsX0_setWage : List Cond := .code yX0_setWage cX0_setWage 4 (some .int) :: ([.classLink RX0 79 "java/lang/IndexOutOfBoundsException", .initialized "java/lang/IndexOutOfBoundsException", .classLink RX0 86 "java/lang/IllegalArgumentException", .initialized "java/lang/IllegalArgumentException", .fieldLink RX0 9 "AlmsKernel" "wages" "[I", .methodLink RX0 75 yX0_isProcess, .static yX0_isProcess, .initialized RX0, .code yX0_isProcess cX0_isProcess 1 (some .boolean)] ++ wsX00 ++ (vx_atS RX0 83 "java/lang/IndexOutOfBoundsException" ["java/lang/RuntimeException", "java/lang/Exception"]).filter goodWord ++ (vx_atS RX0 90 "java/lang/IllegalArgumentException" ["java/lang/RuntimeException", "java/lang/Exception"]).filter goodWord)
def wsX0_setRate : List Cond := .code yX0_setRate cX0_setRate 3 (some .int) :: ([.classLink RX0 86 "java/lang/IllegalArgumentException", .initialized "java/lang/IllegalArgumentException", .fieldLink RX0 57 "AlmsKernel" "rate" "I"] ++ wsX00 ++ (vx_atS RX0 90 "java/lang/IllegalArgumentException" ["java/lang/RuntimeException", "java/lang/Exception"]).filter goodWord)
def wsX0_lowestEmptyFrame : List Cond := .code yX0_lowestEmptyFrame cX0_lowestEmptyFrame 3 (some .int) :: ([.fieldLink RX0 25 "AlmsKernel" "holders" "[I", .fieldLink RX0 28 "AlmsKernel" "pages" "[I"] ++ wsX00)
def wsX0_isFrame : List Cond := .code yX0_isFrame cX0_isFrame 1 (some .boolean) :: ([])
def wsX0_buy : List Cond := .code yX0_buy cX0_buy 3 (some .int) :: ([.classLink RX0 79 "java/lang/IndexOutOfBoundsException", .initialized "java/lang/IndexOutOfBoundsException", .classLink RX0 93 "java/lang/IllegalStateException", .initialized "java/lang/IllegalStateException", .fieldLink RX0 16 "AlmsKernel" "states" "[I", .fieldLink RX0 13 "AlmsKernel" "purses" "[I", .fieldLink RX0 22 "AlmsKernel" "owners" "[I", .fieldLink RX0 25 "AlmsKernel" "holders" "[I", .methodLink RX0 75 yX0_isProcess, .static yX0_isProcess, .initialized RX0, .code yX0_isProcess cX0_isProcess 1 (some .boolean), .methodLink RX0 98 yX0_lowestEmptyFrame, .instanceMethod yX0_lowestEmptyFrame, .selects RX0 yX0_lowestEmptyFrame yX0_lowestEmptyFrame, .code yX0_lowestEmptyFrame cX0_lowestEmptyFrame 3 (some .int), .fieldLink RX0 28 "AlmsKernel" "pages" "[I", .methodLink RX0 102 yX0_isFrame, .static yX0_isFrame, .code yX0_isFrame cX0_isFrame 1 (some .boolean)] ++ wsX00 ++ (vx_atS RX0 83 "java/lang/IndexOutOfBoundsException" ["java/lang/RuntimeException", "java/lang/Exception"]).filter goodWord ++ (vx_atS RX0 97 "java/lang/IllegalStateException" ["java/lang/RuntimeException", "java/lang/Exception"]).filter goodWord)
def wsX0_sell : List Cond := .code yX0_sell cX0_sell 3 (some .int) :: ([.classLink RX0 79 "java/lang/IndexOutOfBoundsException", .initialized "java/lang/IndexOutOfBoundsException", .classLink RX0 93 "java/lang/IllegalStateException", .initialized "java/lang/IllegalStateException", .fieldLink RX0 22 "AlmsKernel" "owners" "[I", .fieldLink RX0 25 "AlmsKernel" "holders" "[I", .fieldLink RX0 28 "AlmsKernel" "pages" "[I", .fieldLink RX0 16 "AlmsKernel" "states" "[I", .fieldLink RX0 13 "AlmsKernel" "purses" "[I", .methodLink RX0 102 yX0_isFrame, .static yX0_isFrame, .initialized RX0, .code yX0_isFrame cX0_isFrame 1 (some .boolean), .methodLink RX0 75 yX0_isProcess, .static yX0_isProcess, .code yX0_isProcess cX0_isProcess 1 (some .boolean)] ++ wsX00 ++ (vx_atS RX0 83 "java/lang/IndexOutOfBoundsException" ["java/lang/RuntimeException", "java/lang/Exception"]).filter goodWord ++ (vx_atS RX0 97 "java/lang/IllegalStateException" ["java/lang/RuntimeException", "java/lang/Exception"]).filter goodWord)
def wsX0_dropPage : List Cond := .code yX0_dropPage cX0_dropPage 2 none :: ([.fieldLink RX0 28 "AlmsKernel" "pages" "[I", .fieldLink RX0 31 "AlmsKernel" "there" "[Z", .fieldLink RX0 66 "AlmsKernel" "chosenFrame" "I"] ++ wsX00)
def wsX0_drop : List Cond := .code yX0_drop cX0_drop 3 (some .int) :: ([.classLink RX0 79 "java/lang/IndexOutOfBoundsException", .initialized "java/lang/IndexOutOfBoundsException", .classLink RX0 93 "java/lang/IllegalStateException", .initialized "java/lang/IllegalStateException", .fieldLink RX0 31 "AlmsKernel" "there" "[Z", .fieldLink RX0 28 "AlmsKernel" "pages" "[I", .methodLink RX0 102 yX0_isFrame, .static yX0_isFrame, .initialized RX0, .code yX0_isFrame cX0_isFrame 1 (some .boolean), .methodLink RX0 115 yX0_dropPage, .instanceMethod yX0_dropPage, .selects RX0 yX0_dropPage yX0_dropPage, .code yX0_dropPage cX0_dropPage 2 none, .fieldLink RX0 66 "AlmsKernel" "chosenFrame" "I"] ++ wsX00 ++ (vx_atS RX0 83 "java/lang/IndexOutOfBoundsException" ["java/lang/RuntimeException", "java/lang/Exception"]).filter goodWord ++ (vx_atS RX0 97 "java/lang/IllegalStateException" ["java/lang/RuntimeException", "java/lang/Exception"]).filter goodWord)
def wsX0_isPage : List Cond := .code yX0_isPage cX0_isPage 1 (some .boolean) :: ([])
def wsX0_frameWithPage : List Cond := .code yX0_frameWithPage cX0_frameWithPage 4 (some .int) :: ([.fieldLink RX0 25 "AlmsKernel" "holders" "[I", .fieldLink RX0 28 "AlmsKernel" "pages" "[I"] ++ wsX00)
def wsX0_isComing : List Cond := .code yX0_isComing cX0_isComing 2 (some .boolean) :: ([.fieldLink RX0 28 "AlmsKernel" "pages" "[I", .fieldLink RX0 31 "AlmsKernel" "there" "[Z", .methodLink RX0 102 yX0_isFrame, .static yX0_isFrame, .initialized RX0, .code yX0_isFrame cX0_isFrame 1 (some .boolean)] ++ wsX00)
def wsX0_endLoan : List Cond := .code yX0_endLoan cX0_endLoan 3 none :: ([.fieldLink RX0 47 "AlmsKernel" "lasting" "[Z", .fieldLink RX0 38 "AlmsKernel" "loanFrames" "[I", .fieldLink RX0 25 "AlmsKernel" "holders" "[I", .fieldLink RX0 22 "AlmsKernel" "owners" "[I", .methodLink RX0 102 yX0_isFrame, .static yX0_isFrame, .initialized RX0, .code yX0_isFrame cX0_isFrame 1 (some .boolean), .methodLink RX0 115 yX0_dropPage, .instanceMethod yX0_dropPage, .selects RX0 yX0_dropPage yX0_dropPage, .code yX0_dropPage cX0_dropPage 2 none, .fieldLink RX0 28 "AlmsKernel" "pages" "[I", .fieldLink RX0 31 "AlmsKernel" "there" "[Z", .fieldLink RX0 66 "AlmsKernel" "chosenFrame" "I"] ++ wsX00)
def wsX0_callIn_r1 : List Cond := [Cond.fieldLink RX0 53 "AlmsKernel" "loanCount" "I", Cond.fieldLink RX0 47 "AlmsKernel" "lasting" "[Z", Cond.fieldLink RX0 41 "AlmsKernel" "lenders" "[I", Cond.fieldLink RX0 38 "AlmsKernel" "loanFrames" "[I", Cond.methodLink RX0 140 yX0_isComing, Cond.instanceMethod yX0_isComing, Cond.selects RX0 yX0_isComing yX0_isComing, Cond.initialized RX0, Cond.code yX0_isComing cX0_isComing 2 (some .boolean), Cond.fieldLink RX0 28 "AlmsKernel" "pages" "[I", Cond.fieldLink RX0 31 "AlmsKernel" "there" "[Z", Cond.methodLink RX0 102 yX0_isFrame, Cond.static yX0_isFrame, Cond.code yX0_isFrame cX0_isFrame 1 (some .boolean), Cond.methodLink RX0 145 yX0_endLoan, Cond.instanceMethod yX0_endLoan, Cond.selects RX0 yX0_endLoan yX0_endLoan, Cond.code yX0_endLoan cX0_endLoan 3 none, Cond.fieldLink RX0 25 "AlmsKernel" "holders" "[I", Cond.fieldLink RX0 22 "AlmsKernel" "owners" "[I", Cond.methodLink RX0 115 yX0_dropPage, Cond.instanceMethod yX0_dropPage, Cond.selects RX0 yX0_dropPage yX0_dropPage, Cond.code yX0_dropPage cX0_dropPage 2 none]
def wsX0_callIn_r2 : List Cond := [Cond.fieldLink RX0 66 "AlmsKernel" "chosenFrame" "I"]
def wsX0_callIn : List Cond := .code yX0_callIn cX0_callIn 3 (some .int) :: ((wsX0_callIn_r1 ++ wsX0_callIn_r2) ++ wsX00)
def wsX0_countBorrowed : List Cond := .code yX0_countBorrowed cX0_countBorrowed 4 (some .int) :: ([.fieldLink RX0 25 "AlmsKernel" "holders" "[I", .fieldLink RX0 22 "AlmsKernel" "owners" "[I"] ++ wsX00)
def wsX0_ageOf : List Cond := .code yX0_ageOf cX0_ageOf 2 (some .int) :: ([.fieldLink RX0 31 "AlmsKernel" "there" "[Z", .fieldLink RX0 60 "AlmsKernel" "now" "I", .fieldLink RX0 35 "AlmsKernel" "touchTicks" "[I"] ++ wsX00)
def wsX0_frameToLend : List Cond := .code yX0_frameToLend cX0_frameToLend 5 (some .int) :: ([.fieldLink RX0 22 "AlmsKernel" "owners" "[I", .fieldLink RX0 25 "AlmsKernel" "holders" "[I", .fieldLink RX0 28 "AlmsKernel" "pages" "[I", .methodLink RX0 156 yX0_ageOf, .instanceMethod yX0_ageOf, .selects RX0 yX0_ageOf yX0_ageOf, .initialized RX0, .code yX0_ageOf cX0_ageOf 2 (some .int), .fieldLink RX0 31 "AlmsKernel" "there" "[Z", .fieldLink RX0 60 "AlmsKernel" "now" "I", .fieldLink RX0 35 "AlmsKernel" "touchTicks" "[I"] ++ wsX00)
def wsX0_richestLender : List Cond := .code yX0_richestLender cX0_richestLender 5 (some .int) :: ([.fieldLink RX0 13 "AlmsKernel" "purses" "[I", .methodLink RX0 179 yX0_frameToLend, .instanceMethod yX0_frameToLend, .selects RX0 yX0_frameToLend yX0_frameToLend, .initialized RX0, .code yX0_frameToLend cX0_frameToLend 5 (some .int), .fieldLink RX0 22 "AlmsKernel" "owners" "[I", .fieldLink RX0 25 "AlmsKernel" "holders" "[I", .fieldLink RX0 28 "AlmsKernel" "pages" "[I", .methodLink RX0 156 yX0_ageOf, .instanceMethod yX0_ageOf, .selects RX0 yX0_ageOf yX0_ageOf, .code yX0_ageOf cX0_ageOf 2 (some .int), .fieldLink RX0 31 "AlmsKernel" "there" "[Z", .fieldLink RX0 60 "AlmsKernel" "now" "I", .fieldLink RX0 35 "AlmsKernel" "touchTicks" "[I"] ++ wsX00)
def wsX0_borrow_r1 : List Cond := [Cond.classLink RX0 93 "java/lang/IllegalStateException", Cond.initialized "java/lang/IllegalStateException", Cond.fieldLink RX0 13 "AlmsKernel" "purses" "[I", Cond.fieldLink RX0 57 "AlmsKernel" "rate" "I", Cond.fieldLink RX0 53 "AlmsKernel" "loanCount" "I", Cond.fieldLink RX0 25 "AlmsKernel" "holders" "[I", Cond.fieldLink RX0 38 "AlmsKernel" "loanFrames" "[I", Cond.fieldLink RX0 41 "AlmsKernel" "lenders" "[I", Cond.fieldLink RX0 44 "AlmsKernel" "borrowers" "[I", Cond.fieldLink RX0 47 "AlmsKernel" "lasting" "[Z", Cond.methodLink RX0 159 yX0_countBorrowed, Cond.instanceMethod yX0_countBorrowed, Cond.selects RX0 yX0_countBorrowed yX0_countBorrowed, Cond.initialized RX0, Cond.code yX0_countBorrowed cX0_countBorrowed 4 (some .int), Cond.fieldLink RX0 22 "AlmsKernel" "owners" "[I", Cond.methodLink RX0 176 yX0_richestLender, Cond.instanceMethod yX0_richestLender, Cond.selects RX0 yX0_richestLender yX0_richestLender, Cond.code yX0_richestLender cX0_richestLender 5 (some .int), Cond.methodLink RX0 179 yX0_frameToLend, Cond.instanceMethod yX0_frameToLend, Cond.selects RX0 yX0_frameToLend yX0_frameToLend, Cond.code yX0_frameToLend cX0_frameToLend 5 (some .int)]
def wsX0_borrow_r2 : List Cond := [Cond.fieldLink RX0 28 "AlmsKernel" "pages" "[I", Cond.methodLink RX0 156 yX0_ageOf, Cond.instanceMethod yX0_ageOf, Cond.selects RX0 yX0_ageOf yX0_ageOf, Cond.code yX0_ageOf cX0_ageOf 2 (some .int), Cond.fieldLink RX0 31 "AlmsKernel" "there" "[Z", Cond.fieldLink RX0 60 "AlmsKernel" "now" "I", Cond.fieldLink RX0 35 "AlmsKernel" "touchTicks" "[I", Cond.methodLink RX0 75 yX0_isProcess, Cond.static yX0_isProcess, Cond.code yX0_isProcess cX0_isProcess 1 (some .boolean), Cond.methodLink RX0 102 yX0_isFrame, Cond.static yX0_isFrame, Cond.code yX0_isFrame cX0_isFrame 1 (some .boolean)]
def wsX0_borrow : List Cond := .code yX0_borrow cX0_borrow 4 (some .int) :: ((wsX0_borrow_r1 ++ wsX0_borrow_r2) ++ wsX00 ++ (vx_atS RX0 97 "java/lang/IllegalStateException" ["java/lang/RuntimeException", "java/lang/Exception"]).filter goodWord)
def wsX0_oldestFrame : List Cond := .code yX0_oldestFrame cX0_oldestFrame 5 (some .int) :: ([.fieldLink RX0 25 "AlmsKernel" "holders" "[I", .methodLink RX0 156 yX0_ageOf, .instanceMethod yX0_ageOf, .selects RX0 yX0_ageOf yX0_ageOf, .initialized RX0, .code yX0_ageOf cX0_ageOf 2 (some .int), .fieldLink RX0 31 "AlmsKernel" "there" "[Z", .fieldLink RX0 60 "AlmsKernel" "now" "I", .fieldLink RX0 35 "AlmsKernel" "touchTicks" "[I"] ++ wsX00)
def wsX0_frameForFault_r1 : List Cond := [Cond.methodLink RX0 98 yX0_lowestEmptyFrame, Cond.instanceMethod yX0_lowestEmptyFrame, Cond.selects RX0 yX0_lowestEmptyFrame yX0_lowestEmptyFrame, Cond.initialized RX0, Cond.code yX0_lowestEmptyFrame cX0_lowestEmptyFrame 3 (some .int), Cond.fieldLink RX0 25 "AlmsKernel" "holders" "[I", Cond.fieldLink RX0 28 "AlmsKernel" "pages" "[I", Cond.methodLink RX0 167 yX0_callIn, Cond.instanceMethod yX0_callIn, Cond.selects RX0 yX0_callIn yX0_callIn, Cond.code yX0_callIn cX0_callIn 3 (some .int), Cond.fieldLink RX0 53 "AlmsKernel" "loanCount" "I", Cond.fieldLink RX0 47 "AlmsKernel" "lasting" "[Z", Cond.fieldLink RX0 41 "AlmsKernel" "lenders" "[I", Cond.fieldLink RX0 38 "AlmsKernel" "loanFrames" "[I", Cond.methodLink RX0 140 yX0_isComing, Cond.instanceMethod yX0_isComing, Cond.selects RX0 yX0_isComing yX0_isComing, Cond.code yX0_isComing cX0_isComing 2 (some .boolean), Cond.fieldLink RX0 31 "AlmsKernel" "there" "[Z", Cond.methodLink RX0 102 yX0_isFrame, Cond.static yX0_isFrame, Cond.code yX0_isFrame cX0_isFrame 1 (some .boolean), Cond.methodLink RX0 145 yX0_endLoan]
def wsX0_frameForFault_r2 : List Cond := [Cond.instanceMethod yX0_endLoan, Cond.selects RX0 yX0_endLoan yX0_endLoan, Cond.code yX0_endLoan cX0_endLoan 3 none, Cond.fieldLink RX0 22 "AlmsKernel" "owners" "[I", Cond.methodLink RX0 115 yX0_dropPage, Cond.instanceMethod yX0_dropPage, Cond.selects RX0 yX0_dropPage yX0_dropPage, Cond.code yX0_dropPage cX0_dropPage 2 none, Cond.fieldLink RX0 66 "AlmsKernel" "chosenFrame" "I", Cond.methodLink RX0 170 yX0_borrow, Cond.instanceMethod yX0_borrow, Cond.selects RX0 yX0_borrow yX0_borrow, Cond.code yX0_borrow cX0_borrow 4 (some .int), Cond.classLink RX0 93 "java/lang/IllegalStateException", Cond.initialized "java/lang/IllegalStateException", Cond.fieldLink RX0 13 "AlmsKernel" "purses" "[I", Cond.fieldLink RX0 57 "AlmsKernel" "rate" "I", Cond.fieldLink RX0 44 "AlmsKernel" "borrowers" "[I", Cond.methodLink RX0 159 yX0_countBorrowed, Cond.instanceMethod yX0_countBorrowed, Cond.selects RX0 yX0_countBorrowed yX0_countBorrowed, Cond.code yX0_countBorrowed cX0_countBorrowed 4 (some .int), Cond.methodLink RX0 176 yX0_richestLender, Cond.instanceMethod yX0_richestLender]
def wsX0_frameForFault_r3 : List Cond := [Cond.selects RX0 yX0_richestLender yX0_richestLender, Cond.code yX0_richestLender cX0_richestLender 5 (some .int), Cond.methodLink RX0 179 yX0_frameToLend, Cond.instanceMethod yX0_frameToLend, Cond.selects RX0 yX0_frameToLend yX0_frameToLend, Cond.code yX0_frameToLend cX0_frameToLend 5 (some .int), Cond.methodLink RX0 156 yX0_ageOf, Cond.instanceMethod yX0_ageOf, Cond.selects RX0 yX0_ageOf yX0_ageOf, Cond.code yX0_ageOf cX0_ageOf 2 (some .int), Cond.fieldLink RX0 60 "AlmsKernel" "now" "I", Cond.fieldLink RX0 35 "AlmsKernel" "touchTicks" "[I", Cond.methodLink RX0 75 yX0_isProcess, Cond.static yX0_isProcess, Cond.code yX0_isProcess cX0_isProcess 1 (some .boolean), Cond.methodLink RX0 173 yX0_oldestFrame, Cond.instanceMethod yX0_oldestFrame, Cond.selects RX0 yX0_oldestFrame yX0_oldestFrame, Cond.code yX0_oldestFrame cX0_oldestFrame 5 (some .int)]
def wsX0_frameForFault : List Cond := .code yX0_frameForFault cX0_frameForFault 3 (some .int) :: ((wsX0_frameForFault_r1 ++ (wsX0_frameForFault_r2 ++ wsX0_frameForFault_r3)) ++ wsX00 ++ (vx_atS RX0 97 "java/lang/IllegalStateException" ["java/lang/RuntimeException", "java/lang/Exception"]).filter goodWord)
def wsX0_touch_r1 : List Cond := [Cond.classLink RX0 79 "java/lang/IndexOutOfBoundsException", Cond.initialized "java/lang/IndexOutOfBoundsException", Cond.classLink RX0 93 "java/lang/IllegalStateException", Cond.initialized "java/lang/IllegalStateException", Cond.fieldLink RX0 16 "AlmsKernel" "states" "[I", Cond.fieldLink RX0 35 "AlmsKernel" "touchTicks" "[I", Cond.fieldLink RX0 60 "AlmsKernel" "now" "I", Cond.fieldLink RX0 28 "AlmsKernel" "pages" "[I", Cond.fieldLink RX0 31 "AlmsKernel" "there" "[Z", Cond.fieldLink RX0 19 "AlmsKernel" "faultCounts" "[I", Cond.methodLink RX0 75 yX0_isProcess, Cond.static yX0_isProcess, Cond.initialized RX0, Cond.code yX0_isProcess cX0_isProcess 1 (some .boolean), Cond.methodLink RX0 119 yX0_isPage, Cond.static yX0_isPage, Cond.code yX0_isPage cX0_isPage 1 (some .boolean), Cond.methodLink RX0 126 yX0_frameWithPage, Cond.instanceMethod yX0_frameWithPage, Cond.selects RX0 yX0_frameWithPage yX0_frameWithPage, Cond.code yX0_frameWithPage cX0_frameWithPage 4 (some .int), Cond.fieldLink RX0 25 "AlmsKernel" "holders" "[I", Cond.methodLink RX0 102 yX0_isFrame, Cond.static yX0_isFrame]
def wsX0_touch_r2 : List Cond := [Cond.code yX0_isFrame cX0_isFrame 1 (some .boolean), Cond.methodLink RX0 130 yX0_frameForFault, Cond.instanceMethod yX0_frameForFault, Cond.selects RX0 yX0_frameForFault yX0_frameForFault, Cond.code yX0_frameForFault cX0_frameForFault 3 (some .int), Cond.methodLink RX0 98 yX0_lowestEmptyFrame, Cond.instanceMethod yX0_lowestEmptyFrame, Cond.selects RX0 yX0_lowestEmptyFrame yX0_lowestEmptyFrame, Cond.code yX0_lowestEmptyFrame cX0_lowestEmptyFrame 3 (some .int), Cond.methodLink RX0 167 yX0_callIn, Cond.instanceMethod yX0_callIn, Cond.selects RX0 yX0_callIn yX0_callIn, Cond.code yX0_callIn cX0_callIn 3 (some .int), Cond.fieldLink RX0 53 "AlmsKernel" "loanCount" "I", Cond.fieldLink RX0 47 "AlmsKernel" "lasting" "[Z", Cond.fieldLink RX0 41 "AlmsKernel" "lenders" "[I", Cond.fieldLink RX0 38 "AlmsKernel" "loanFrames" "[I", Cond.methodLink RX0 140 yX0_isComing, Cond.instanceMethod yX0_isComing, Cond.selects RX0 yX0_isComing yX0_isComing, Cond.code yX0_isComing cX0_isComing 2 (some .boolean), Cond.methodLink RX0 145 yX0_endLoan, Cond.instanceMethod yX0_endLoan, Cond.selects RX0 yX0_endLoan yX0_endLoan]
def wsX0_touch_r3 : List Cond := [Cond.code yX0_endLoan cX0_endLoan 3 none, Cond.fieldLink RX0 22 "AlmsKernel" "owners" "[I", Cond.methodLink RX0 115 yX0_dropPage, Cond.instanceMethod yX0_dropPage, Cond.selects RX0 yX0_dropPage yX0_dropPage, Cond.code yX0_dropPage cX0_dropPage 2 none, Cond.fieldLink RX0 66 "AlmsKernel" "chosenFrame" "I", Cond.methodLink RX0 170 yX0_borrow, Cond.instanceMethod yX0_borrow, Cond.selects RX0 yX0_borrow yX0_borrow, Cond.code yX0_borrow cX0_borrow 4 (some .int), Cond.fieldLink RX0 13 "AlmsKernel" "purses" "[I", Cond.fieldLink RX0 57 "AlmsKernel" "rate" "I", Cond.fieldLink RX0 44 "AlmsKernel" "borrowers" "[I", Cond.methodLink RX0 159 yX0_countBorrowed, Cond.instanceMethod yX0_countBorrowed, Cond.selects RX0 yX0_countBorrowed yX0_countBorrowed, Cond.code yX0_countBorrowed cX0_countBorrowed 4 (some .int), Cond.methodLink RX0 176 yX0_richestLender, Cond.instanceMethod yX0_richestLender, Cond.selects RX0 yX0_richestLender yX0_richestLender, Cond.code yX0_richestLender cX0_richestLender 5 (some .int), Cond.methodLink RX0 179 yX0_frameToLend, Cond.instanceMethod yX0_frameToLend]
def wsX0_touch_r4 : List Cond := [Cond.selects RX0 yX0_frameToLend yX0_frameToLend, Cond.code yX0_frameToLend cX0_frameToLend 5 (some .int), Cond.methodLink RX0 156 yX0_ageOf, Cond.instanceMethod yX0_ageOf, Cond.selects RX0 yX0_ageOf yX0_ageOf, Cond.code yX0_ageOf cX0_ageOf 2 (some .int), Cond.methodLink RX0 173 yX0_oldestFrame, Cond.instanceMethod yX0_oldestFrame, Cond.selects RX0 yX0_oldestFrame yX0_oldestFrame, Cond.code yX0_oldestFrame cX0_oldestFrame 5 (some .int)]
def wsX0_touch : List Cond := .code yX0_touch cX0_touch 5 (some .int) :: ((wsX0_touch_r1 ++ (wsX0_touch_r2 ++ (wsX0_touch_r3 ++ wsX0_touch_r4))) ++ wsX00 ++ (vx_atS RX0 83 "java/lang/IndexOutOfBoundsException" ["java/lang/RuntimeException", "java/lang/Exception"]).filter goodWord ++ (vx_atS RX0 97 "java/lang/IllegalStateException" ["java/lang/RuntimeException", "java/lang/Exception"]).filter goodWord)
def wsX0_isLoan : List Cond := .code yX0_isLoan cX0_isLoan 2 (some .boolean) :: ([.fieldLink RX0 53 "AlmsKernel" "loanCount" "I"] ++ wsX00)
def wsX0_payBack_r1 : List Cond := [Cond.classLink RX0 79 "java/lang/IndexOutOfBoundsException", Cond.initialized "java/lang/IndexOutOfBoundsException", Cond.classLink RX0 93 "java/lang/IllegalStateException", Cond.initialized "java/lang/IllegalStateException", Cond.fieldLink RX0 47 "AlmsKernel" "lasting" "[Z", Cond.fieldLink RX0 38 "AlmsKernel" "loanFrames" "[I", Cond.fieldLink RX0 41 "AlmsKernel" "lenders" "[I", Cond.methodLink RX0 135 yX0_isLoan, Cond.instanceMethod yX0_isLoan, Cond.selects RX0 yX0_isLoan yX0_isLoan, Cond.initialized RX0, Cond.code yX0_isLoan cX0_isLoan 2 (some .boolean), Cond.fieldLink RX0 53 "AlmsKernel" "loanCount" "I", Cond.methodLink RX0 140 yX0_isComing, Cond.instanceMethod yX0_isComing, Cond.selects RX0 yX0_isComing yX0_isComing, Cond.code yX0_isComing cX0_isComing 2 (some .boolean), Cond.fieldLink RX0 28 "AlmsKernel" "pages" "[I", Cond.fieldLink RX0 31 "AlmsKernel" "there" "[Z", Cond.methodLink RX0 102 yX0_isFrame, Cond.static yX0_isFrame, Cond.code yX0_isFrame cX0_isFrame 1 (some .boolean), Cond.methodLink RX0 145 yX0_endLoan, Cond.instanceMethod yX0_endLoan]
def wsX0_payBack_r2 : List Cond := [Cond.selects RX0 yX0_endLoan yX0_endLoan, Cond.code yX0_endLoan cX0_endLoan 3 none, Cond.fieldLink RX0 25 "AlmsKernel" "holders" "[I", Cond.fieldLink RX0 22 "AlmsKernel" "owners" "[I", Cond.methodLink RX0 115 yX0_dropPage, Cond.instanceMethod yX0_dropPage, Cond.selects RX0 yX0_dropPage yX0_dropPage, Cond.code yX0_dropPage cX0_dropPage 2 none, Cond.fieldLink RX0 66 "AlmsKernel" "chosenFrame" "I"]
def wsX0_payBack : List Cond := .code yX0_payBack cX0_payBack 2 (some .int) :: ((wsX0_payBack_r1 ++ wsX0_payBack_r2) ++ wsX00 ++ (vx_atS RX0 83 "java/lang/IndexOutOfBoundsException" ["java/lang/RuntimeException", "java/lang/Exception"]).filter goodWord ++ (vx_atS RX0 97 "java/lang/IllegalStateException" ["java/lang/RuntimeException", "java/lang/Exception"]).filter goodWord)
def wsX0_payWages : List Cond := .code yX0_payWages cX0_payWages 2 none :: ([.fieldLink RX0 16 "AlmsKernel" "states" "[I", .fieldLink RX0 13 "AlmsKernel" "purses" "[I", .fieldLink RX0 9 "AlmsKernel" "wages" "[I"] ++ wsX00)
def wsX0_putToSleep_r1 : List Cond := [Cond.fieldLink RX0 25 "AlmsKernel" "holders" "[I", Cond.fieldLink RX0 53 "AlmsKernel" "loanCount" "I", Cond.fieldLink RX0 47 "AlmsKernel" "lasting" "[Z", Cond.fieldLink RX0 44 "AlmsKernel" "borrowers" "[I", Cond.fieldLink RX0 16 "AlmsKernel" "states" "[I", Cond.methodLink RX0 140 yX0_isComing, Cond.instanceMethod yX0_isComing, Cond.selects RX0 yX0_isComing yX0_isComing, Cond.initialized RX0, Cond.code yX0_isComing cX0_isComing 2 (some .boolean), Cond.fieldLink RX0 28 "AlmsKernel" "pages" "[I", Cond.fieldLink RX0 31 "AlmsKernel" "there" "[Z", Cond.methodLink RX0 102 yX0_isFrame, Cond.static yX0_isFrame, Cond.code yX0_isFrame cX0_isFrame 1 (some .boolean), Cond.methodLink RX0 115 yX0_dropPage, Cond.instanceMethod yX0_dropPage, Cond.selects RX0 yX0_dropPage yX0_dropPage, Cond.code yX0_dropPage cX0_dropPage 2 none, Cond.fieldLink RX0 66 "AlmsKernel" "chosenFrame" "I", Cond.methodLink RX0 145 yX0_endLoan, Cond.instanceMethod yX0_endLoan, Cond.selects RX0 yX0_endLoan yX0_endLoan, Cond.code yX0_endLoan cX0_endLoan 3 none]
def wsX0_putToSleep_r2 : List Cond := [Cond.fieldLink RX0 38 "AlmsKernel" "loanFrames" "[I", Cond.fieldLink RX0 22 "AlmsKernel" "owners" "[I"]
def wsX0_putToSleep : List Cond := .code yX0_putToSleep cX0_putToSleep 3 none :: ((wsX0_putToSleep_r1 ++ wsX0_putToSleep_r2) ++ wsX00)
def wsX0_charge_r1 : List Cond := [Cond.fieldLink RX0 44 "AlmsKernel" "borrowers" "[I", Cond.fieldLink RX0 41 "AlmsKernel" "lenders" "[I", Cond.fieldLink RX0 13 "AlmsKernel" "purses" "[I", Cond.fieldLink RX0 57 "AlmsKernel" "rate" "I", Cond.fieldLink RX0 50 "AlmsKernel" "interests" "[I", Cond.methodLink RX0 75 yX0_isProcess, Cond.static yX0_isProcess, Cond.initialized RX0, Cond.code yX0_isProcess cX0_isProcess 1 (some .boolean), Cond.methodLink RX0 199 yX0_putToSleep, Cond.instanceMethod yX0_putToSleep, Cond.selects RX0 yX0_putToSleep yX0_putToSleep, Cond.code yX0_putToSleep cX0_putToSleep 3 none, Cond.fieldLink RX0 25 "AlmsKernel" "holders" "[I", Cond.fieldLink RX0 53 "AlmsKernel" "loanCount" "I", Cond.fieldLink RX0 47 "AlmsKernel" "lasting" "[Z", Cond.fieldLink RX0 16 "AlmsKernel" "states" "[I", Cond.methodLink RX0 140 yX0_isComing, Cond.instanceMethod yX0_isComing, Cond.selects RX0 yX0_isComing yX0_isComing, Cond.code yX0_isComing cX0_isComing 2 (some .boolean), Cond.fieldLink RX0 28 "AlmsKernel" "pages" "[I", Cond.fieldLink RX0 31 "AlmsKernel" "there" "[Z", Cond.methodLink RX0 102 yX0_isFrame]
def wsX0_charge_r2 : List Cond := [Cond.static yX0_isFrame, Cond.code yX0_isFrame cX0_isFrame 1 (some .boolean), Cond.methodLink RX0 115 yX0_dropPage, Cond.instanceMethod yX0_dropPage, Cond.selects RX0 yX0_dropPage yX0_dropPage, Cond.code yX0_dropPage cX0_dropPage 2 none, Cond.fieldLink RX0 66 "AlmsKernel" "chosenFrame" "I", Cond.methodLink RX0 145 yX0_endLoan, Cond.instanceMethod yX0_endLoan, Cond.selects RX0 yX0_endLoan yX0_endLoan, Cond.code yX0_endLoan cX0_endLoan 3 none, Cond.fieldLink RX0 38 "AlmsKernel" "loanFrames" "[I", Cond.fieldLink RX0 22 "AlmsKernel" "owners" "[I"]
def wsX0_charge : List Cond := .code yX0_charge cX0_charge 4 none :: ((wsX0_charge_r1 ++ wsX0_charge_r2) ++ wsX00)
def wsX0_chargeLoans_r1 : List Cond := [Cond.fieldLink RX0 53 "AlmsKernel" "loanCount" "I", Cond.fieldLink RX0 47 "AlmsKernel" "lasting" "[Z", Cond.methodLink RX0 196 yX0_charge, Cond.instanceMethod yX0_charge, Cond.selects RX0 yX0_charge yX0_charge, Cond.initialized RX0, Cond.code yX0_charge cX0_charge 4 none, Cond.fieldLink RX0 44 "AlmsKernel" "borrowers" "[I", Cond.fieldLink RX0 41 "AlmsKernel" "lenders" "[I", Cond.fieldLink RX0 13 "AlmsKernel" "purses" "[I", Cond.fieldLink RX0 57 "AlmsKernel" "rate" "I", Cond.fieldLink RX0 50 "AlmsKernel" "interests" "[I", Cond.methodLink RX0 75 yX0_isProcess, Cond.static yX0_isProcess, Cond.code yX0_isProcess cX0_isProcess 1 (some .boolean), Cond.methodLink RX0 199 yX0_putToSleep, Cond.instanceMethod yX0_putToSleep, Cond.selects RX0 yX0_putToSleep yX0_putToSleep, Cond.code yX0_putToSleep cX0_putToSleep 3 none, Cond.fieldLink RX0 25 "AlmsKernel" "holders" "[I", Cond.fieldLink RX0 16 "AlmsKernel" "states" "[I", Cond.methodLink RX0 140 yX0_isComing, Cond.instanceMethod yX0_isComing, Cond.selects RX0 yX0_isComing yX0_isComing]
def wsX0_chargeLoans_r2 : List Cond := [Cond.code yX0_isComing cX0_isComing 2 (some .boolean), Cond.fieldLink RX0 28 "AlmsKernel" "pages" "[I", Cond.fieldLink RX0 31 "AlmsKernel" "there" "[Z", Cond.methodLink RX0 102 yX0_isFrame, Cond.static yX0_isFrame, Cond.code yX0_isFrame cX0_isFrame 1 (some .boolean), Cond.methodLink RX0 115 yX0_dropPage, Cond.instanceMethod yX0_dropPage, Cond.selects RX0 yX0_dropPage yX0_dropPage, Cond.code yX0_dropPage cX0_dropPage 2 none, Cond.fieldLink RX0 66 "AlmsKernel" "chosenFrame" "I", Cond.methodLink RX0 145 yX0_endLoan, Cond.instanceMethod yX0_endLoan, Cond.selects RX0 yX0_endLoan yX0_endLoan, Cond.code yX0_endLoan cX0_endLoan 3 none, Cond.fieldLink RX0 38 "AlmsKernel" "loanFrames" "[I", Cond.fieldLink RX0 22 "AlmsKernel" "owners" "[I"]
def wsX0_chargeLoans : List Cond := .code yX0_chargeLoans cX0_chargeLoans 2 none :: ((wsX0_chargeLoans_r1 ++ wsX0_chargeLoans_r2) ++ wsX00)
def wsX0_richestGiver : List Cond := .code yX0_richestGiver cX0_richestGiver 4 (some .int) :: ([.fieldLink RX0 16 "AlmsKernel" "states" "[I", .fieldLink RX0 13 "AlmsKernel" "purses" "[I"] ++ wsX00)
def wsX0_giveAlms : List Cond := .code yX0_giveAlms cX0_giveAlms 3 none :: ([.fieldLink RX0 16 "AlmsKernel" "states" "[I", .fieldLink RX0 13 "AlmsKernel" "purses" "[I", .methodLink RX0 202 yX0_richestGiver, .instanceMethod yX0_richestGiver, .selects RX0 yX0_richestGiver yX0_richestGiver, .initialized RX0, .code yX0_richestGiver cX0_richestGiver 4 (some .int), .methodLink RX0 75 yX0_isProcess, .static yX0_isProcess, .code yX0_isProcess cX0_isProcess 1 (some .boolean)] ++ wsX00)
def wsX0_trackOf : List Cond := .code yX0_trackOf cX0_trackOf 2 (some .int) :: ([.fieldLink RX0 25 "AlmsKernel" "holders" "[I", .fieldLink RX0 28 "AlmsKernel" "pages" "[I"] ++ wsX00)
def wsX0_nearestRequest : List Cond := .code yX0_nearestRequest cX0_nearestRequest 7 (some .int) :: ([.fieldLink RX0 63 "AlmsKernel" "headTrack" "I", .methodLink RX0 215 Lib.Math.abs.name, .static Lib.Math.abs.name, .initialized "java/lang/Math", .code Lib.Math.abs.name Lib.Math.abs.code 1 (some .int), .methodLink RX0 140 yX0_isComing, .instanceMethod yX0_isComing, .selects RX0 yX0_isComing yX0_isComing, .initialized RX0, .code yX0_isComing cX0_isComing 2 (some .boolean), .fieldLink RX0 28 "AlmsKernel" "pages" "[I", .fieldLink RX0 31 "AlmsKernel" "there" "[Z", .methodLink RX0 102 yX0_isFrame, .static yX0_isFrame, .code yX0_isFrame cX0_isFrame 1 (some .boolean), .methodLink RX0 206 yX0_trackOf, .instanceMethod yX0_trackOf, .selects RX0 yX0_trackOf yX0_trackOf, .code yX0_trackOf cX0_trackOf 2 (some .int), .fieldLink RX0 25 "AlmsKernel" "holders" "[I"] ++ wsX00)
def wsX0_finishRequest : List Cond := .code yX0_finishRequest cX0_finishRequest 3 none :: ([.fieldLink RX0 66 "AlmsKernel" "chosenFrame" "I", .fieldLink RX0 31 "AlmsKernel" "there" "[Z", .fieldLink RX0 35 "AlmsKernel" "touchTicks" "[I", .fieldLink RX0 60 "AlmsKernel" "now" "I", .fieldLink RX0 25 "AlmsKernel" "holders" "[I", .fieldLink RX0 16 "AlmsKernel" "states" "[I", .methodLink RX0 75 yX0_isProcess, .static yX0_isProcess, .initialized RX0, .code yX0_isProcess cX0_isProcess 1 (some .boolean)] ++ wsX00)
def wsX0_moveDisk_r1 : List Cond := [Cond.fieldLink RX0 66 "AlmsKernel" "chosenFrame" "I", Cond.fieldLink RX0 63 "AlmsKernel" "headTrack" "I", Cond.methodLink RX0 209 yX0_nearestRequest, Cond.instanceMethod yX0_nearestRequest, Cond.selects RX0 yX0_nearestRequest yX0_nearestRequest, Cond.initialized RX0, Cond.code yX0_nearestRequest cX0_nearestRequest 7 (some .int), Cond.methodLink RX0 215 Lib.Math.abs.name, Cond.static Lib.Math.abs.name, Cond.initialized "java/lang/Math", Cond.code Lib.Math.abs.name Lib.Math.abs.code 1 (some .int), Cond.methodLink RX0 140 yX0_isComing, Cond.instanceMethod yX0_isComing, Cond.selects RX0 yX0_isComing yX0_isComing, Cond.code yX0_isComing cX0_isComing 2 (some .boolean), Cond.fieldLink RX0 28 "AlmsKernel" "pages" "[I", Cond.fieldLink RX0 31 "AlmsKernel" "there" "[Z", Cond.methodLink RX0 102 yX0_isFrame, Cond.static yX0_isFrame, Cond.code yX0_isFrame cX0_isFrame 1 (some .boolean), Cond.methodLink RX0 206 yX0_trackOf, Cond.instanceMethod yX0_trackOf, Cond.selects RX0 yX0_trackOf yX0_trackOf, Cond.code yX0_trackOf cX0_trackOf 2 (some .int)]
def wsX0_moveDisk_r2 : List Cond := [Cond.fieldLink RX0 25 "AlmsKernel" "holders" "[I", Cond.methodLink RX0 212 yX0_finishRequest, Cond.instanceMethod yX0_finishRequest, Cond.selects RX0 yX0_finishRequest yX0_finishRequest, Cond.code yX0_finishRequest cX0_finishRequest 3 none, Cond.fieldLink RX0 35 "AlmsKernel" "touchTicks" "[I", Cond.fieldLink RX0 60 "AlmsKernel" "now" "I", Cond.fieldLink RX0 16 "AlmsKernel" "states" "[I", Cond.methodLink RX0 75 yX0_isProcess, Cond.static yX0_isProcess, Cond.code yX0_isProcess cX0_isProcess 1 (some .boolean)]
def wsX0_moveDisk : List Cond := .code yX0_moveDisk cX0_moveDisk 2 none :: ((wsX0_moveDisk_r1 ++ wsX0_moveDisk_r2) ++ wsX00)
def wsX0_passTick_r1 : List Cond := [Cond.fieldLink RX0 60 "AlmsKernel" "now" "I", Cond.methodLink RX0 184 yX0_payWages, Cond.instanceMethod yX0_payWages, Cond.selects RX0 yX0_payWages yX0_payWages, Cond.initialized RX0, Cond.code yX0_payWages cX0_payWages 2 none, Cond.fieldLink RX0 16 "AlmsKernel" "states" "[I", Cond.fieldLink RX0 13 "AlmsKernel" "purses" "[I", Cond.fieldLink RX0 9 "AlmsKernel" "wages" "[I", Cond.methodLink RX0 187 yX0_chargeLoans, Cond.instanceMethod yX0_chargeLoans, Cond.selects RX0 yX0_chargeLoans yX0_chargeLoans, Cond.code yX0_chargeLoans cX0_chargeLoans 2 none, Cond.fieldLink RX0 53 "AlmsKernel" "loanCount" "I", Cond.fieldLink RX0 47 "AlmsKernel" "lasting" "[Z", Cond.methodLink RX0 196 yX0_charge, Cond.instanceMethod yX0_charge, Cond.selects RX0 yX0_charge yX0_charge, Cond.code yX0_charge cX0_charge 4 none, Cond.fieldLink RX0 44 "AlmsKernel" "borrowers" "[I", Cond.fieldLink RX0 41 "AlmsKernel" "lenders" "[I", Cond.fieldLink RX0 57 "AlmsKernel" "rate" "I", Cond.fieldLink RX0 50 "AlmsKernel" "interests" "[I", Cond.methodLink RX0 75 yX0_isProcess]
def wsX0_passTick_r2 : List Cond := [Cond.static yX0_isProcess, Cond.code yX0_isProcess cX0_isProcess 1 (some .boolean), Cond.methodLink RX0 199 yX0_putToSleep, Cond.instanceMethod yX0_putToSleep, Cond.selects RX0 yX0_putToSleep yX0_putToSleep, Cond.code yX0_putToSleep cX0_putToSleep 3 none, Cond.fieldLink RX0 25 "AlmsKernel" "holders" "[I", Cond.methodLink RX0 140 yX0_isComing, Cond.instanceMethod yX0_isComing, Cond.selects RX0 yX0_isComing yX0_isComing, Cond.code yX0_isComing cX0_isComing 2 (some .boolean), Cond.fieldLink RX0 28 "AlmsKernel" "pages" "[I", Cond.fieldLink RX0 31 "AlmsKernel" "there" "[Z", Cond.methodLink RX0 102 yX0_isFrame, Cond.static yX0_isFrame, Cond.code yX0_isFrame cX0_isFrame 1 (some .boolean), Cond.methodLink RX0 115 yX0_dropPage, Cond.instanceMethod yX0_dropPage, Cond.selects RX0 yX0_dropPage yX0_dropPage, Cond.code yX0_dropPage cX0_dropPage 2 none, Cond.fieldLink RX0 66 "AlmsKernel" "chosenFrame" "I", Cond.methodLink RX0 145 yX0_endLoan, Cond.instanceMethod yX0_endLoan, Cond.selects RX0 yX0_endLoan yX0_endLoan]
def wsX0_passTick_r3 : List Cond := [Cond.code yX0_endLoan cX0_endLoan 3 none, Cond.fieldLink RX0 38 "AlmsKernel" "loanFrames" "[I", Cond.fieldLink RX0 22 "AlmsKernel" "owners" "[I", Cond.methodLink RX0 190 yX0_giveAlms, Cond.instanceMethod yX0_giveAlms, Cond.selects RX0 yX0_giveAlms yX0_giveAlms, Cond.code yX0_giveAlms cX0_giveAlms 3 none, Cond.methodLink RX0 202 yX0_richestGiver, Cond.instanceMethod yX0_richestGiver, Cond.selects RX0 yX0_richestGiver yX0_richestGiver, Cond.code yX0_richestGiver cX0_richestGiver 4 (some .int), Cond.methodLink RX0 193 yX0_moveDisk, Cond.instanceMethod yX0_moveDisk, Cond.selects RX0 yX0_moveDisk yX0_moveDisk, Cond.code yX0_moveDisk cX0_moveDisk 2 none, Cond.fieldLink RX0 63 "AlmsKernel" "headTrack" "I", Cond.methodLink RX0 209 yX0_nearestRequest, Cond.instanceMethod yX0_nearestRequest, Cond.selects RX0 yX0_nearestRequest yX0_nearestRequest, Cond.code yX0_nearestRequest cX0_nearestRequest 7 (some .int), Cond.methodLink RX0 215 Lib.Math.abs.name, Cond.static Lib.Math.abs.name, Cond.initialized "java/lang/Math", Cond.code Lib.Math.abs.name Lib.Math.abs.code 1 (some .int)]
def wsX0_passTick_r4 : List Cond := [Cond.methodLink RX0 206 yX0_trackOf, Cond.instanceMethod yX0_trackOf, Cond.selects RX0 yX0_trackOf yX0_trackOf, Cond.code yX0_trackOf cX0_trackOf 2 (some .int), Cond.methodLink RX0 212 yX0_finishRequest, Cond.instanceMethod yX0_finishRequest, Cond.selects RX0 yX0_finishRequest yX0_finishRequest, Cond.code yX0_finishRequest cX0_finishRequest 3 none, Cond.fieldLink RX0 35 "AlmsKernel" "touchTicks" "[I"]
def wsX0_passTick : List Cond := .code yX0_passTick cX0_passTick 1 none :: ((wsX0_passTick_r1 ++ (wsX0_passTick_r2 ++ (wsX0_passTick_r3 ++ wsX0_passTick_r4))) ++ wsX00)
def wsX0_advance_r1 : List Cond := [Cond.classLink RX0 86 "java/lang/IllegalArgumentException", Cond.initialized "java/lang/IllegalArgumentException", Cond.classLink RX0 93 "java/lang/IllegalStateException", Cond.initialized "java/lang/IllegalStateException", Cond.fieldLink RX0 60 "AlmsKernel" "now" "I", Cond.constant RX0 150 (50000), Cond.methodLink RX0 153 yX0_passTick, Cond.instanceMethod yX0_passTick, Cond.selects RX0 yX0_passTick yX0_passTick, Cond.initialized RX0, Cond.code yX0_passTick cX0_passTick 1 none, Cond.methodLink RX0 184 yX0_payWages, Cond.instanceMethod yX0_payWages, Cond.selects RX0 yX0_payWages yX0_payWages, Cond.code yX0_payWages cX0_payWages 2 none, Cond.fieldLink RX0 16 "AlmsKernel" "states" "[I", Cond.fieldLink RX0 13 "AlmsKernel" "purses" "[I", Cond.fieldLink RX0 9 "AlmsKernel" "wages" "[I", Cond.methodLink RX0 187 yX0_chargeLoans, Cond.instanceMethod yX0_chargeLoans, Cond.selects RX0 yX0_chargeLoans yX0_chargeLoans, Cond.code yX0_chargeLoans cX0_chargeLoans 2 none, Cond.fieldLink RX0 53 "AlmsKernel" "loanCount" "I", Cond.fieldLink RX0 47 "AlmsKernel" "lasting" "[Z"]
def wsX0_advance_r2 : List Cond := [Cond.methodLink RX0 196 yX0_charge, Cond.instanceMethod yX0_charge, Cond.selects RX0 yX0_charge yX0_charge, Cond.code yX0_charge cX0_charge 4 none, Cond.fieldLink RX0 44 "AlmsKernel" "borrowers" "[I", Cond.fieldLink RX0 41 "AlmsKernel" "lenders" "[I", Cond.fieldLink RX0 57 "AlmsKernel" "rate" "I", Cond.fieldLink RX0 50 "AlmsKernel" "interests" "[I", Cond.methodLink RX0 75 yX0_isProcess, Cond.static yX0_isProcess, Cond.code yX0_isProcess cX0_isProcess 1 (some .boolean), Cond.methodLink RX0 199 yX0_putToSleep, Cond.instanceMethod yX0_putToSleep, Cond.selects RX0 yX0_putToSleep yX0_putToSleep, Cond.code yX0_putToSleep cX0_putToSleep 3 none, Cond.fieldLink RX0 25 "AlmsKernel" "holders" "[I", Cond.methodLink RX0 140 yX0_isComing, Cond.instanceMethod yX0_isComing, Cond.selects RX0 yX0_isComing yX0_isComing, Cond.code yX0_isComing cX0_isComing 2 (some .boolean), Cond.fieldLink RX0 28 "AlmsKernel" "pages" "[I", Cond.fieldLink RX0 31 "AlmsKernel" "there" "[Z", Cond.methodLink RX0 102 yX0_isFrame, Cond.static yX0_isFrame]
def wsX0_advance_r3 : List Cond := [Cond.code yX0_isFrame cX0_isFrame 1 (some .boolean), Cond.methodLink RX0 115 yX0_dropPage, Cond.instanceMethod yX0_dropPage, Cond.selects RX0 yX0_dropPage yX0_dropPage, Cond.code yX0_dropPage cX0_dropPage 2 none, Cond.fieldLink RX0 66 "AlmsKernel" "chosenFrame" "I", Cond.methodLink RX0 145 yX0_endLoan, Cond.instanceMethod yX0_endLoan, Cond.selects RX0 yX0_endLoan yX0_endLoan, Cond.code yX0_endLoan cX0_endLoan 3 none, Cond.fieldLink RX0 38 "AlmsKernel" "loanFrames" "[I", Cond.fieldLink RX0 22 "AlmsKernel" "owners" "[I", Cond.methodLink RX0 190 yX0_giveAlms, Cond.instanceMethod yX0_giveAlms, Cond.selects RX0 yX0_giveAlms yX0_giveAlms, Cond.code yX0_giveAlms cX0_giveAlms 3 none, Cond.methodLink RX0 202 yX0_richestGiver, Cond.instanceMethod yX0_richestGiver, Cond.selects RX0 yX0_richestGiver yX0_richestGiver, Cond.code yX0_richestGiver cX0_richestGiver 4 (some .int), Cond.methodLink RX0 193 yX0_moveDisk, Cond.instanceMethod yX0_moveDisk, Cond.selects RX0 yX0_moveDisk yX0_moveDisk, Cond.code yX0_moveDisk cX0_moveDisk 2 none]
def wsX0_advance_r4 : List Cond := [Cond.fieldLink RX0 63 "AlmsKernel" "headTrack" "I", Cond.methodLink RX0 209 yX0_nearestRequest, Cond.instanceMethod yX0_nearestRequest, Cond.selects RX0 yX0_nearestRequest yX0_nearestRequest, Cond.code yX0_nearestRequest cX0_nearestRequest 7 (some .int), Cond.methodLink RX0 215 Lib.Math.abs.name, Cond.static Lib.Math.abs.name, Cond.initialized "java/lang/Math", Cond.code Lib.Math.abs.name Lib.Math.abs.code 1 (some .int), Cond.methodLink RX0 206 yX0_trackOf, Cond.instanceMethod yX0_trackOf, Cond.selects RX0 yX0_trackOf yX0_trackOf, Cond.code yX0_trackOf cX0_trackOf 2 (some .int), Cond.methodLink RX0 212 yX0_finishRequest, Cond.instanceMethod yX0_finishRequest, Cond.selects RX0 yX0_finishRequest yX0_finishRequest, Cond.code yX0_finishRequest cX0_finishRequest 3 none, Cond.fieldLink RX0 35 "AlmsKernel" "touchTicks" "[I"]
def wsX0_advance : List Cond := .code yX0_advance cX0_advance 3 (some .int) :: ((wsX0_advance_r1 ++ (wsX0_advance_r2 ++ (wsX0_advance_r3 ++ wsX0_advance_r4))) ++ wsX00 ++ (vx_atS RX0 90 "java/lang/IllegalArgumentException" ["java/lang/RuntimeException", "java/lang/Exception"]).filter goodWord ++ (vx_atS RX0 97 "java/lang/IllegalStateException" ["java/lang/RuntimeException", "java/lang/Exception"]).filter goodWord)
def wsX0_tick : List Cond := .code yX0_tick cX0_tick 1 (some .int) :: ([.fieldLink RX0 60 "AlmsKernel" "now" "I"] ++ wsX00)
def wsX0_owner : List Cond := .code yX0_owner cX0_owner 2 (some .int) :: ([.classLink RX0 79 "java/lang/IndexOutOfBoundsException", .initialized "java/lang/IndexOutOfBoundsException", .fieldLink RX0 22 "AlmsKernel" "owners" "[I", .methodLink RX0 102 yX0_isFrame, .static yX0_isFrame, .initialized RX0, .code yX0_isFrame cX0_isFrame 1 (some .boolean)] ++ wsX00 ++ (vx_atS RX0 83 "java/lang/IndexOutOfBoundsException" ["java/lang/RuntimeException", "java/lang/Exception"]).filter goodWord)
def wsX0_holder : List Cond := .code yX0_holder cX0_holder 2 (some .int) :: ([.classLink RX0 79 "java/lang/IndexOutOfBoundsException", .initialized "java/lang/IndexOutOfBoundsException", .fieldLink RX0 25 "AlmsKernel" "holders" "[I", .methodLink RX0 102 yX0_isFrame, .static yX0_isFrame, .initialized RX0, .code yX0_isFrame cX0_isFrame 1 (some .boolean)] ++ wsX00 ++ (vx_atS RX0 83 "java/lang/IndexOutOfBoundsException" ["java/lang/RuntimeException", "java/lang/Exception"]).filter goodWord)
def wsX0_holderByLog : List Cond := .code yX0_holderByLog cX0_holderByLog 3 (some .int) :: ([.classLink RX0 79 "java/lang/IndexOutOfBoundsException", .initialized "java/lang/IndexOutOfBoundsException", .fieldLink RX0 53 "AlmsKernel" "loanCount" "I", .fieldLink RX0 47 "AlmsKernel" "lasting" "[Z", .fieldLink RX0 38 "AlmsKernel" "loanFrames" "[I", .fieldLink RX0 44 "AlmsKernel" "borrowers" "[I", .fieldLink RX0 22 "AlmsKernel" "owners" "[I", .methodLink RX0 102 yX0_isFrame, .static yX0_isFrame, .initialized RX0, .code yX0_isFrame cX0_isFrame 1 (some .boolean)] ++ wsX00 ++ (vx_atS RX0 83 "java/lang/IndexOutOfBoundsException" ["java/lang/RuntimeException", "java/lang/Exception"]).filter goodWord)
def wsX0_pageIn : List Cond := .code yX0_pageIn cX0_pageIn 2 (some .int) :: ([.classLink RX0 79 "java/lang/IndexOutOfBoundsException", .initialized "java/lang/IndexOutOfBoundsException", .fieldLink RX0 28 "AlmsKernel" "pages" "[I", .methodLink RX0 102 yX0_isFrame, .static yX0_isFrame, .initialized RX0, .code yX0_isFrame cX0_isFrame 1 (some .boolean)] ++ wsX00 ++ (vx_atS RX0 83 "java/lang/IndexOutOfBoundsException" ["java/lang/RuntimeException", "java/lang/Exception"]).filter goodWord)
def wsX0_age : List Cond := .code yX0_age cX0_age 2 (some .int) :: ([.classLink RX0 79 "java/lang/IndexOutOfBoundsException", .initialized "java/lang/IndexOutOfBoundsException", .methodLink RX0 102 yX0_isFrame, .static yX0_isFrame, .initialized RX0, .code yX0_isFrame cX0_isFrame 1 (some .boolean), .methodLink RX0 156 yX0_ageOf, .instanceMethod yX0_ageOf, .selects RX0 yX0_ageOf yX0_ageOf, .code yX0_ageOf cX0_ageOf 2 (some .int), .fieldLink RX0 31 "AlmsKernel" "there" "[Z", .fieldLink RX0 60 "AlmsKernel" "now" "I", .fieldLink RX0 35 "AlmsKernel" "touchTicks" "[I"] ++ wsX00 ++ (vx_atS RX0 83 "java/lang/IndexOutOfBoundsException" ["java/lang/RuntimeException", "java/lang/Exception"]).filter goodWord)
def wsX0_free : List Cond := .code yX0_free cX0_free 3 (some .int) :: ([.fieldLink RX0 22 "AlmsKernel" "owners" "[I"] ++ wsX00)
def wsX0_owns : List Cond := .code yX0_owns cX0_owns 4 (some .int) :: ([.classLink RX0 79 "java/lang/IndexOutOfBoundsException", .initialized "java/lang/IndexOutOfBoundsException", .fieldLink RX0 22 "AlmsKernel" "owners" "[I", .methodLink RX0 75 yX0_isProcess, .static yX0_isProcess, .initialized RX0, .code yX0_isProcess cX0_isProcess 1 (some .boolean)] ++ wsX00 ++ (vx_atS RX0 83 "java/lang/IndexOutOfBoundsException" ["java/lang/RuntimeException", "java/lang/Exception"]).filter goodWord)
def wsX0_borrowed : List Cond := .code yX0_borrowed cX0_borrowed 2 (some .int) :: ([.classLink RX0 79 "java/lang/IndexOutOfBoundsException", .initialized "java/lang/IndexOutOfBoundsException", .methodLink RX0 75 yX0_isProcess, .static yX0_isProcess, .initialized RX0, .code yX0_isProcess cX0_isProcess 1 (some .boolean), .methodLink RX0 159 yX0_countBorrowed, .instanceMethod yX0_countBorrowed, .selects RX0 yX0_countBorrowed yX0_countBorrowed, .code yX0_countBorrowed cX0_countBorrowed 4 (some .int), .fieldLink RX0 25 "AlmsKernel" "holders" "[I", .fieldLink RX0 22 "AlmsKernel" "owners" "[I"] ++ wsX00 ++ (vx_atS RX0 83 "java/lang/IndexOutOfBoundsException" ["java/lang/RuntimeException", "java/lang/Exception"]).filter goodWord)
def wsX0_lent : List Cond := .code yX0_lent cX0_lent 4 (some .int) :: ([.classLink RX0 79 "java/lang/IndexOutOfBoundsException", .initialized "java/lang/IndexOutOfBoundsException", .fieldLink RX0 22 "AlmsKernel" "owners" "[I", .fieldLink RX0 25 "AlmsKernel" "holders" "[I", .methodLink RX0 75 yX0_isProcess, .static yX0_isProcess, .initialized RX0, .code yX0_isProcess cX0_isProcess 1 (some .boolean)] ++ wsX00 ++ (vx_atS RX0 83 "java/lang/IndexOutOfBoundsException" ["java/lang/RuntimeException", "java/lang/Exception"]).filter goodWord)
def wsX0_stateOf : List Cond := .code yX0_stateOf cX0_stateOf 2 (some .int) :: ([.classLink RX0 79 "java/lang/IndexOutOfBoundsException", .initialized "java/lang/IndexOutOfBoundsException", .fieldLink RX0 16 "AlmsKernel" "states" "[I", .methodLink RX0 75 yX0_isProcess, .static yX0_isProcess, .initialized RX0, .code yX0_isProcess cX0_isProcess 1 (some .boolean)] ++ wsX00 ++ (vx_atS RX0 83 "java/lang/IndexOutOfBoundsException" ["java/lang/RuntimeException", "java/lang/Exception"]).filter goodWord)
def wsX0_purse : List Cond := .code yX0_purse cX0_purse 2 (some .int) :: ([.classLink RX0 79 "java/lang/IndexOutOfBoundsException", .initialized "java/lang/IndexOutOfBoundsException", .fieldLink RX0 13 "AlmsKernel" "purses" "[I", .methodLink RX0 75 yX0_isProcess, .static yX0_isProcess, .initialized RX0, .code yX0_isProcess cX0_isProcess 1 (some .boolean)] ++ wsX00 ++ (vx_atS RX0 83 "java/lang/IndexOutOfBoundsException" ["java/lang/RuntimeException", "java/lang/Exception"]).filter goodWord)
def wsX0_faults : List Cond := .code yX0_faults cX0_faults 2 (some .int) :: ([.classLink RX0 79 "java/lang/IndexOutOfBoundsException", .initialized "java/lang/IndexOutOfBoundsException", .fieldLink RX0 19 "AlmsKernel" "faultCounts" "[I", .methodLink RX0 75 yX0_isProcess, .static yX0_isProcess, .initialized RX0, .code yX0_isProcess cX0_isProcess 1 (some .boolean)] ++ wsX00 ++ (vx_atS RX0 83 "java/lang/IndexOutOfBoundsException" ["java/lang/RuntimeException", "java/lang/Exception"]).filter goodWord)
def wsX0_loans : List Cond := .code yX0_loans cX0_loans 1 (some .int) :: ([.fieldLink RX0 53 "AlmsKernel" "loanCount" "I"] ++ wsX00)
def wsX0_lasts : List Cond := .code yX0_lasts cX0_lasts 2 (some .boolean) :: ([.classLink RX0 79 "java/lang/IndexOutOfBoundsException", .initialized "java/lang/IndexOutOfBoundsException", .fieldLink RX0 47 "AlmsKernel" "lasting" "[Z", .methodLink RX0 135 yX0_isLoan, .instanceMethod yX0_isLoan, .selects RX0 yX0_isLoan yX0_isLoan, .initialized RX0, .code yX0_isLoan cX0_isLoan 2 (some .boolean), .fieldLink RX0 53 "AlmsKernel" "loanCount" "I"] ++ wsX00 ++ (vx_atS RX0 83 "java/lang/IndexOutOfBoundsException" ["java/lang/RuntimeException", "java/lang/Exception"]).filter goodWord)
def wsX0_partiesOf : List Cond := .code yX0_partiesOf cX0_partiesOf 2 (some .int) :: ([.classLink RX0 79 "java/lang/IndexOutOfBoundsException", .initialized "java/lang/IndexOutOfBoundsException", .fieldLink RX0 38 "AlmsKernel" "loanFrames" "[I", .fieldLink RX0 41 "AlmsKernel" "lenders" "[I", .fieldLink RX0 44 "AlmsKernel" "borrowers" "[I", .methodLink RX0 135 yX0_isLoan, .instanceMethod yX0_isLoan, .selects RX0 yX0_isLoan yX0_isLoan, .initialized RX0, .code yX0_isLoan cX0_isLoan 2 (some .boolean), .fieldLink RX0 53 "AlmsKernel" "loanCount" "I"] ++ wsX00 ++ (vx_atS RX0 83 "java/lang/IndexOutOfBoundsException" ["java/lang/RuntimeException", "java/lang/Exception"]).filter goodWord)
def wsX0_interest : List Cond := .code yX0_interest cX0_interest 2 (some .int) :: ([.classLink RX0 79 "java/lang/IndexOutOfBoundsException", .initialized "java/lang/IndexOutOfBoundsException", .fieldLink RX0 50 "AlmsKernel" "interests" "[I", .methodLink RX0 135 yX0_isLoan, .instanceMethod yX0_isLoan, .selects RX0 yX0_isLoan yX0_isLoan, .initialized RX0, .code yX0_isLoan cX0_isLoan 2 (some .boolean), .fieldLink RX0 53 "AlmsKernel" "loanCount" "I"] ++ wsX00 ++ (vx_atS RX0 83 "java/lang/IndexOutOfBoundsException" ["java/lang/RuntimeException", "java/lang/Exception"]).filter goodWord)
def wsX0_head : List Cond := .code yX0_head cX0_head 1 (some .int) :: ([.fieldLink RX0 63 "AlmsKernel" "headTrack" "I"] ++ wsX00)
def wsX0_requests : List Cond := .code yX0_requests cX0_requests 3 (some .int) :: ([.methodLink RX0 140 yX0_isComing, .instanceMethod yX0_isComing, .selects RX0 yX0_isComing yX0_isComing, .initialized RX0, .code yX0_isComing cX0_isComing 2 (some .boolean), .fieldLink RX0 28 "AlmsKernel" "pages" "[I", .fieldLink RX0 31 "AlmsKernel" "there" "[Z", .methodLink RX0 102 yX0_isFrame, .static yX0_isFrame, .code yX0_isFrame cX0_isFrame 1 (some .boolean)] ++ wsX00)
def wsX0_isRequested : List Cond := .code yX0_isRequested cX0_isRequested 3 (some .boolean) :: ([.methodLink RX0 140 yX0_isComing, .instanceMethod yX0_isComing, .selects RX0 yX0_isComing yX0_isComing, .initialized RX0, .code yX0_isComing cX0_isComing 2 (some .boolean), .fieldLink RX0 28 "AlmsKernel" "pages" "[I", .fieldLink RX0 31 "AlmsKernel" "there" "[Z", .methodLink RX0 102 yX0_isFrame, .static yX0_isFrame, .code yX0_isFrame cX0_isFrame 1 (some .boolean), .methodLink RX0 206 yX0_trackOf, .instanceMethod yX0_trackOf, .selects RX0 yX0_trackOf yX0_trackOf, .code yX0_trackOf cX0_trackOf 2 (some .int), .fieldLink RX0 25 "AlmsKernel" "holders" "[I"] ++ wsX00)
def wsX0_requestAt : List Cond := .code yX0_requestAt cX0_requestAt 4 (some .int) :: ([.classLink RX0 79 "java/lang/IndexOutOfBoundsException", .initialized "java/lang/IndexOutOfBoundsException", .methodLink RX0 164 yX0_isRequested, .instanceMethod yX0_isRequested, .selects RX0 yX0_isRequested yX0_isRequested, .initialized RX0, .code yX0_isRequested cX0_isRequested 3 (some .boolean), .methodLink RX0 140 yX0_isComing, .instanceMethod yX0_isComing, .selects RX0 yX0_isComing yX0_isComing, .code yX0_isComing cX0_isComing 2 (some .boolean), .fieldLink RX0 28 "AlmsKernel" "pages" "[I", .fieldLink RX0 31 "AlmsKernel" "there" "[Z", .methodLink RX0 102 yX0_isFrame, .static yX0_isFrame, .code yX0_isFrame cX0_isFrame 1 (some .boolean), .methodLink RX0 206 yX0_trackOf, .instanceMethod yX0_trackOf, .selects RX0 yX0_trackOf yX0_trackOf, .code yX0_trackOf cX0_trackOf 2 (some .int), .fieldLink RX0 25 "AlmsKernel" "holders" "[I"] ++ wsX00 ++ (vx_atS RX0 83 "java/lang/IndexOutOfBoundsException" ["java/lang/RuntimeException", "java/lang/Exception"]).filter goodWord)
def wsX1_init : List Cond := .code yX1_init cX1_init 2 none :: ([.methodLink RX1 1 objectInit, .instanceMethod objectInit, .code objectInit ⟨#[0xb1]⟩ 1 none, .fieldLink RX1 7 "AlmsKernelModel" "rate" "I", .arrayClass .int, .fieldLink RX1 13 "AlmsKernelModel" "owners" "[I", .fieldLink RX1 17 "AlmsKernelModel" "pages" "[I", .arrayClass .boolean, .fieldLink RX1 20 "AlmsKernelModel" "isThere" "[Z", .fieldLink RX1 24 "AlmsKernelModel" "touched" "[I", .fieldLink RX1 27 "AlmsKernelModel" "lentBy" "[I", .fieldLink RX1 30 "AlmsKernelModel" "wages" "[I", .fieldLink RX1 33 "AlmsKernelModel" "purses" "[I", .fieldLink RX1 36 "AlmsKernelModel" "states" "[I", .fieldLink RX1 39 "AlmsKernelModel" "faults" "[I", .fieldLink RX1 42 "AlmsKernelModel" "loanFrames" "[I", .fieldLink RX1 45 "AlmsKernelModel" "lenders" "[I", .fieldLink RX1 48 "AlmsKernelModel" "borrowers" "[I", .fieldLink RX1 51 "AlmsKernelModel" "interests" "[I", .fieldLink RX1 54 "AlmsKernelModel" "chosen" "I"] ++ wsX10)
def wsX1_thrown : List Cond := .code yX1_thrown cX1_thrown 1 (some .int) :: ([.fieldLink RX1 57 "AlmsKernelModel" "thrown" "I"] ++ wsX10)
def wsX1_goes : List Cond := .code yX1_goes cX1_goes 2 (some .boolean) :: ([.fieldLink RX1 57 "AlmsKernelModel" "thrown" "I"] ++ wsX10)
def wsX1_isIn : List Cond := .code yX1_isIn cX1_isIn 3 (some .boolean) :: ([])
def wsX1_isProcess : List Cond := .code yX1_isProcess cX1_isProcess 1 (some .boolean) :: ([.methodLink RX1 60 yX1_isIn, .static yX1_isIn, .initialized RX1, .code yX1_isIn cX1_isIn 3 (some .boolean)])
def wsX1_isFrame : List Cond := .code yX1_isFrame cX1_isFrame 1 (some .boolean) :: ([.methodLink RX1 60 yX1_isIn, .static yX1_isIn, .initialized RX1, .code yX1_isIn cX1_isIn 3 (some .boolean)])
def wsX1_isLoan : List Cond := .code yX1_isLoan cX1_isLoan 2 (some .boolean) :: ([.fieldLink RX1 64 "AlmsKernelModel" "loans" "I", .methodLink RX1 60 yX1_isIn, .static yX1_isIn, .initialized RX1, .code yX1_isIn cX1_isIn 3 (some .boolean)] ++ wsX10)
def wsX1_holderOf : List Cond := .code yX1_holderOf cX1_holderOf 2 (some .int) :: ([.fieldLink RX1 27 "AlmsKernelModel" "lentBy" "[I", .fieldLink RX1 13 "AlmsKernelModel" "owners" "[I", .fieldLink RX1 48 "AlmsKernelModel" "borrowers" "[I"] ++ wsX10)
def wsX1_isEmpty : List Cond := .code yX1_isEmpty cX1_isEmpty 2 (some .boolean) :: ([.fieldLink RX1 17 "AlmsKernelModel" "pages" "[I"] ++ wsX10)
def wsX1_isComing : List Cond := .code yX1_isComing cX1_isComing 2 (some .boolean) :: ([.fieldLink RX1 17 "AlmsKernelModel" "pages" "[I", .fieldLink RX1 20 "AlmsKernelModel" "isThere" "[Z"] ++ wsX10)
def wsX1_hasPage : List Cond := .code yX1_hasPage cX1_hasPage 2 (some .boolean) :: ([.fieldLink RX1 17 "AlmsKernelModel" "pages" "[I", .fieldLink RX1 20 "AlmsKernelModel" "isThere" "[Z"] ++ wsX10)
def wsX1_ageOf : List Cond := .code yX1_ageOf cX1_ageOf 2 (some .int) :: ([.fieldLink RX1 71 "AlmsKernelModel" "tick" "I", .fieldLink RX1 24 "AlmsKernelModel" "touched" "[I", .methodLink RX1 67 yX1_hasPage, .instanceMethod yX1_hasPage, .selects RX1 yX1_hasPage yX1_hasPage, .initialized RX1, .code yX1_hasPage cX1_hasPage 2 (some .boolean), .fieldLink RX1 17 "AlmsKernelModel" "pages" "[I", .fieldLink RX1 20 "AlmsKernelModel" "isThere" "[Z"] ++ wsX10)
def wsX1_doesLast : List Cond := .code yX1_doesLast cX1_doesLast 2 (some .boolean) :: ([.fieldLink RX1 27 "AlmsKernelModel" "lentBy" "[I", .fieldLink RX1 42 "AlmsKernelModel" "loanFrames" "[I"] ++ wsX10)
def wsX1_setWage : List Cond := .code yX1_setWage cX1_setWage 4 (some .int) :: ([.fieldLink RX1 30 "AlmsKernelModel" "wages" "[I", .methodLink RX1 74 yX1_isProcess, .static yX1_isProcess, .initialized RX1, .code yX1_isProcess cX1_isProcess 1 (some .boolean), .methodLink RX1 60 yX1_isIn, .static yX1_isIn, .code yX1_isIn cX1_isIn 3 (some .boolean), .methodLink RX1 77 yX1_goes, .instanceMethod yX1_goes, .selects RX1 yX1_goes yX1_goes, .code yX1_goes cX1_goes 2 (some .boolean), .fieldLink RX1 57 "AlmsKernelModel" "thrown" "I"] ++ wsX10)
def wsX1_setRate : List Cond := .code yX1_setRate cX1_setRate 3 (some .int) :: ([.fieldLink RX1 7 "AlmsKernelModel" "rate" "I", .methodLink RX1 60 yX1_isIn, .static yX1_isIn, .initialized RX1, .code yX1_isIn cX1_isIn 3 (some .boolean), .methodLink RX1 77 yX1_goes, .instanceMethod yX1_goes, .selects RX1 yX1_goes yX1_goes, .code yX1_goes cX1_goes 2 (some .boolean), .fieldLink RX1 57 "AlmsKernelModel" "thrown" "I"] ++ wsX10)
def wsX1_lowestFree : List Cond := .code yX1_lowestFree cX1_lowestFree 3 (some .int) :: ([.fieldLink RX1 13 "AlmsKernelModel" "owners" "[I"] ++ wsX10)
def wsX1_buy : List Cond := .code yX1_buy cX1_buy 3 (some .int) :: ([.fieldLink RX1 36 "AlmsKernelModel" "states" "[I", .fieldLink RX1 33 "AlmsKernelModel" "purses" "[I", .fieldLink RX1 13 "AlmsKernelModel" "owners" "[I", .methodLink RX1 80 yX1_lowestFree, .instanceMethod yX1_lowestFree, .selects RX1 yX1_lowestFree yX1_lowestFree, .initialized RX1, .code yX1_lowestFree cX1_lowestFree 3 (some .int), .methodLink RX1 74 yX1_isProcess, .static yX1_isProcess, .code yX1_isProcess cX1_isProcess 1 (some .boolean), .methodLink RX1 60 yX1_isIn, .static yX1_isIn, .code yX1_isIn cX1_isIn 3 (some .boolean), .methodLink RX1 77 yX1_goes, .instanceMethod yX1_goes, .selects RX1 yX1_goes yX1_goes, .code yX1_goes cX1_goes 2 (some .boolean), .fieldLink RX1 57 "AlmsKernelModel" "thrown" "I"] ++ wsX10)
def wsX1_sell : List Cond := .code yX1_sell cX1_sell 3 (some .int) :: ([.fieldLink RX1 13 "AlmsKernelModel" "owners" "[I", .fieldLink RX1 27 "AlmsKernelModel" "lentBy" "[I", .fieldLink RX1 36 "AlmsKernelModel" "states" "[I", .fieldLink RX1 33 "AlmsKernelModel" "purses" "[I", .methodLink RX1 84 yX1_isFrame, .static yX1_isFrame, .initialized RX1, .code yX1_isFrame cX1_isFrame 1 (some .boolean), .methodLink RX1 60 yX1_isIn, .static yX1_isIn, .code yX1_isIn cX1_isIn 3 (some .boolean), .methodLink RX1 77 yX1_goes, .instanceMethod yX1_goes, .selects RX1 yX1_goes yX1_goes, .code yX1_goes cX1_goes 2 (some .boolean), .fieldLink RX1 57 "AlmsKernelModel" "thrown" "I", .methodLink RX1 87 yX1_isEmpty, .instanceMethod yX1_isEmpty, .selects RX1 yX1_isEmpty yX1_isEmpty, .code yX1_isEmpty cX1_isEmpty 2 (some .boolean), .fieldLink RX1 17 "AlmsKernelModel" "pages" "[I"] ++ wsX10)
def wsX1_drop : List Cond := .code yX1_drop cX1_drop 3 (some .int) :: ([.fieldLink RX1 17 "AlmsKernelModel" "pages" "[I", .methodLink RX1 84 yX1_isFrame, .static yX1_isFrame, .initialized RX1, .code yX1_isFrame cX1_isFrame 1 (some .boolean), .methodLink RX1 60 yX1_isIn, .static yX1_isIn, .code yX1_isIn cX1_isIn 3 (some .boolean), .methodLink RX1 67 yX1_hasPage, .instanceMethod yX1_hasPage, .selects RX1 yX1_hasPage yX1_hasPage, .code yX1_hasPage cX1_hasPage 2 (some .boolean), .fieldLink RX1 20 "AlmsKernelModel" "isThere" "[Z", .methodLink RX1 77 yX1_goes, .instanceMethod yX1_goes, .selects RX1 yX1_goes yX1_goes, .code yX1_goes cX1_goes 2 (some .boolean), .fieldLink RX1 57 "AlmsKernelModel" "thrown" "I"] ++ wsX10)
def wsX1_frameWith : List Cond := .code yX1_frameWith cX1_frameWith 5 (some .int) :: ([.fieldLink RX1 17 "AlmsKernelModel" "pages" "[I", .methodLink RX1 90 yX1_holderOf, .instanceMethod yX1_holderOf, .selects RX1 yX1_holderOf yX1_holderOf, .initialized RX1, .code yX1_holderOf cX1_holderOf 2 (some .int), .fieldLink RX1 27 "AlmsKernelModel" "lentBy" "[I", .fieldLink RX1 13 "AlmsKernelModel" "owners" "[I", .fieldLink RX1 48 "AlmsKernelModel" "borrowers" "[I"] ++ wsX10)
def wsX1_emptyOf : List Cond := .code yX1_emptyOf cX1_emptyOf 4 (some .int) :: ([.methodLink RX1 90 yX1_holderOf, .instanceMethod yX1_holderOf, .selects RX1 yX1_holderOf yX1_holderOf, .initialized RX1, .code yX1_holderOf cX1_holderOf 2 (some .int), .fieldLink RX1 27 "AlmsKernelModel" "lentBy" "[I", .fieldLink RX1 13 "AlmsKernelModel" "owners" "[I", .fieldLink RX1 48 "AlmsKernelModel" "borrowers" "[I", .methodLink RX1 87 yX1_isEmpty, .instanceMethod yX1_isEmpty, .selects RX1 yX1_isEmpty yX1_isEmpty, .code yX1_isEmpty cX1_isEmpty 2 (some .boolean), .fieldLink RX1 17 "AlmsKernelModel" "pages" "[I"] ++ wsX10)
def wsX1_calledIn : List Cond := .code yX1_calledIn cX1_calledIn 4 (some .int) :: ([.fieldLink RX1 64 "AlmsKernelModel" "loans" "I", .fieldLink RX1 45 "AlmsKernelModel" "lenders" "[I", .fieldLink RX1 42 "AlmsKernelModel" "loanFrames" "[I", .methodLink RX1 94 yX1_doesLast, .instanceMethod yX1_doesLast, .selects RX1 yX1_doesLast yX1_doesLast, .initialized RX1, .code yX1_doesLast cX1_doesLast 2 (some .boolean), .fieldLink RX1 27 "AlmsKernelModel" "lentBy" "[I", .methodLink RX1 97 yX1_isComing, .instanceMethod yX1_isComing, .selects RX1 yX1_isComing yX1_isComing, .code yX1_isComing cX1_isComing 2 (some .boolean), .fieldLink RX1 17 "AlmsKernelModel" "pages" "[I", .fieldLink RX1 20 "AlmsKernelModel" "isThere" "[Z"] ++ wsX10)
def wsX1_borrowedBy : List Cond := .code yX1_borrowedBy cX1_borrowedBy 4 (some .int) :: ([.fieldLink RX1 27 "AlmsKernelModel" "lentBy" "[I", .fieldLink RX1 48 "AlmsKernelModel" "borrowers" "[I"] ++ wsX10)
def wsX1_canLend : List Cond := .code yX1_canLend cX1_canLend 4 (some .boolean) :: ([.fieldLink RX1 13 "AlmsKernelModel" "owners" "[I", .fieldLink RX1 27 "AlmsKernelModel" "lentBy" "[I", .methodLink RX1 87 yX1_isEmpty, .instanceMethod yX1_isEmpty, .selects RX1 yX1_isEmpty yX1_isEmpty, .initialized RX1, .code yX1_isEmpty cX1_isEmpty 2 (some .boolean), .fieldLink RX1 17 "AlmsKernelModel" "pages" "[I", .methodLink RX1 100 yX1_ageOf, .instanceMethod yX1_ageOf, .selects RX1 yX1_ageOf yX1_ageOf, .code yX1_ageOf cX1_ageOf 2 (some .int), .fieldLink RX1 71 "AlmsKernelModel" "tick" "I", .fieldLink RX1 24 "AlmsKernelModel" "touched" "[I", .methodLink RX1 67 yX1_hasPage, .instanceMethod yX1_hasPage, .selects RX1 yX1_hasPage yX1_hasPage, .code yX1_hasPage cX1_hasPage 2 (some .boolean), .fieldLink RX1 20 "AlmsKernelModel" "isThere" "[Z"] ++ wsX10)
def wsX1_isLender : List Cond := .code yX1_isLender cX1_isLender 4 (some .boolean) :: ([.methodLink RX1 103 yX1_canLend, .instanceMethod yX1_canLend, .selects RX1 yX1_canLend yX1_canLend, .initialized RX1, .code yX1_canLend cX1_canLend 4 (some .boolean), .fieldLink RX1 13 "AlmsKernelModel" "owners" "[I", .fieldLink RX1 27 "AlmsKernelModel" "lentBy" "[I", .methodLink RX1 87 yX1_isEmpty, .instanceMethod yX1_isEmpty, .selects RX1 yX1_isEmpty yX1_isEmpty, .code yX1_isEmpty cX1_isEmpty 2 (some .boolean), .fieldLink RX1 17 "AlmsKernelModel" "pages" "[I", .methodLink RX1 100 yX1_ageOf, .instanceMethod yX1_ageOf, .selects RX1 yX1_ageOf yX1_ageOf, .code yX1_ageOf cX1_ageOf 2 (some .int), .fieldLink RX1 71 "AlmsKernelModel" "tick" "I", .fieldLink RX1 24 "AlmsKernelModel" "touched" "[I", .methodLink RX1 67 yX1_hasPage, .instanceMethod yX1_hasPage, .selects RX1 yX1_hasPage yX1_hasPage, .code yX1_hasPage cX1_hasPage 2 (some .boolean), .fieldLink RX1 20 "AlmsKernelModel" "isThere" "[Z"] ++ wsX10)
def wsX1_lenderFor_r1 : List Cond := [Cond.fieldLink RX1 33 "AlmsKernelModel" "purses" "[I", Cond.methodLink RX1 107 yX1_isLender, Cond.instanceMethod yX1_isLender, Cond.selects RX1 yX1_isLender yX1_isLender, Cond.initialized RX1, Cond.code yX1_isLender cX1_isLender 4 (some .boolean), Cond.methodLink RX1 103 yX1_canLend, Cond.instanceMethod yX1_canLend, Cond.selects RX1 yX1_canLend yX1_canLend, Cond.code yX1_canLend cX1_canLend 4 (some .boolean), Cond.fieldLink RX1 13 "AlmsKernelModel" "owners" "[I", Cond.fieldLink RX1 27 "AlmsKernelModel" "lentBy" "[I", Cond.methodLink RX1 87 yX1_isEmpty, Cond.instanceMethod yX1_isEmpty, Cond.selects RX1 yX1_isEmpty yX1_isEmpty, Cond.code yX1_isEmpty cX1_isEmpty 2 (some .boolean), Cond.fieldLink RX1 17 "AlmsKernelModel" "pages" "[I", Cond.methodLink RX1 100 yX1_ageOf, Cond.instanceMethod yX1_ageOf, Cond.selects RX1 yX1_ageOf yX1_ageOf, Cond.code yX1_ageOf cX1_ageOf 2 (some .int), Cond.fieldLink RX1 71 "AlmsKernelModel" "tick" "I", Cond.fieldLink RX1 24 "AlmsKernelModel" "touched" "[I", Cond.methodLink RX1 67 yX1_hasPage]
def wsX1_lenderFor_r2 : List Cond := [Cond.instanceMethod yX1_hasPage, Cond.selects RX1 yX1_hasPage yX1_hasPage, Cond.code yX1_hasPage cX1_hasPage 2 (some .boolean), Cond.fieldLink RX1 20 "AlmsKernelModel" "isThere" "[Z"]
def wsX1_lenderFor : List Cond := .code yX1_lenderFor cX1_lenderFor 5 (some .int) :: ((wsX1_lenderFor_r1 ++ wsX1_lenderFor_r2) ++ wsX10)
def wsX1_worth : List Cond := .code yX1_worth cX1_worth 2 (some .int) :: ([.constant RX1 110 (50001), .methodLink RX1 87 yX1_isEmpty, .instanceMethod yX1_isEmpty, .selects RX1 yX1_isEmpty yX1_isEmpty, .initialized RX1, .code yX1_isEmpty cX1_isEmpty 2 (some .boolean), .fieldLink RX1 17 "AlmsKernelModel" "pages" "[I", .methodLink RX1 100 yX1_ageOf, .instanceMethod yX1_ageOf, .selects RX1 yX1_ageOf yX1_ageOf, .code yX1_ageOf cX1_ageOf 2 (some .int), .fieldLink RX1 71 "AlmsKernelModel" "tick" "I", .fieldLink RX1 24 "AlmsKernelModel" "touched" "[I", .methodLink RX1 67 yX1_hasPage, .instanceMethod yX1_hasPage, .selects RX1 yX1_hasPage yX1_hasPage, .code yX1_hasPage cX1_hasPage 2 (some .boolean), .fieldLink RX1 20 "AlmsKernelModel" "isThere" "[Z"] ++ wsX10)
def wsX1_frameOf_r1 : List Cond := [Cond.methodLink RX1 103 yX1_canLend, Cond.instanceMethod yX1_canLend, Cond.selects RX1 yX1_canLend yX1_canLend, Cond.initialized RX1, Cond.code yX1_canLend cX1_canLend 4 (some .boolean), Cond.fieldLink RX1 13 "AlmsKernelModel" "owners" "[I", Cond.fieldLink RX1 27 "AlmsKernelModel" "lentBy" "[I", Cond.methodLink RX1 87 yX1_isEmpty, Cond.instanceMethod yX1_isEmpty, Cond.selects RX1 yX1_isEmpty yX1_isEmpty, Cond.code yX1_isEmpty cX1_isEmpty 2 (some .boolean), Cond.fieldLink RX1 17 "AlmsKernelModel" "pages" "[I", Cond.methodLink RX1 100 yX1_ageOf, Cond.instanceMethod yX1_ageOf, Cond.selects RX1 yX1_ageOf yX1_ageOf, Cond.code yX1_ageOf cX1_ageOf 2 (some .int), Cond.fieldLink RX1 71 "AlmsKernelModel" "tick" "I", Cond.fieldLink RX1 24 "AlmsKernelModel" "touched" "[I", Cond.methodLink RX1 67 yX1_hasPage, Cond.instanceMethod yX1_hasPage, Cond.selects RX1 yX1_hasPage yX1_hasPage, Cond.code yX1_hasPage cX1_hasPage 2 (some .boolean), Cond.fieldLink RX1 20 "AlmsKernelModel" "isThere" "[Z", Cond.methodLink RX1 111 yX1_worth]
def wsX1_frameOf_r2 : List Cond := [Cond.instanceMethod yX1_worth, Cond.selects RX1 yX1_worth yX1_worth, Cond.code yX1_worth cX1_worth 2 (some .int), Cond.constant RX1 110 (50001)]
def wsX1_frameOf : List Cond := .code yX1_frameOf cX1_frameOf 4 (some .int) :: ((wsX1_frameOf_r1 ++ wsX1_frameOf_r2) ++ wsX10)
def wsX1_oldestOf : List Cond := .code yX1_oldestOf cX1_oldestOf 5 (some .int) :: ([.methodLink RX1 90 yX1_holderOf, .instanceMethod yX1_holderOf, .selects RX1 yX1_holderOf yX1_holderOf, .initialized RX1, .code yX1_holderOf cX1_holderOf 2 (some .int), .fieldLink RX1 27 "AlmsKernelModel" "lentBy" "[I", .fieldLink RX1 13 "AlmsKernelModel" "owners" "[I", .fieldLink RX1 48 "AlmsKernelModel" "borrowers" "[I", .methodLink RX1 67 yX1_hasPage, .instanceMethod yX1_hasPage, .selects RX1 yX1_hasPage yX1_hasPage, .code yX1_hasPage cX1_hasPage 2 (some .boolean), .fieldLink RX1 17 "AlmsKernelModel" "pages" "[I", .fieldLink RX1 20 "AlmsKernelModel" "isThere" "[Z", .methodLink RX1 100 yX1_ageOf, .instanceMethod yX1_ageOf, .selects RX1 yX1_ageOf yX1_ageOf, .code yX1_ageOf cX1_ageOf 2 (some .int), .fieldLink RX1 71 "AlmsKernelModel" "tick" "I", .fieldLink RX1 24 "AlmsKernelModel" "touched" "[I"] ++ wsX10)
def wsX1_ends : List Cond := .code yX1_ends cX1_ends 3 none :: ([.fieldLink RX1 42 "AlmsKernelModel" "loanFrames" "[I", .fieldLink RX1 27 "AlmsKernelModel" "lentBy" "[I", .fieldLink RX1 17 "AlmsKernelModel" "pages" "[I"] ++ wsX10)
def wsX1_lends : List Cond := .code yX1_lends cX1_lends 3 none :: ([.fieldLink RX1 42 "AlmsKernelModel" "loanFrames" "[I", .fieldLink RX1 64 "AlmsKernelModel" "loans" "I", .fieldLink RX1 45 "AlmsKernelModel" "lenders" "[I", .fieldLink RX1 13 "AlmsKernelModel" "owners" "[I", .fieldLink RX1 48 "AlmsKernelModel" "borrowers" "[I", .fieldLink RX1 51 "AlmsKernelModel" "interests" "[I", .fieldLink RX1 27 "AlmsKernelModel" "lentBy" "[I"] ++ wsX10)
def wsX1_frameFor_r1 : List Cond := [Cond.fieldLink RX1 42 "AlmsKernelModel" "loanFrames" "[I", Cond.fieldLink RX1 33 "AlmsKernelModel" "purses" "[I", Cond.fieldLink RX1 7 "AlmsKernelModel" "rate" "I", Cond.fieldLink RX1 64 "AlmsKernelModel" "loans" "I", Cond.methodLink RX1 114 yX1_emptyOf, Cond.instanceMethod yX1_emptyOf, Cond.selects RX1 yX1_emptyOf yX1_emptyOf, Cond.initialized RX1, Cond.code yX1_emptyOf cX1_emptyOf 4 (some .int), Cond.methodLink RX1 90 yX1_holderOf, Cond.instanceMethod yX1_holderOf, Cond.selects RX1 yX1_holderOf yX1_holderOf, Cond.code yX1_holderOf cX1_holderOf 2 (some .int), Cond.fieldLink RX1 27 "AlmsKernelModel" "lentBy" "[I", Cond.fieldLink RX1 13 "AlmsKernelModel" "owners" "[I", Cond.fieldLink RX1 48 "AlmsKernelModel" "borrowers" "[I", Cond.methodLink RX1 87 yX1_isEmpty, Cond.instanceMethod yX1_isEmpty, Cond.selects RX1 yX1_isEmpty yX1_isEmpty, Cond.code yX1_isEmpty cX1_isEmpty 2 (some .boolean), Cond.fieldLink RX1 17 "AlmsKernelModel" "pages" "[I", Cond.methodLink RX1 117 yX1_calledIn, Cond.instanceMethod yX1_calledIn, Cond.selects RX1 yX1_calledIn yX1_calledIn]
def wsX1_frameFor_r2 : List Cond := [Cond.code yX1_calledIn cX1_calledIn 4 (some .int), Cond.fieldLink RX1 45 "AlmsKernelModel" "lenders" "[I", Cond.methodLink RX1 94 yX1_doesLast, Cond.instanceMethod yX1_doesLast, Cond.selects RX1 yX1_doesLast yX1_doesLast, Cond.code yX1_doesLast cX1_doesLast 2 (some .boolean), Cond.methodLink RX1 97 yX1_isComing, Cond.instanceMethod yX1_isComing, Cond.selects RX1 yX1_isComing yX1_isComing, Cond.code yX1_isComing cX1_isComing 2 (some .boolean), Cond.fieldLink RX1 20 "AlmsKernelModel" "isThere" "[Z", Cond.methodLink RX1 120 yX1_ends, Cond.instanceMethod yX1_ends, Cond.selects RX1 yX1_ends yX1_ends, Cond.code yX1_ends cX1_ends 3 none, Cond.methodLink RX1 124 yX1_borrowedBy, Cond.instanceMethod yX1_borrowedBy, Cond.selects RX1 yX1_borrowedBy yX1_borrowedBy, Cond.code yX1_borrowedBy cX1_borrowedBy 4 (some .int), Cond.methodLink RX1 127 yX1_lenderFor, Cond.instanceMethod yX1_lenderFor, Cond.selects RX1 yX1_lenderFor yX1_lenderFor, Cond.code yX1_lenderFor cX1_lenderFor 5 (some .int), Cond.methodLink RX1 107 yX1_isLender]
def wsX1_frameFor_r3 : List Cond := [Cond.instanceMethod yX1_isLender, Cond.selects RX1 yX1_isLender yX1_isLender, Cond.code yX1_isLender cX1_isLender 4 (some .boolean), Cond.methodLink RX1 103 yX1_canLend, Cond.instanceMethod yX1_canLend, Cond.selects RX1 yX1_canLend yX1_canLend, Cond.code yX1_canLend cX1_canLend 4 (some .boolean), Cond.methodLink RX1 100 yX1_ageOf, Cond.instanceMethod yX1_ageOf, Cond.selects RX1 yX1_ageOf yX1_ageOf, Cond.code yX1_ageOf cX1_ageOf 2 (some .int), Cond.fieldLink RX1 71 "AlmsKernelModel" "tick" "I", Cond.fieldLink RX1 24 "AlmsKernelModel" "touched" "[I", Cond.methodLink RX1 67 yX1_hasPage, Cond.instanceMethod yX1_hasPage, Cond.selects RX1 yX1_hasPage yX1_hasPage, Cond.code yX1_hasPage cX1_hasPage 2 (some .boolean), Cond.methodLink RX1 130 yX1_oldestOf, Cond.instanceMethod yX1_oldestOf, Cond.selects RX1 yX1_oldestOf yX1_oldestOf, Cond.code yX1_oldestOf cX1_oldestOf 5 (some .int), Cond.methodLink RX1 133 yX1_frameOf, Cond.instanceMethod yX1_frameOf, Cond.selects RX1 yX1_frameOf yX1_frameOf]
def wsX1_frameFor_r4 : List Cond := [Cond.code yX1_frameOf cX1_frameOf 4 (some .int), Cond.methodLink RX1 111 yX1_worth, Cond.instanceMethod yX1_worth, Cond.selects RX1 yX1_worth yX1_worth, Cond.code yX1_worth cX1_worth 2 (some .int), Cond.constant RX1 110 (50001), Cond.methodLink RX1 136 yX1_lends, Cond.instanceMethod yX1_lends, Cond.selects RX1 yX1_lends yX1_lends, Cond.code yX1_lends cX1_lends 3 none, Cond.fieldLink RX1 51 "AlmsKernelModel" "interests" "[I"]
def wsX1_frameFor : List Cond := .code yX1_frameFor cX1_frameFor 5 (some .int) :: ((wsX1_frameFor_r1 ++ (wsX1_frameFor_r2 ++ (wsX1_frameFor_r3 ++ wsX1_frameFor_r4))) ++ wsX10)
def wsX1_touch_r1 : List Cond := [Cond.fieldLink RX1 36 "AlmsKernelModel" "states" "[I", Cond.fieldLink RX1 24 "AlmsKernelModel" "touched" "[I", Cond.fieldLink RX1 71 "AlmsKernelModel" "tick" "I", Cond.fieldLink RX1 17 "AlmsKernelModel" "pages" "[I", Cond.fieldLink RX1 20 "AlmsKernelModel" "isThere" "[Z", Cond.fieldLink RX1 39 "AlmsKernelModel" "faults" "[I", Cond.methodLink RX1 74 yX1_isProcess, Cond.static yX1_isProcess, Cond.initialized RX1, Cond.code yX1_isProcess cX1_isProcess 1 (some .boolean), Cond.methodLink RX1 60 yX1_isIn, Cond.static yX1_isIn, Cond.code yX1_isIn cX1_isIn 3 (some .boolean), Cond.methodLink RX1 77 yX1_goes, Cond.instanceMethod yX1_goes, Cond.selects RX1 yX1_goes yX1_goes, Cond.code yX1_goes cX1_goes 2 (some .boolean), Cond.fieldLink RX1 57 "AlmsKernelModel" "thrown" "I", Cond.methodLink RX1 140 yX1_frameWith, Cond.instanceMethod yX1_frameWith, Cond.selects RX1 yX1_frameWith yX1_frameWith, Cond.code yX1_frameWith cX1_frameWith 5 (some .int), Cond.methodLink RX1 90 yX1_holderOf, Cond.instanceMethod yX1_holderOf]
def wsX1_touch_r2 : List Cond := [Cond.selects RX1 yX1_holderOf yX1_holderOf, Cond.code yX1_holderOf cX1_holderOf 2 (some .int), Cond.fieldLink RX1 27 "AlmsKernelModel" "lentBy" "[I", Cond.fieldLink RX1 13 "AlmsKernelModel" "owners" "[I", Cond.fieldLink RX1 48 "AlmsKernelModel" "borrowers" "[I", Cond.methodLink RX1 144 yX1_frameFor, Cond.instanceMethod yX1_frameFor, Cond.selects RX1 yX1_frameFor yX1_frameFor, Cond.code yX1_frameFor cX1_frameFor 5 (some .int), Cond.fieldLink RX1 42 "AlmsKernelModel" "loanFrames" "[I", Cond.fieldLink RX1 33 "AlmsKernelModel" "purses" "[I", Cond.fieldLink RX1 7 "AlmsKernelModel" "rate" "I", Cond.fieldLink RX1 64 "AlmsKernelModel" "loans" "I", Cond.methodLink RX1 114 yX1_emptyOf, Cond.instanceMethod yX1_emptyOf, Cond.selects RX1 yX1_emptyOf yX1_emptyOf, Cond.code yX1_emptyOf cX1_emptyOf 4 (some .int), Cond.methodLink RX1 87 yX1_isEmpty, Cond.instanceMethod yX1_isEmpty, Cond.selects RX1 yX1_isEmpty yX1_isEmpty, Cond.code yX1_isEmpty cX1_isEmpty 2 (some .boolean), Cond.methodLink RX1 117 yX1_calledIn, Cond.instanceMethod yX1_calledIn, Cond.selects RX1 yX1_calledIn yX1_calledIn]
def wsX1_touch_r3 : List Cond := [Cond.code yX1_calledIn cX1_calledIn 4 (some .int), Cond.fieldLink RX1 45 "AlmsKernelModel" "lenders" "[I", Cond.methodLink RX1 94 yX1_doesLast, Cond.instanceMethod yX1_doesLast, Cond.selects RX1 yX1_doesLast yX1_doesLast, Cond.code yX1_doesLast cX1_doesLast 2 (some .boolean), Cond.methodLink RX1 97 yX1_isComing, Cond.instanceMethod yX1_isComing, Cond.selects RX1 yX1_isComing yX1_isComing, Cond.code yX1_isComing cX1_isComing 2 (some .boolean), Cond.methodLink RX1 120 yX1_ends, Cond.instanceMethod yX1_ends, Cond.selects RX1 yX1_ends yX1_ends, Cond.code yX1_ends cX1_ends 3 none, Cond.methodLink RX1 124 yX1_borrowedBy, Cond.instanceMethod yX1_borrowedBy, Cond.selects RX1 yX1_borrowedBy yX1_borrowedBy, Cond.code yX1_borrowedBy cX1_borrowedBy 4 (some .int), Cond.methodLink RX1 127 yX1_lenderFor, Cond.instanceMethod yX1_lenderFor, Cond.selects RX1 yX1_lenderFor yX1_lenderFor, Cond.code yX1_lenderFor cX1_lenderFor 5 (some .int), Cond.methodLink RX1 107 yX1_isLender, Cond.instanceMethod yX1_isLender]
def wsX1_touch_r4 : List Cond := [Cond.selects RX1 yX1_isLender yX1_isLender, Cond.code yX1_isLender cX1_isLender 4 (some .boolean), Cond.methodLink RX1 103 yX1_canLend, Cond.instanceMethod yX1_canLend, Cond.selects RX1 yX1_canLend yX1_canLend, Cond.code yX1_canLend cX1_canLend 4 (some .boolean), Cond.methodLink RX1 100 yX1_ageOf, Cond.instanceMethod yX1_ageOf, Cond.selects RX1 yX1_ageOf yX1_ageOf, Cond.code yX1_ageOf cX1_ageOf 2 (some .int), Cond.methodLink RX1 67 yX1_hasPage, Cond.instanceMethod yX1_hasPage, Cond.selects RX1 yX1_hasPage yX1_hasPage, Cond.code yX1_hasPage cX1_hasPage 2 (some .boolean), Cond.methodLink RX1 130 yX1_oldestOf, Cond.instanceMethod yX1_oldestOf, Cond.selects RX1 yX1_oldestOf yX1_oldestOf, Cond.code yX1_oldestOf cX1_oldestOf 5 (some .int), Cond.methodLink RX1 133 yX1_frameOf, Cond.instanceMethod yX1_frameOf, Cond.selects RX1 yX1_frameOf yX1_frameOf, Cond.code yX1_frameOf cX1_frameOf 4 (some .int), Cond.methodLink RX1 111 yX1_worth, Cond.instanceMethod yX1_worth]
def wsX1_touch_r5 : List Cond := [Cond.selects RX1 yX1_worth yX1_worth, Cond.code yX1_worth cX1_worth 2 (some .int), Cond.constant RX1 110 (50001), Cond.methodLink RX1 136 yX1_lends, Cond.instanceMethod yX1_lends, Cond.selects RX1 yX1_lends yX1_lends, Cond.code yX1_lends cX1_lends 3 none, Cond.fieldLink RX1 51 "AlmsKernelModel" "interests" "[I"]
def wsX1_touch : List Cond := .code yX1_touch cX1_touch 4 (some .int) :: ((wsX1_touch_r1 ++ (wsX1_touch_r2 ++ (wsX1_touch_r3 ++ (wsX1_touch_r4 ++ wsX1_touch_r5)))) ++ wsX10)
def wsX1_payBack_r1 : List Cond := [Cond.fieldLink RX1 42 "AlmsKernelModel" "loanFrames" "[I", Cond.fieldLink RX1 45 "AlmsKernelModel" "lenders" "[I", Cond.methodLink RX1 147 yX1_isLoan, Cond.instanceMethod yX1_isLoan, Cond.selects RX1 yX1_isLoan yX1_isLoan, Cond.initialized RX1, Cond.code yX1_isLoan cX1_isLoan 2 (some .boolean), Cond.fieldLink RX1 64 "AlmsKernelModel" "loans" "I", Cond.methodLink RX1 60 yX1_isIn, Cond.static yX1_isIn, Cond.code yX1_isIn cX1_isIn 3 (some .boolean), Cond.methodLink RX1 77 yX1_goes, Cond.instanceMethod yX1_goes, Cond.selects RX1 yX1_goes yX1_goes, Cond.code yX1_goes cX1_goes 2 (some .boolean), Cond.fieldLink RX1 57 "AlmsKernelModel" "thrown" "I", Cond.methodLink RX1 94 yX1_doesLast, Cond.instanceMethod yX1_doesLast, Cond.selects RX1 yX1_doesLast yX1_doesLast, Cond.code yX1_doesLast cX1_doesLast 2 (some .boolean), Cond.fieldLink RX1 27 "AlmsKernelModel" "lentBy" "[I", Cond.methodLink RX1 97 yX1_isComing, Cond.instanceMethod yX1_isComing, Cond.selects RX1 yX1_isComing yX1_isComing]
def wsX1_payBack_r2 : List Cond := [Cond.code yX1_isComing cX1_isComing 2 (some .boolean), Cond.fieldLink RX1 17 "AlmsKernelModel" "pages" "[I", Cond.fieldLink RX1 20 "AlmsKernelModel" "isThere" "[Z", Cond.methodLink RX1 120 yX1_ends, Cond.instanceMethod yX1_ends, Cond.selects RX1 yX1_ends yX1_ends, Cond.code yX1_ends cX1_ends 3 none]
def wsX1_payBack : List Cond := .code yX1_payBack cX1_payBack 2 (some .int) :: ((wsX1_payBack_r1 ++ wsX1_payBack_r2) ++ wsX10)
def wsX1_trackOf : List Cond := .code yX1_trackOf cX1_trackOf 2 (some .int) :: ([.fieldLink RX1 17 "AlmsKernelModel" "pages" "[I", .methodLink RX1 90 yX1_holderOf, .instanceMethod yX1_holderOf, .selects RX1 yX1_holderOf yX1_holderOf, .initialized RX1, .code yX1_holderOf cX1_holderOf 2 (some .int), .fieldLink RX1 27 "AlmsKernelModel" "lentBy" "[I", .fieldLink RX1 13 "AlmsKernelModel" "owners" "[I", .fieldLink RX1 48 "AlmsKernelModel" "borrowers" "[I"] ++ wsX10)
def wsX1_sleeps_r1 : List Cond := [Cond.fieldLink RX1 54 "AlmsKernelModel" "chosen" "I", Cond.fieldLink RX1 17 "AlmsKernelModel" "pages" "[I", Cond.fieldLink RX1 64 "AlmsKernelModel" "loans" "I", Cond.fieldLink RX1 48 "AlmsKernelModel" "borrowers" "[I", Cond.fieldLink RX1 36 "AlmsKernelModel" "states" "[I", Cond.methodLink RX1 90 yX1_holderOf, Cond.instanceMethod yX1_holderOf, Cond.selects RX1 yX1_holderOf yX1_holderOf, Cond.initialized RX1, Cond.code yX1_holderOf cX1_holderOf 2 (some .int), Cond.fieldLink RX1 27 "AlmsKernelModel" "lentBy" "[I", Cond.fieldLink RX1 13 "AlmsKernelModel" "owners" "[I", Cond.methodLink RX1 97 yX1_isComing, Cond.instanceMethod yX1_isComing, Cond.selects RX1 yX1_isComing yX1_isComing, Cond.code yX1_isComing cX1_isComing 2 (some .boolean), Cond.fieldLink RX1 20 "AlmsKernelModel" "isThere" "[Z", Cond.methodLink RX1 94 yX1_doesLast, Cond.instanceMethod yX1_doesLast, Cond.selects RX1 yX1_doesLast yX1_doesLast, Cond.code yX1_doesLast cX1_doesLast 2 (some .boolean), Cond.fieldLink RX1 42 "AlmsKernelModel" "loanFrames" "[I", Cond.methodLink RX1 120 yX1_ends, Cond.instanceMethod yX1_ends]
def wsX1_sleeps_r2 : List Cond := [Cond.selects RX1 yX1_ends yX1_ends, Cond.code yX1_ends cX1_ends 3 none]
def wsX1_sleeps : List Cond := .code yX1_sleeps cX1_sleeps 3 none :: ((wsX1_sleeps_r1 ++ wsX1_sleeps_r2) ++ wsX10)
def wsX1_pays_r1 : List Cond := [Cond.fieldLink RX1 64 "AlmsKernelModel" "loans" "I", Cond.fieldLink RX1 33 "AlmsKernelModel" "purses" "[I", Cond.fieldLink RX1 48 "AlmsKernelModel" "borrowers" "[I", Cond.fieldLink RX1 7 "AlmsKernelModel" "rate" "I", Cond.fieldLink RX1 45 "AlmsKernelModel" "lenders" "[I", Cond.fieldLink RX1 51 "AlmsKernelModel" "interests" "[I", Cond.methodLink RX1 94 yX1_doesLast, Cond.instanceMethod yX1_doesLast, Cond.selects RX1 yX1_doesLast yX1_doesLast, Cond.initialized RX1, Cond.code yX1_doesLast cX1_doesLast 2 (some .boolean), Cond.fieldLink RX1 27 "AlmsKernelModel" "lentBy" "[I", Cond.fieldLink RX1 42 "AlmsKernelModel" "loanFrames" "[I", Cond.methodLink RX1 150 yX1_sleeps, Cond.instanceMethod yX1_sleeps, Cond.selects RX1 yX1_sleeps yX1_sleeps, Cond.code yX1_sleeps cX1_sleeps 3 none, Cond.fieldLink RX1 54 "AlmsKernelModel" "chosen" "I", Cond.fieldLink RX1 17 "AlmsKernelModel" "pages" "[I", Cond.fieldLink RX1 36 "AlmsKernelModel" "states" "[I", Cond.methodLink RX1 90 yX1_holderOf, Cond.instanceMethod yX1_holderOf, Cond.selects RX1 yX1_holderOf yX1_holderOf, Cond.code yX1_holderOf cX1_holderOf 2 (some .int)]
def wsX1_pays_r2 : List Cond := [Cond.fieldLink RX1 13 "AlmsKernelModel" "owners" "[I", Cond.methodLink RX1 97 yX1_isComing, Cond.instanceMethod yX1_isComing, Cond.selects RX1 yX1_isComing yX1_isComing, Cond.code yX1_isComing cX1_isComing 2 (some .boolean), Cond.fieldLink RX1 20 "AlmsKernelModel" "isThere" "[Z", Cond.methodLink RX1 120 yX1_ends, Cond.instanceMethod yX1_ends, Cond.selects RX1 yX1_ends yX1_ends, Cond.code yX1_ends cX1_ends 3 none]
def wsX1_pays : List Cond := .code yX1_pays cX1_pays 2 none :: ((wsX1_pays_r1 ++ wsX1_pays_r2) ++ wsX10)
def wsX1_richest : List Cond := .code yX1_richest cX1_richest 4 (some .int) :: ([.fieldLink RX1 36 "AlmsKernelModel" "states" "[I", .fieldLink RX1 33 "AlmsKernelModel" "purses" "[I"] ++ wsX10)
def wsX1_gives : List Cond := .code yX1_gives cX1_gives 3 none :: ([.fieldLink RX1 36 "AlmsKernelModel" "states" "[I", .fieldLink RX1 33 "AlmsKernelModel" "purses" "[I", .methodLink RX1 153 yX1_richest, .instanceMethod yX1_richest, .selects RX1 yX1_richest yX1_richest, .initialized RX1, .code yX1_richest cX1_richest 4 (some .int)] ++ wsX10)
def wsX1_distance : List Cond := .code yX1_distance cX1_distance 3 (some .int) :: ([.fieldLink RX1 159 "AlmsKernelModel" "head" "I", .methodLink RX1 156 yX1_trackOf, .instanceMethod yX1_trackOf, .selects RX1 yX1_trackOf yX1_trackOf, .initialized RX1, .code yX1_trackOf cX1_trackOf 2 (some .int), .fieldLink RX1 17 "AlmsKernelModel" "pages" "[I", .methodLink RX1 90 yX1_holderOf, .instanceMethod yX1_holderOf, .selects RX1 yX1_holderOf yX1_holderOf, .code yX1_holderOf cX1_holderOf 2 (some .int), .fieldLink RX1 27 "AlmsKernelModel" "lentBy" "[I", .fieldLink RX1 13 "AlmsKernelModel" "owners" "[I", .fieldLink RX1 48 "AlmsKernelModel" "borrowers" "[I"] ++ wsX10)
def wsX1_nearest : List Cond := .code yX1_nearest cX1_nearest 6 (some .int) :: ([.methodLink RX1 97 yX1_isComing, .instanceMethod yX1_isComing, .selects RX1 yX1_isComing yX1_isComing, .initialized RX1, .code yX1_isComing cX1_isComing 2 (some .boolean), .fieldLink RX1 17 "AlmsKernelModel" "pages" "[I", .fieldLink RX1 20 "AlmsKernelModel" "isThere" "[Z", .methodLink RX1 162 yX1_distance, .instanceMethod yX1_distance, .selects RX1 yX1_distance yX1_distance, .code yX1_distance cX1_distance 3 (some .int), .fieldLink RX1 159 "AlmsKernelModel" "head" "I", .methodLink RX1 156 yX1_trackOf, .instanceMethod yX1_trackOf, .selects RX1 yX1_trackOf yX1_trackOf, .code yX1_trackOf cX1_trackOf 2 (some .int), .methodLink RX1 90 yX1_holderOf, .instanceMethod yX1_holderOf, .selects RX1 yX1_holderOf yX1_holderOf, .code yX1_holderOf cX1_holderOf 2 (some .int), .fieldLink RX1 27 "AlmsKernelModel" "lentBy" "[I", .fieldLink RX1 13 "AlmsKernelModel" "owners" "[I", .fieldLink RX1 48 "AlmsKernelModel" "borrowers" "[I"] ++ wsX10)
def wsX1_turns_r1 : List Cond := [Cond.fieldLink RX1 54 "AlmsKernelModel" "chosen" "I", Cond.fieldLink RX1 159 "AlmsKernelModel" "head" "I", Cond.fieldLink RX1 20 "AlmsKernelModel" "isThere" "[Z", Cond.fieldLink RX1 24 "AlmsKernelModel" "touched" "[I", Cond.fieldLink RX1 71 "AlmsKernelModel" "tick" "I", Cond.fieldLink RX1 36 "AlmsKernelModel" "states" "[I", Cond.methodLink RX1 165 yX1_nearest, Cond.instanceMethod yX1_nearest, Cond.selects RX1 yX1_nearest yX1_nearest, Cond.initialized RX1, Cond.code yX1_nearest cX1_nearest 6 (some .int), Cond.methodLink RX1 97 yX1_isComing, Cond.instanceMethod yX1_isComing, Cond.selects RX1 yX1_isComing yX1_isComing, Cond.code yX1_isComing cX1_isComing 2 (some .boolean), Cond.fieldLink RX1 17 "AlmsKernelModel" "pages" "[I", Cond.methodLink RX1 162 yX1_distance, Cond.instanceMethod yX1_distance, Cond.selects RX1 yX1_distance yX1_distance, Cond.code yX1_distance cX1_distance 3 (some .int), Cond.methodLink RX1 156 yX1_trackOf, Cond.instanceMethod yX1_trackOf, Cond.selects RX1 yX1_trackOf yX1_trackOf, Cond.code yX1_trackOf cX1_trackOf 2 (some .int)]
def wsX1_turns_r2 : List Cond := [Cond.methodLink RX1 90 yX1_holderOf, Cond.instanceMethod yX1_holderOf, Cond.selects RX1 yX1_holderOf yX1_holderOf, Cond.code yX1_holderOf cX1_holderOf 2 (some .int), Cond.fieldLink RX1 27 "AlmsKernelModel" "lentBy" "[I", Cond.fieldLink RX1 13 "AlmsKernelModel" "owners" "[I", Cond.fieldLink RX1 48 "AlmsKernelModel" "borrowers" "[I"]
def wsX1_turns : List Cond := .code yX1_turns cX1_turns 2 none :: ((wsX1_turns_r1 ++ wsX1_turns_r2) ++ wsX10)
def wsX1_advance_r1 : List Cond := [Cond.fieldLink RX1 71 "AlmsKernelModel" "tick" "I", Cond.constant RX1 168 (50000), Cond.fieldLink RX1 33 "AlmsKernelModel" "purses" "[I", Cond.fieldLink RX1 36 "AlmsKernelModel" "states" "[I", Cond.fieldLink RX1 30 "AlmsKernelModel" "wages" "[I", Cond.methodLink RX1 60 yX1_isIn, Cond.static yX1_isIn, Cond.initialized RX1, Cond.code yX1_isIn cX1_isIn 3 (some .boolean), Cond.methodLink RX1 77 yX1_goes, Cond.instanceMethod yX1_goes, Cond.selects RX1 yX1_goes yX1_goes, Cond.code yX1_goes cX1_goes 2 (some .boolean), Cond.fieldLink RX1 57 "AlmsKernelModel" "thrown" "I", Cond.methodLink RX1 169 yX1_pays, Cond.instanceMethod yX1_pays, Cond.selects RX1 yX1_pays yX1_pays, Cond.code yX1_pays cX1_pays 2 none, Cond.fieldLink RX1 64 "AlmsKernelModel" "loans" "I", Cond.fieldLink RX1 48 "AlmsKernelModel" "borrowers" "[I", Cond.fieldLink RX1 7 "AlmsKernelModel" "rate" "I", Cond.fieldLink RX1 45 "AlmsKernelModel" "lenders" "[I", Cond.fieldLink RX1 51 "AlmsKernelModel" "interests" "[I", Cond.methodLink RX1 94 yX1_doesLast]
def wsX1_advance_r2 : List Cond := [Cond.instanceMethod yX1_doesLast, Cond.selects RX1 yX1_doesLast yX1_doesLast, Cond.code yX1_doesLast cX1_doesLast 2 (some .boolean), Cond.fieldLink RX1 27 "AlmsKernelModel" "lentBy" "[I", Cond.fieldLink RX1 42 "AlmsKernelModel" "loanFrames" "[I", Cond.methodLink RX1 150 yX1_sleeps, Cond.instanceMethod yX1_sleeps, Cond.selects RX1 yX1_sleeps yX1_sleeps, Cond.code yX1_sleeps cX1_sleeps 3 none, Cond.fieldLink RX1 54 "AlmsKernelModel" "chosen" "I", Cond.fieldLink RX1 17 "AlmsKernelModel" "pages" "[I", Cond.methodLink RX1 90 yX1_holderOf, Cond.instanceMethod yX1_holderOf, Cond.selects RX1 yX1_holderOf yX1_holderOf, Cond.code yX1_holderOf cX1_holderOf 2 (some .int), Cond.fieldLink RX1 13 "AlmsKernelModel" "owners" "[I", Cond.methodLink RX1 97 yX1_isComing, Cond.instanceMethod yX1_isComing, Cond.selects RX1 yX1_isComing yX1_isComing, Cond.code yX1_isComing cX1_isComing 2 (some .boolean), Cond.fieldLink RX1 20 "AlmsKernelModel" "isThere" "[Z", Cond.methodLink RX1 120 yX1_ends, Cond.instanceMethod yX1_ends, Cond.selects RX1 yX1_ends yX1_ends]
def wsX1_advance_r3 : List Cond := [Cond.code yX1_ends cX1_ends 3 none, Cond.methodLink RX1 172 yX1_gives, Cond.instanceMethod yX1_gives, Cond.selects RX1 yX1_gives yX1_gives, Cond.code yX1_gives cX1_gives 3 none, Cond.methodLink RX1 153 yX1_richest, Cond.instanceMethod yX1_richest, Cond.selects RX1 yX1_richest yX1_richest, Cond.code yX1_richest cX1_richest 4 (some .int), Cond.methodLink RX1 175 yX1_turns, Cond.instanceMethod yX1_turns, Cond.selects RX1 yX1_turns yX1_turns, Cond.code yX1_turns cX1_turns 2 none, Cond.fieldLink RX1 159 "AlmsKernelModel" "head" "I", Cond.fieldLink RX1 24 "AlmsKernelModel" "touched" "[I", Cond.methodLink RX1 165 yX1_nearest, Cond.instanceMethod yX1_nearest, Cond.selects RX1 yX1_nearest yX1_nearest, Cond.code yX1_nearest cX1_nearest 6 (some .int), Cond.methodLink RX1 162 yX1_distance, Cond.instanceMethod yX1_distance, Cond.selects RX1 yX1_distance yX1_distance, Cond.code yX1_distance cX1_distance 3 (some .int), Cond.methodLink RX1 156 yX1_trackOf]
def wsX1_advance_r4 : List Cond := [Cond.instanceMethod yX1_trackOf, Cond.selects RX1 yX1_trackOf yX1_trackOf, Cond.code yX1_trackOf cX1_trackOf 2 (some .int)]
def wsX1_advance : List Cond := .code yX1_advance cX1_advance 4 (some .int) :: ((wsX1_advance_r1 ++ (wsX1_advance_r2 ++ (wsX1_advance_r3 ++ wsX1_advance_r4))) ++ wsX10)
def wsX1_tick : List Cond := .code yX1_tick cX1_tick 1 (some .int) :: ([.fieldLink RX1 57 "AlmsKernelModel" "thrown" "I", .fieldLink RX1 71 "AlmsKernelModel" "tick" "I"] ++ wsX10)
def wsX1_owner : List Cond := .code yX1_owner cX1_owner 2 (some .int) :: ([.fieldLink RX1 13 "AlmsKernelModel" "owners" "[I", .methodLink RX1 84 yX1_isFrame, .static yX1_isFrame, .initialized RX1, .code yX1_isFrame cX1_isFrame 1 (some .boolean), .methodLink RX1 60 yX1_isIn, .static yX1_isIn, .code yX1_isIn cX1_isIn 3 (some .boolean), .methodLink RX1 77 yX1_goes, .instanceMethod yX1_goes, .selects RX1 yX1_goes yX1_goes, .code yX1_goes cX1_goes 2 (some .boolean), .fieldLink RX1 57 "AlmsKernelModel" "thrown" "I"] ++ wsX10)
def wsX1_holder : List Cond := .code yX1_holder cX1_holder 2 (some .int) :: ([.methodLink RX1 84 yX1_isFrame, .static yX1_isFrame, .initialized RX1, .code yX1_isFrame cX1_isFrame 1 (some .boolean), .methodLink RX1 60 yX1_isIn, .static yX1_isIn, .code yX1_isIn cX1_isIn 3 (some .boolean), .methodLink RX1 77 yX1_goes, .instanceMethod yX1_goes, .selects RX1 yX1_goes yX1_goes, .code yX1_goes cX1_goes 2 (some .boolean), .fieldLink RX1 57 "AlmsKernelModel" "thrown" "I", .methodLink RX1 90 yX1_holderOf, .instanceMethod yX1_holderOf, .selects RX1 yX1_holderOf yX1_holderOf, .code yX1_holderOf cX1_holderOf 2 (some .int), .fieldLink RX1 27 "AlmsKernelModel" "lentBy" "[I", .fieldLink RX1 13 "AlmsKernelModel" "owners" "[I", .fieldLink RX1 48 "AlmsKernelModel" "borrowers" "[I"] ++ wsX10)
def wsX1_holderByLog : List Cond := .code yX1_holderByLog cX1_holderByLog 2 (some .int) :: ([.methodLink RX1 84 yX1_isFrame, .static yX1_isFrame, .initialized RX1, .code yX1_isFrame cX1_isFrame 1 (some .boolean), .methodLink RX1 60 yX1_isIn, .static yX1_isIn, .code yX1_isIn cX1_isIn 3 (some .boolean), .methodLink RX1 77 yX1_goes, .instanceMethod yX1_goes, .selects RX1 yX1_goes yX1_goes, .code yX1_goes cX1_goes 2 (some .boolean), .fieldLink RX1 57 "AlmsKernelModel" "thrown" "I", .methodLink RX1 90 yX1_holderOf, .instanceMethod yX1_holderOf, .selects RX1 yX1_holderOf yX1_holderOf, .code yX1_holderOf cX1_holderOf 2 (some .int), .fieldLink RX1 27 "AlmsKernelModel" "lentBy" "[I", .fieldLink RX1 13 "AlmsKernelModel" "owners" "[I", .fieldLink RX1 48 "AlmsKernelModel" "borrowers" "[I"] ++ wsX10)
def wsX1_pageIn : List Cond := .code yX1_pageIn cX1_pageIn 2 (some .int) :: ([.fieldLink RX1 17 "AlmsKernelModel" "pages" "[I", .methodLink RX1 84 yX1_isFrame, .static yX1_isFrame, .initialized RX1, .code yX1_isFrame cX1_isFrame 1 (some .boolean), .methodLink RX1 60 yX1_isIn, .static yX1_isIn, .code yX1_isIn cX1_isIn 3 (some .boolean), .methodLink RX1 77 yX1_goes, .instanceMethod yX1_goes, .selects RX1 yX1_goes yX1_goes, .code yX1_goes cX1_goes 2 (some .boolean), .fieldLink RX1 57 "AlmsKernelModel" "thrown" "I"] ++ wsX10)
def wsX1_age : List Cond := .code yX1_age cX1_age 2 (some .int) :: ([.methodLink RX1 84 yX1_isFrame, .static yX1_isFrame, .initialized RX1, .code yX1_isFrame cX1_isFrame 1 (some .boolean), .methodLink RX1 60 yX1_isIn, .static yX1_isIn, .code yX1_isIn cX1_isIn 3 (some .boolean), .methodLink RX1 77 yX1_goes, .instanceMethod yX1_goes, .selects RX1 yX1_goes yX1_goes, .code yX1_goes cX1_goes 2 (some .boolean), .fieldLink RX1 57 "AlmsKernelModel" "thrown" "I", .methodLink RX1 100 yX1_ageOf, .instanceMethod yX1_ageOf, .selects RX1 yX1_ageOf yX1_ageOf, .code yX1_ageOf cX1_ageOf 2 (some .int), .fieldLink RX1 71 "AlmsKernelModel" "tick" "I", .fieldLink RX1 24 "AlmsKernelModel" "touched" "[I", .methodLink RX1 67 yX1_hasPage, .instanceMethod yX1_hasPage, .selects RX1 yX1_hasPage yX1_hasPage, .code yX1_hasPage cX1_hasPage 2 (some .boolean), .fieldLink RX1 17 "AlmsKernelModel" "pages" "[I", .fieldLink RX1 20 "AlmsKernelModel" "isThere" "[Z"] ++ wsX10)
def wsX1_free : List Cond := .code yX1_free cX1_free 3 (some .int) :: ([.fieldLink RX1 57 "AlmsKernelModel" "thrown" "I", .fieldLink RX1 13 "AlmsKernelModel" "owners" "[I"] ++ wsX10)
def wsX1_owns : List Cond := .code yX1_owns cX1_owns 5 (some .int) :: ([.fieldLink RX1 13 "AlmsKernelModel" "owners" "[I", .methodLink RX1 74 yX1_isProcess, .static yX1_isProcess, .initialized RX1, .code yX1_isProcess cX1_isProcess 1 (some .boolean), .methodLink RX1 60 yX1_isIn, .static yX1_isIn, .code yX1_isIn cX1_isIn 3 (some .boolean), .methodLink RX1 77 yX1_goes, .instanceMethod yX1_goes, .selects RX1 yX1_goes yX1_goes, .code yX1_goes cX1_goes 2 (some .boolean), .fieldLink RX1 57 "AlmsKernelModel" "thrown" "I"] ++ wsX10)
def wsX1_borrowed : List Cond := .code yX1_borrowed cX1_borrowed 2 (some .int) :: ([.methodLink RX1 74 yX1_isProcess, .static yX1_isProcess, .initialized RX1, .code yX1_isProcess cX1_isProcess 1 (some .boolean), .methodLink RX1 60 yX1_isIn, .static yX1_isIn, .code yX1_isIn cX1_isIn 3 (some .boolean), .methodLink RX1 77 yX1_goes, .instanceMethod yX1_goes, .selects RX1 yX1_goes yX1_goes, .code yX1_goes cX1_goes 2 (some .boolean), .fieldLink RX1 57 "AlmsKernelModel" "thrown" "I", .methodLink RX1 124 yX1_borrowedBy, .instanceMethod yX1_borrowedBy, .selects RX1 yX1_borrowedBy yX1_borrowedBy, .code yX1_borrowedBy cX1_borrowedBy 4 (some .int), .fieldLink RX1 27 "AlmsKernelModel" "lentBy" "[I", .fieldLink RX1 48 "AlmsKernelModel" "borrowers" "[I"] ++ wsX10)
def wsX1_lent : List Cond := .code yX1_lent cX1_lent 5 (some .int) :: ([.fieldLink RX1 13 "AlmsKernelModel" "owners" "[I", .fieldLink RX1 27 "AlmsKernelModel" "lentBy" "[I", .methodLink RX1 74 yX1_isProcess, .static yX1_isProcess, .initialized RX1, .code yX1_isProcess cX1_isProcess 1 (some .boolean), .methodLink RX1 60 yX1_isIn, .static yX1_isIn, .code yX1_isIn cX1_isIn 3 (some .boolean), .methodLink RX1 77 yX1_goes, .instanceMethod yX1_goes, .selects RX1 yX1_goes yX1_goes, .code yX1_goes cX1_goes 2 (some .boolean), .fieldLink RX1 57 "AlmsKernelModel" "thrown" "I"] ++ wsX10)
def wsX1_stateOf : List Cond := .code yX1_stateOf cX1_stateOf 2 (some .int) :: ([.fieldLink RX1 36 "AlmsKernelModel" "states" "[I", .methodLink RX1 74 yX1_isProcess, .static yX1_isProcess, .initialized RX1, .code yX1_isProcess cX1_isProcess 1 (some .boolean), .methodLink RX1 60 yX1_isIn, .static yX1_isIn, .code yX1_isIn cX1_isIn 3 (some .boolean), .methodLink RX1 77 yX1_goes, .instanceMethod yX1_goes, .selects RX1 yX1_goes yX1_goes, .code yX1_goes cX1_goes 2 (some .boolean), .fieldLink RX1 57 "AlmsKernelModel" "thrown" "I"] ++ wsX10)
def wsX1_purse : List Cond := .code yX1_purse cX1_purse 2 (some .int) :: ([.fieldLink RX1 33 "AlmsKernelModel" "purses" "[I", .methodLink RX1 74 yX1_isProcess, .static yX1_isProcess, .initialized RX1, .code yX1_isProcess cX1_isProcess 1 (some .boolean), .methodLink RX1 60 yX1_isIn, .static yX1_isIn, .code yX1_isIn cX1_isIn 3 (some .boolean), .methodLink RX1 77 yX1_goes, .instanceMethod yX1_goes, .selects RX1 yX1_goes yX1_goes, .code yX1_goes cX1_goes 2 (some .boolean), .fieldLink RX1 57 "AlmsKernelModel" "thrown" "I"] ++ wsX10)
def wsX1_faults : List Cond := .code yX1_faults cX1_faults 2 (some .int) :: ([.fieldLink RX1 39 "AlmsKernelModel" "faults" "[I", .methodLink RX1 74 yX1_isProcess, .static yX1_isProcess, .initialized RX1, .code yX1_isProcess cX1_isProcess 1 (some .boolean), .methodLink RX1 60 yX1_isIn, .static yX1_isIn, .code yX1_isIn cX1_isIn 3 (some .boolean), .methodLink RX1 77 yX1_goes, .instanceMethod yX1_goes, .selects RX1 yX1_goes yX1_goes, .code yX1_goes cX1_goes 2 (some .boolean), .fieldLink RX1 57 "AlmsKernelModel" "thrown" "I"] ++ wsX10)
def wsX1_loans : List Cond := .code yX1_loans cX1_loans 1 (some .int) :: ([.fieldLink RX1 57 "AlmsKernelModel" "thrown" "I", .fieldLink RX1 64 "AlmsKernelModel" "loans" "I"] ++ wsX10)
def wsX1_lasts : List Cond := .code yX1_lasts cX1_lasts 2 (some .boolean) :: ([.methodLink RX1 147 yX1_isLoan, .instanceMethod yX1_isLoan, .selects RX1 yX1_isLoan yX1_isLoan, .initialized RX1, .code yX1_isLoan cX1_isLoan 2 (some .boolean), .fieldLink RX1 64 "AlmsKernelModel" "loans" "I", .methodLink RX1 60 yX1_isIn, .static yX1_isIn, .code yX1_isIn cX1_isIn 3 (some .boolean), .methodLink RX1 77 yX1_goes, .instanceMethod yX1_goes, .selects RX1 yX1_goes yX1_goes, .code yX1_goes cX1_goes 2 (some .boolean), .fieldLink RX1 57 "AlmsKernelModel" "thrown" "I", .methodLink RX1 94 yX1_doesLast, .instanceMethod yX1_doesLast, .selects RX1 yX1_doesLast yX1_doesLast, .code yX1_doesLast cX1_doesLast 2 (some .boolean), .fieldLink RX1 27 "AlmsKernelModel" "lentBy" "[I", .fieldLink RX1 42 "AlmsKernelModel" "loanFrames" "[I"] ++ wsX10)
def wsX1_partiesOf : List Cond := .code yX1_partiesOf cX1_partiesOf 2 (some .int) :: ([.fieldLink RX1 42 "AlmsKernelModel" "loanFrames" "[I", .fieldLink RX1 45 "AlmsKernelModel" "lenders" "[I", .fieldLink RX1 48 "AlmsKernelModel" "borrowers" "[I", .methodLink RX1 147 yX1_isLoan, .instanceMethod yX1_isLoan, .selects RX1 yX1_isLoan yX1_isLoan, .initialized RX1, .code yX1_isLoan cX1_isLoan 2 (some .boolean), .fieldLink RX1 64 "AlmsKernelModel" "loans" "I", .methodLink RX1 60 yX1_isIn, .static yX1_isIn, .code yX1_isIn cX1_isIn 3 (some .boolean), .methodLink RX1 77 yX1_goes, .instanceMethod yX1_goes, .selects RX1 yX1_goes yX1_goes, .code yX1_goes cX1_goes 2 (some .boolean), .fieldLink RX1 57 "AlmsKernelModel" "thrown" "I"] ++ wsX10)
def wsX1_interest : List Cond := .code yX1_interest cX1_interest 2 (some .int) :: ([.fieldLink RX1 51 "AlmsKernelModel" "interests" "[I", .methodLink RX1 147 yX1_isLoan, .instanceMethod yX1_isLoan, .selects RX1 yX1_isLoan yX1_isLoan, .initialized RX1, .code yX1_isLoan cX1_isLoan 2 (some .boolean), .fieldLink RX1 64 "AlmsKernelModel" "loans" "I", .methodLink RX1 60 yX1_isIn, .static yX1_isIn, .code yX1_isIn cX1_isIn 3 (some .boolean), .methodLink RX1 77 yX1_goes, .instanceMethod yX1_goes, .selects RX1 yX1_goes yX1_goes, .code yX1_goes cX1_goes 2 (some .boolean), .fieldLink RX1 57 "AlmsKernelModel" "thrown" "I"] ++ wsX10)
def wsX1_head : List Cond := .code yX1_head cX1_head 1 (some .int) :: ([.fieldLink RX1 57 "AlmsKernelModel" "thrown" "I", .fieldLink RX1 159 "AlmsKernelModel" "head" "I"] ++ wsX10)
def wsX1_requests : List Cond := .code yX1_requests cX1_requests 3 (some .int) :: ([.fieldLink RX1 57 "AlmsKernelModel" "thrown" "I", .methodLink RX1 97 yX1_isComing, .instanceMethod yX1_isComing, .selects RX1 yX1_isComing yX1_isComing, .initialized RX1, .code yX1_isComing cX1_isComing 2 (some .boolean), .fieldLink RX1 17 "AlmsKernelModel" "pages" "[I", .fieldLink RX1 20 "AlmsKernelModel" "isThere" "[Z"] ++ wsX10)
def wsX1_requestAt : List Cond := .code yX1_requestAt cX1_requestAt 6 (some .int) :: ([.methodLink RX1 77 yX1_goes, .instanceMethod yX1_goes, .selects RX1 yX1_goes yX1_goes, .initialized RX1, .code yX1_goes cX1_goes 2 (some .boolean), .fieldLink RX1 57 "AlmsKernelModel" "thrown" "I", .methodLink RX1 97 yX1_isComing, .instanceMethod yX1_isComing, .selects RX1 yX1_isComing yX1_isComing, .code yX1_isComing cX1_isComing 2 (some .boolean), .fieldLink RX1 17 "AlmsKernelModel" "pages" "[I", .fieldLink RX1 20 "AlmsKernelModel" "isThere" "[Z", .methodLink RX1 156 yX1_trackOf, .instanceMethod yX1_trackOf, .selects RX1 yX1_trackOf yX1_trackOf, .code yX1_trackOf cX1_trackOf 2 (some .int), .methodLink RX1 90 yX1_holderOf, .instanceMethod yX1_holderOf, .selects RX1 yX1_holderOf yX1_holderOf, .code yX1_holderOf cX1_holderOf 2 (some .int), .fieldLink RX1 27 "AlmsKernelModel" "lentBy" "[I", .fieldLink RX1 13 "AlmsKernelModel" "owners" "[I", .fieldLink RX1 48 "AlmsKernelModel" "borrowers" "[I"] ++ wsX10)
def wsJ9_abs_0f7a4 : List Cond := .code yJ9_abs_0f7a4 cJ9_abs_0f7a4 1 (some .int) :: ([])
def wsL_setWage : List Cond := .codeWith yL_setWage cL_setWage 5 (some .int) [(0, 10, 13, 13), (0, 10, 17, 15)] :: ([.classLink RL 13 "java/lang/IndexOutOfBoundsException", .classLink RL 15 "java/lang/IllegalArgumentException", .methodLink RL 7 yX0_setWage, .instanceMethod yX0_setWage, .selects RX0 yX0_setWage yX0_setWage, .initialized RX0, .code yX0_setWage cX0_setWage 4 (some .int), .classLink RX0 79 "java/lang/IndexOutOfBoundsException", .initialized "java/lang/IndexOutOfBoundsException", .classLink RX0 86 "java/lang/IllegalArgumentException", .initialized "java/lang/IllegalArgumentException", .fieldLink RX0 9 "AlmsKernel" "wages" "[I", .methodLink RX0 75 yX0_isProcess, .static yX0_isProcess, .code yX0_isProcess cX0_isProcess 1 (some .boolean)] ++ wsX00 ++ (vx_atS RX0 83 "java/lang/IndexOutOfBoundsException" ["java/lang/RuntimeException", "java/lang/Exception"]).filter goodWord ++ (vx_atS RX0 90 "java/lang/IllegalArgumentException" ["java/lang/RuntimeException", "java/lang/Exception"]).filter goodWord)
def wsL_setRate : List Cond := .codeWith yL_setRate cL_setRate 4 (some .int) [(0, 9, 12, 15)] :: ([.classLink RL 15 "java/lang/IllegalArgumentException", .methodLink RL 17 yX0_setRate, .instanceMethod yX0_setRate, .selects RX0 yX0_setRate yX0_setRate, .initialized RX0, .code yX0_setRate cX0_setRate 3 (some .int), .classLink RX0 86 "java/lang/IllegalArgumentException", .initialized "java/lang/IllegalArgumentException", .fieldLink RX0 57 "AlmsKernel" "rate" "I"] ++ wsX00 ++ (vx_atS RX0 90 "java/lang/IllegalArgumentException" ["java/lang/RuntimeException", "java/lang/Exception"]).filter goodWord)
def wsL_buy_r1 : List Cond := [Cond.classLink RL 13 "java/lang/IndexOutOfBoundsException", Cond.classLink RL 24 "java/lang/IllegalStateException", Cond.methodLink RL 21 yX0_buy, Cond.instanceMethod yX0_buy, Cond.selects RX0 yX0_buy yX0_buy, Cond.initialized RX0, Cond.code yX0_buy cX0_buy 3 (some .int), Cond.classLink RX0 79 "java/lang/IndexOutOfBoundsException", Cond.initialized "java/lang/IndexOutOfBoundsException", Cond.classLink RX0 93 "java/lang/IllegalStateException", Cond.initialized "java/lang/IllegalStateException", Cond.fieldLink RX0 16 "AlmsKernel" "states" "[I", Cond.fieldLink RX0 13 "AlmsKernel" "purses" "[I", Cond.fieldLink RX0 22 "AlmsKernel" "owners" "[I", Cond.fieldLink RX0 25 "AlmsKernel" "holders" "[I", Cond.methodLink RX0 75 yX0_isProcess, Cond.static yX0_isProcess, Cond.code yX0_isProcess cX0_isProcess 1 (some .boolean), Cond.methodLink RX0 98 yX0_lowestEmptyFrame, Cond.instanceMethod yX0_lowestEmptyFrame, Cond.selects RX0 yX0_lowestEmptyFrame yX0_lowestEmptyFrame, Cond.code yX0_lowestEmptyFrame cX0_lowestEmptyFrame 3 (some .int), Cond.fieldLink RX0 28 "AlmsKernel" "pages" "[I", Cond.methodLink RX0 102 yX0_isFrame]
def wsL_buy_r2 : List Cond := [Cond.static yX0_isFrame, Cond.code yX0_isFrame cX0_isFrame 1 (some .boolean)]
def wsL_buy : List Cond := .codeWith yL_buy cL_buy 4 (some .int) [(0, 9, 12, 13), (0, 9, 15, 24)] :: ((wsL_buy_r1 ++ wsL_buy_r2) ++ wsX00 ++ (vx_atS RX0 83 "java/lang/IndexOutOfBoundsException" ["java/lang/RuntimeException", "java/lang/Exception"]).filter goodWord ++ (vx_atS RX0 97 "java/lang/IllegalStateException" ["java/lang/RuntimeException", "java/lang/Exception"]).filter goodWord)
def wsL_sell : List Cond := .codeWith yL_sell cL_sell 4 (some .int) [(0, 9, 12, 13), (0, 9, 15, 24)] :: ([.classLink RL 13 "java/lang/IndexOutOfBoundsException", .classLink RL 24 "java/lang/IllegalStateException", .methodLink RL 26 yX0_sell, .instanceMethod yX0_sell, .selects RX0 yX0_sell yX0_sell, .initialized RX0, .code yX0_sell cX0_sell 3 (some .int), .classLink RX0 79 "java/lang/IndexOutOfBoundsException", .initialized "java/lang/IndexOutOfBoundsException", .classLink RX0 93 "java/lang/IllegalStateException", .initialized "java/lang/IllegalStateException", .fieldLink RX0 22 "AlmsKernel" "owners" "[I", .fieldLink RX0 25 "AlmsKernel" "holders" "[I", .fieldLink RX0 28 "AlmsKernel" "pages" "[I", .fieldLink RX0 16 "AlmsKernel" "states" "[I", .fieldLink RX0 13 "AlmsKernel" "purses" "[I", .methodLink RX0 102 yX0_isFrame, .static yX0_isFrame, .code yX0_isFrame cX0_isFrame 1 (some .boolean), .methodLink RX0 75 yX0_isProcess, .static yX0_isProcess, .code yX0_isProcess cX0_isProcess 1 (some .boolean)] ++ wsX00 ++ (vx_atS RX0 83 "java/lang/IndexOutOfBoundsException" ["java/lang/RuntimeException", "java/lang/Exception"]).filter goodWord ++ (vx_atS RX0 97 "java/lang/IllegalStateException" ["java/lang/RuntimeException", "java/lang/Exception"]).filter goodWord)
def wsL_drop : List Cond := .codeWith yL_drop cL_drop 4 (some .int) [(0, 9, 12, 13), (0, 9, 15, 24)] :: ([.classLink RL 13 "java/lang/IndexOutOfBoundsException", .classLink RL 24 "java/lang/IllegalStateException", .methodLink RL 29 yX0_drop, .instanceMethod yX0_drop, .selects RX0 yX0_drop yX0_drop, .initialized RX0, .code yX0_drop cX0_drop 3 (some .int), .classLink RX0 79 "java/lang/IndexOutOfBoundsException", .initialized "java/lang/IndexOutOfBoundsException", .classLink RX0 93 "java/lang/IllegalStateException", .initialized "java/lang/IllegalStateException", .fieldLink RX0 31 "AlmsKernel" "there" "[Z", .fieldLink RX0 28 "AlmsKernel" "pages" "[I", .methodLink RX0 102 yX0_isFrame, .static yX0_isFrame, .code yX0_isFrame cX0_isFrame 1 (some .boolean), .methodLink RX0 115 yX0_dropPage, .instanceMethod yX0_dropPage, .selects RX0 yX0_dropPage yX0_dropPage, .code yX0_dropPage cX0_dropPage 2 none, .fieldLink RX0 66 "AlmsKernel" "chosenFrame" "I"] ++ wsX00 ++ (vx_atS RX0 83 "java/lang/IndexOutOfBoundsException" ["java/lang/RuntimeException", "java/lang/Exception"]).filter goodWord ++ (vx_atS RX0 97 "java/lang/IllegalStateException" ["java/lang/RuntimeException", "java/lang/Exception"]).filter goodWord)
def wsL_touch_r1 : List Cond := [Cond.classLink RL 13 "java/lang/IndexOutOfBoundsException", Cond.classLink RL 24 "java/lang/IllegalStateException", Cond.methodLink RL 32 yX0_touch, Cond.instanceMethod yX0_touch, Cond.selects RX0 yX0_touch yX0_touch, Cond.initialized RX0, Cond.code yX0_touch cX0_touch 5 (some .int), Cond.classLink RX0 79 "java/lang/IndexOutOfBoundsException", Cond.initialized "java/lang/IndexOutOfBoundsException", Cond.classLink RX0 93 "java/lang/IllegalStateException", Cond.initialized "java/lang/IllegalStateException", Cond.fieldLink RX0 16 "AlmsKernel" "states" "[I", Cond.fieldLink RX0 35 "AlmsKernel" "touchTicks" "[I", Cond.fieldLink RX0 60 "AlmsKernel" "now" "I", Cond.fieldLink RX0 28 "AlmsKernel" "pages" "[I", Cond.fieldLink RX0 31 "AlmsKernel" "there" "[Z", Cond.fieldLink RX0 19 "AlmsKernel" "faultCounts" "[I", Cond.methodLink RX0 75 yX0_isProcess, Cond.static yX0_isProcess, Cond.code yX0_isProcess cX0_isProcess 1 (some .boolean), Cond.methodLink RX0 119 yX0_isPage, Cond.static yX0_isPage, Cond.code yX0_isPage cX0_isPage 1 (some .boolean), Cond.methodLink RX0 126 yX0_frameWithPage]
def wsL_touch_r2 : List Cond := [Cond.instanceMethod yX0_frameWithPage, Cond.selects RX0 yX0_frameWithPage yX0_frameWithPage, Cond.code yX0_frameWithPage cX0_frameWithPage 4 (some .int), Cond.fieldLink RX0 25 "AlmsKernel" "holders" "[I", Cond.methodLink RX0 102 yX0_isFrame, Cond.static yX0_isFrame, Cond.code yX0_isFrame cX0_isFrame 1 (some .boolean), Cond.methodLink RX0 130 yX0_frameForFault, Cond.instanceMethod yX0_frameForFault, Cond.selects RX0 yX0_frameForFault yX0_frameForFault, Cond.code yX0_frameForFault cX0_frameForFault 3 (some .int), Cond.methodLink RX0 98 yX0_lowestEmptyFrame, Cond.instanceMethod yX0_lowestEmptyFrame, Cond.selects RX0 yX0_lowestEmptyFrame yX0_lowestEmptyFrame, Cond.code yX0_lowestEmptyFrame cX0_lowestEmptyFrame 3 (some .int), Cond.methodLink RX0 167 yX0_callIn, Cond.instanceMethod yX0_callIn, Cond.selects RX0 yX0_callIn yX0_callIn, Cond.code yX0_callIn cX0_callIn 3 (some .int), Cond.fieldLink RX0 53 "AlmsKernel" "loanCount" "I", Cond.fieldLink RX0 47 "AlmsKernel" "lasting" "[Z", Cond.fieldLink RX0 41 "AlmsKernel" "lenders" "[I", Cond.fieldLink RX0 38 "AlmsKernel" "loanFrames" "[I", Cond.methodLink RX0 140 yX0_isComing]
def wsL_touch_r3 : List Cond := [Cond.instanceMethod yX0_isComing, Cond.selects RX0 yX0_isComing yX0_isComing, Cond.code yX0_isComing cX0_isComing 2 (some .boolean), Cond.methodLink RX0 145 yX0_endLoan, Cond.instanceMethod yX0_endLoan, Cond.selects RX0 yX0_endLoan yX0_endLoan, Cond.code yX0_endLoan cX0_endLoan 3 none, Cond.fieldLink RX0 22 "AlmsKernel" "owners" "[I", Cond.methodLink RX0 115 yX0_dropPage, Cond.instanceMethod yX0_dropPage, Cond.selects RX0 yX0_dropPage yX0_dropPage, Cond.code yX0_dropPage cX0_dropPage 2 none, Cond.fieldLink RX0 66 "AlmsKernel" "chosenFrame" "I", Cond.methodLink RX0 170 yX0_borrow, Cond.instanceMethod yX0_borrow, Cond.selects RX0 yX0_borrow yX0_borrow, Cond.code yX0_borrow cX0_borrow 4 (some .int), Cond.fieldLink RX0 13 "AlmsKernel" "purses" "[I", Cond.fieldLink RX0 57 "AlmsKernel" "rate" "I", Cond.fieldLink RX0 44 "AlmsKernel" "borrowers" "[I", Cond.methodLink RX0 159 yX0_countBorrowed, Cond.instanceMethod yX0_countBorrowed, Cond.selects RX0 yX0_countBorrowed yX0_countBorrowed, Cond.code yX0_countBorrowed cX0_countBorrowed 4 (some .int)]
def wsL_touch_r4 : List Cond := [Cond.methodLink RX0 176 yX0_richestLender, Cond.instanceMethod yX0_richestLender, Cond.selects RX0 yX0_richestLender yX0_richestLender, Cond.code yX0_richestLender cX0_richestLender 5 (some .int), Cond.methodLink RX0 179 yX0_frameToLend, Cond.instanceMethod yX0_frameToLend, Cond.selects RX0 yX0_frameToLend yX0_frameToLend, Cond.code yX0_frameToLend cX0_frameToLend 5 (some .int), Cond.methodLink RX0 156 yX0_ageOf, Cond.instanceMethod yX0_ageOf, Cond.selects RX0 yX0_ageOf yX0_ageOf, Cond.code yX0_ageOf cX0_ageOf 2 (some .int), Cond.methodLink RX0 173 yX0_oldestFrame, Cond.instanceMethod yX0_oldestFrame, Cond.selects RX0 yX0_oldestFrame yX0_oldestFrame, Cond.code yX0_oldestFrame cX0_oldestFrame 5 (some .int)]
def wsL_touch : List Cond := .codeWith yL_touch cL_touch 5 (some .int) [(0, 10, 13, 13), (0, 10, 17, 24)] :: ((wsL_touch_r1 ++ (wsL_touch_r2 ++ (wsL_touch_r3 ++ wsL_touch_r4))) ++ wsX00 ++ (vx_atS RX0 83 "java/lang/IndexOutOfBoundsException" ["java/lang/RuntimeException", "java/lang/Exception"]).filter goodWord ++ (vx_atS RX0 97 "java/lang/IllegalStateException" ["java/lang/RuntimeException", "java/lang/Exception"]).filter goodWord)
def wsL_payBack_r1 : List Cond := [Cond.classLink RL 13 "java/lang/IndexOutOfBoundsException", Cond.classLink RL 24 "java/lang/IllegalStateException", Cond.methodLink RL 35 yX0_payBack, Cond.instanceMethod yX0_payBack, Cond.selects RX0 yX0_payBack yX0_payBack, Cond.initialized RX0, Cond.code yX0_payBack cX0_payBack 2 (some .int), Cond.classLink RX0 79 "java/lang/IndexOutOfBoundsException", Cond.initialized "java/lang/IndexOutOfBoundsException", Cond.classLink RX0 93 "java/lang/IllegalStateException", Cond.initialized "java/lang/IllegalStateException", Cond.fieldLink RX0 47 "AlmsKernel" "lasting" "[Z", Cond.fieldLink RX0 38 "AlmsKernel" "loanFrames" "[I", Cond.fieldLink RX0 41 "AlmsKernel" "lenders" "[I", Cond.methodLink RX0 135 yX0_isLoan, Cond.instanceMethod yX0_isLoan, Cond.selects RX0 yX0_isLoan yX0_isLoan, Cond.code yX0_isLoan cX0_isLoan 2 (some .boolean), Cond.fieldLink RX0 53 "AlmsKernel" "loanCount" "I", Cond.methodLink RX0 140 yX0_isComing, Cond.instanceMethod yX0_isComing, Cond.selects RX0 yX0_isComing yX0_isComing, Cond.code yX0_isComing cX0_isComing 2 (some .boolean), Cond.fieldLink RX0 28 "AlmsKernel" "pages" "[I"]
def wsL_payBack_r2 : List Cond := [Cond.fieldLink RX0 31 "AlmsKernel" "there" "[Z", Cond.methodLink RX0 102 yX0_isFrame, Cond.static yX0_isFrame, Cond.code yX0_isFrame cX0_isFrame 1 (some .boolean), Cond.methodLink RX0 145 yX0_endLoan, Cond.instanceMethod yX0_endLoan, Cond.selects RX0 yX0_endLoan yX0_endLoan, Cond.code yX0_endLoan cX0_endLoan 3 none, Cond.fieldLink RX0 25 "AlmsKernel" "holders" "[I", Cond.fieldLink RX0 22 "AlmsKernel" "owners" "[I", Cond.methodLink RX0 115 yX0_dropPage, Cond.instanceMethod yX0_dropPage, Cond.selects RX0 yX0_dropPage yX0_dropPage, Cond.code yX0_dropPage cX0_dropPage 2 none, Cond.fieldLink RX0 66 "AlmsKernel" "chosenFrame" "I"]
def wsL_payBack : List Cond := .codeWith yL_payBack cL_payBack 4 (some .int) [(0, 9, 12, 13), (0, 9, 15, 24)] :: ((wsL_payBack_r1 ++ wsL_payBack_r2) ++ wsX00 ++ (vx_atS RX0 83 "java/lang/IndexOutOfBoundsException" ["java/lang/RuntimeException", "java/lang/Exception"]).filter goodWord ++ (vx_atS RX0 97 "java/lang/IllegalStateException" ["java/lang/RuntimeException", "java/lang/Exception"]).filter goodWord)
def wsL_advance_r1 : List Cond := [Cond.classLink RL 15 "java/lang/IllegalArgumentException", Cond.classLink RL 24 "java/lang/IllegalStateException", Cond.methodLink RL 38 yX0_advance, Cond.instanceMethod yX0_advance, Cond.selects RX0 yX0_advance yX0_advance, Cond.initialized RX0, Cond.code yX0_advance cX0_advance 3 (some .int), Cond.classLink RX0 86 "java/lang/IllegalArgumentException", Cond.initialized "java/lang/IllegalArgumentException", Cond.classLink RX0 93 "java/lang/IllegalStateException", Cond.initialized "java/lang/IllegalStateException", Cond.fieldLink RX0 60 "AlmsKernel" "now" "I", Cond.constant RX0 150 (50000), Cond.methodLink RX0 153 yX0_passTick, Cond.instanceMethod yX0_passTick, Cond.selects RX0 yX0_passTick yX0_passTick, Cond.code yX0_passTick cX0_passTick 1 none, Cond.methodLink RX0 184 yX0_payWages, Cond.instanceMethod yX0_payWages, Cond.selects RX0 yX0_payWages yX0_payWages, Cond.code yX0_payWages cX0_payWages 2 none, Cond.fieldLink RX0 16 "AlmsKernel" "states" "[I", Cond.fieldLink RX0 13 "AlmsKernel" "purses" "[I", Cond.fieldLink RX0 9 "AlmsKernel" "wages" "[I"]
def wsL_advance_r2 : List Cond := [Cond.methodLink RX0 187 yX0_chargeLoans, Cond.instanceMethod yX0_chargeLoans, Cond.selects RX0 yX0_chargeLoans yX0_chargeLoans, Cond.code yX0_chargeLoans cX0_chargeLoans 2 none, Cond.fieldLink RX0 53 "AlmsKernel" "loanCount" "I", Cond.fieldLink RX0 47 "AlmsKernel" "lasting" "[Z", Cond.methodLink RX0 196 yX0_charge, Cond.instanceMethod yX0_charge, Cond.selects RX0 yX0_charge yX0_charge, Cond.code yX0_charge cX0_charge 4 none, Cond.fieldLink RX0 44 "AlmsKernel" "borrowers" "[I", Cond.fieldLink RX0 41 "AlmsKernel" "lenders" "[I", Cond.fieldLink RX0 57 "AlmsKernel" "rate" "I", Cond.fieldLink RX0 50 "AlmsKernel" "interests" "[I", Cond.methodLink RX0 75 yX0_isProcess, Cond.static yX0_isProcess, Cond.code yX0_isProcess cX0_isProcess 1 (some .boolean), Cond.methodLink RX0 199 yX0_putToSleep, Cond.instanceMethod yX0_putToSleep, Cond.selects RX0 yX0_putToSleep yX0_putToSleep, Cond.code yX0_putToSleep cX0_putToSleep 3 none, Cond.fieldLink RX0 25 "AlmsKernel" "holders" "[I", Cond.methodLink RX0 140 yX0_isComing, Cond.instanceMethod yX0_isComing]
def wsL_advance_r3 : List Cond := [Cond.selects RX0 yX0_isComing yX0_isComing, Cond.code yX0_isComing cX0_isComing 2 (some .boolean), Cond.fieldLink RX0 28 "AlmsKernel" "pages" "[I", Cond.fieldLink RX0 31 "AlmsKernel" "there" "[Z", Cond.methodLink RX0 102 yX0_isFrame, Cond.static yX0_isFrame, Cond.code yX0_isFrame cX0_isFrame 1 (some .boolean), Cond.methodLink RX0 115 yX0_dropPage, Cond.instanceMethod yX0_dropPage, Cond.selects RX0 yX0_dropPage yX0_dropPage, Cond.code yX0_dropPage cX0_dropPage 2 none, Cond.fieldLink RX0 66 "AlmsKernel" "chosenFrame" "I", Cond.methodLink RX0 145 yX0_endLoan, Cond.instanceMethod yX0_endLoan, Cond.selects RX0 yX0_endLoan yX0_endLoan, Cond.code yX0_endLoan cX0_endLoan 3 none, Cond.fieldLink RX0 38 "AlmsKernel" "loanFrames" "[I", Cond.fieldLink RX0 22 "AlmsKernel" "owners" "[I", Cond.methodLink RX0 190 yX0_giveAlms, Cond.instanceMethod yX0_giveAlms, Cond.selects RX0 yX0_giveAlms yX0_giveAlms, Cond.code yX0_giveAlms cX0_giveAlms 3 none, Cond.methodLink RX0 202 yX0_richestGiver, Cond.instanceMethod yX0_richestGiver]
def wsL_advance_r4 : List Cond := [Cond.selects RX0 yX0_richestGiver yX0_richestGiver, Cond.code yX0_richestGiver cX0_richestGiver 4 (some .int), Cond.methodLink RX0 193 yX0_moveDisk, Cond.instanceMethod yX0_moveDisk, Cond.selects RX0 yX0_moveDisk yX0_moveDisk, Cond.code yX0_moveDisk cX0_moveDisk 2 none, Cond.fieldLink RX0 63 "AlmsKernel" "headTrack" "I", Cond.methodLink RX0 209 yX0_nearestRequest, Cond.instanceMethod yX0_nearestRequest, Cond.selects RX0 yX0_nearestRequest yX0_nearestRequest, Cond.code yX0_nearestRequest cX0_nearestRequest 7 (some .int), Cond.methodLink RX0 215 Lib.Math.abs.name, Cond.static Lib.Math.abs.name, Cond.initialized "java/lang/Math", Cond.code Lib.Math.abs.name Lib.Math.abs.code 1 (some .int), Cond.methodLink RX0 206 yX0_trackOf, Cond.instanceMethod yX0_trackOf, Cond.selects RX0 yX0_trackOf yX0_trackOf, Cond.code yX0_trackOf cX0_trackOf 2 (some .int), Cond.methodLink RX0 212 yX0_finishRequest, Cond.instanceMethod yX0_finishRequest, Cond.selects RX0 yX0_finishRequest yX0_finishRequest, Cond.code yX0_finishRequest cX0_finishRequest 3 none, Cond.fieldLink RX0 35 "AlmsKernel" "touchTicks" "[I"]
def wsL_advance : List Cond := .codeWith yL_advance cL_advance 4 (some .int) [(0, 9, 12, 15), (0, 9, 15, 24)] :: ((wsL_advance_r1 ++ (wsL_advance_r2 ++ (wsL_advance_r3 ++ wsL_advance_r4))) ++ wsX00 ++ (vx_atS RX0 90 "java/lang/IllegalArgumentException" ["java/lang/RuntimeException", "java/lang/Exception"]).filter goodWord ++ (vx_atS RX0 97 "java/lang/IllegalStateException" ["java/lang/RuntimeException", "java/lang/Exception"]).filter goodWord)
def wsL_owner : List Cond := .codeWith yL_owner cL_owner 4 (some .int) [(0, 9, 12, 13)] :: ([.classLink RL 13 "java/lang/IndexOutOfBoundsException", .methodLink RL 41 yX0_owner, .instanceMethod yX0_owner, .selects RX0 yX0_owner yX0_owner, .initialized RX0, .code yX0_owner cX0_owner 2 (some .int), .classLink RX0 79 "java/lang/IndexOutOfBoundsException", .initialized "java/lang/IndexOutOfBoundsException", .fieldLink RX0 22 "AlmsKernel" "owners" "[I", .methodLink RX0 102 yX0_isFrame, .static yX0_isFrame, .code yX0_isFrame cX0_isFrame 1 (some .boolean)] ++ wsX00 ++ (vx_atS RX0 83 "java/lang/IndexOutOfBoundsException" ["java/lang/RuntimeException", "java/lang/Exception"]).filter goodWord)
def wsL_holder : List Cond := .codeWith yL_holder cL_holder 4 (some .int) [(0, 9, 12, 13)] :: ([.classLink RL 13 "java/lang/IndexOutOfBoundsException", .methodLink RL 44 yX0_holder, .instanceMethod yX0_holder, .selects RX0 yX0_holder yX0_holder, .initialized RX0, .code yX0_holder cX0_holder 2 (some .int), .classLink RX0 79 "java/lang/IndexOutOfBoundsException", .initialized "java/lang/IndexOutOfBoundsException", .fieldLink RX0 25 "AlmsKernel" "holders" "[I", .methodLink RX0 102 yX0_isFrame, .static yX0_isFrame, .code yX0_isFrame cX0_isFrame 1 (some .boolean)] ++ wsX00 ++ (vx_atS RX0 83 "java/lang/IndexOutOfBoundsException" ["java/lang/RuntimeException", "java/lang/Exception"]).filter goodWord)
def wsL_holderByLog : List Cond := .codeWith yL_holderByLog cL_holderByLog 4 (some .int) [(0, 9, 12, 13)] :: ([.classLink RL 13 "java/lang/IndexOutOfBoundsException", .methodLink RL 47 yX0_holderByLog, .instanceMethod yX0_holderByLog, .selects RX0 yX0_holderByLog yX0_holderByLog, .initialized RX0, .code yX0_holderByLog cX0_holderByLog 3 (some .int), .classLink RX0 79 "java/lang/IndexOutOfBoundsException", .initialized "java/lang/IndexOutOfBoundsException", .fieldLink RX0 53 "AlmsKernel" "loanCount" "I", .fieldLink RX0 47 "AlmsKernel" "lasting" "[Z", .fieldLink RX0 38 "AlmsKernel" "loanFrames" "[I", .fieldLink RX0 44 "AlmsKernel" "borrowers" "[I", .fieldLink RX0 22 "AlmsKernel" "owners" "[I", .methodLink RX0 102 yX0_isFrame, .static yX0_isFrame, .code yX0_isFrame cX0_isFrame 1 (some .boolean)] ++ wsX00 ++ (vx_atS RX0 83 "java/lang/IndexOutOfBoundsException" ["java/lang/RuntimeException", "java/lang/Exception"]).filter goodWord)
def wsL_pageIn : List Cond := .codeWith yL_pageIn cL_pageIn 4 (some .int) [(0, 9, 12, 13)] :: ([.classLink RL 13 "java/lang/IndexOutOfBoundsException", .methodLink RL 50 yX0_pageIn, .instanceMethod yX0_pageIn, .selects RX0 yX0_pageIn yX0_pageIn, .initialized RX0, .code yX0_pageIn cX0_pageIn 2 (some .int), .classLink RX0 79 "java/lang/IndexOutOfBoundsException", .initialized "java/lang/IndexOutOfBoundsException", .fieldLink RX0 28 "AlmsKernel" "pages" "[I", .methodLink RX0 102 yX0_isFrame, .static yX0_isFrame, .code yX0_isFrame cX0_isFrame 1 (some .boolean)] ++ wsX00 ++ (vx_atS RX0 83 "java/lang/IndexOutOfBoundsException" ["java/lang/RuntimeException", "java/lang/Exception"]).filter goodWord)
def wsL_age : List Cond := .codeWith yL_age cL_age 4 (some .int) [(0, 9, 12, 13)] :: ([.classLink RL 13 "java/lang/IndexOutOfBoundsException", .methodLink RL 53 yX0_age, .instanceMethod yX0_age, .selects RX0 yX0_age yX0_age, .initialized RX0, .code yX0_age cX0_age 2 (some .int), .classLink RX0 79 "java/lang/IndexOutOfBoundsException", .initialized "java/lang/IndexOutOfBoundsException", .methodLink RX0 102 yX0_isFrame, .static yX0_isFrame, .code yX0_isFrame cX0_isFrame 1 (some .boolean), .methodLink RX0 156 yX0_ageOf, .instanceMethod yX0_ageOf, .selects RX0 yX0_ageOf yX0_ageOf, .code yX0_ageOf cX0_ageOf 2 (some .int), .fieldLink RX0 31 "AlmsKernel" "there" "[Z", .fieldLink RX0 60 "AlmsKernel" "now" "I", .fieldLink RX0 35 "AlmsKernel" "touchTicks" "[I"] ++ wsX00 ++ (vx_atS RX0 83 "java/lang/IndexOutOfBoundsException" ["java/lang/RuntimeException", "java/lang/Exception"]).filter goodWord)
def wsL_owns : List Cond := .codeWith yL_owns cL_owns 4 (some .int) [(0, 9, 12, 13)] :: ([.classLink RL 13 "java/lang/IndexOutOfBoundsException", .methodLink RL 56 yX0_owns, .instanceMethod yX0_owns, .selects RX0 yX0_owns yX0_owns, .initialized RX0, .code yX0_owns cX0_owns 4 (some .int), .classLink RX0 79 "java/lang/IndexOutOfBoundsException", .initialized "java/lang/IndexOutOfBoundsException", .fieldLink RX0 22 "AlmsKernel" "owners" "[I", .methodLink RX0 75 yX0_isProcess, .static yX0_isProcess, .code yX0_isProcess cX0_isProcess 1 (some .boolean)] ++ wsX00 ++ (vx_atS RX0 83 "java/lang/IndexOutOfBoundsException" ["java/lang/RuntimeException", "java/lang/Exception"]).filter goodWord)
def wsL_borrowed : List Cond := .codeWith yL_borrowed cL_borrowed 4 (some .int) [(0, 9, 12, 13)] :: ([.classLink RL 13 "java/lang/IndexOutOfBoundsException", .methodLink RL 59 yX0_borrowed, .instanceMethod yX0_borrowed, .selects RX0 yX0_borrowed yX0_borrowed, .initialized RX0, .code yX0_borrowed cX0_borrowed 2 (some .int), .classLink RX0 79 "java/lang/IndexOutOfBoundsException", .initialized "java/lang/IndexOutOfBoundsException", .methodLink RX0 75 yX0_isProcess, .static yX0_isProcess, .code yX0_isProcess cX0_isProcess 1 (some .boolean), .methodLink RX0 159 yX0_countBorrowed, .instanceMethod yX0_countBorrowed, .selects RX0 yX0_countBorrowed yX0_countBorrowed, .code yX0_countBorrowed cX0_countBorrowed 4 (some .int), .fieldLink RX0 25 "AlmsKernel" "holders" "[I", .fieldLink RX0 22 "AlmsKernel" "owners" "[I"] ++ wsX00 ++ (vx_atS RX0 83 "java/lang/IndexOutOfBoundsException" ["java/lang/RuntimeException", "java/lang/Exception"]).filter goodWord)
def wsL_lent : List Cond := .codeWith yL_lent cL_lent 4 (some .int) [(0, 9, 12, 13)] :: ([.classLink RL 13 "java/lang/IndexOutOfBoundsException", .methodLink RL 62 yX0_lent, .instanceMethod yX0_lent, .selects RX0 yX0_lent yX0_lent, .initialized RX0, .code yX0_lent cX0_lent 4 (some .int), .classLink RX0 79 "java/lang/IndexOutOfBoundsException", .initialized "java/lang/IndexOutOfBoundsException", .fieldLink RX0 22 "AlmsKernel" "owners" "[I", .fieldLink RX0 25 "AlmsKernel" "holders" "[I", .methodLink RX0 75 yX0_isProcess, .static yX0_isProcess, .code yX0_isProcess cX0_isProcess 1 (some .boolean)] ++ wsX00 ++ (vx_atS RX0 83 "java/lang/IndexOutOfBoundsException" ["java/lang/RuntimeException", "java/lang/Exception"]).filter goodWord)
def wsL_stateOf : List Cond := .codeWith yL_stateOf cL_stateOf 4 (some .int) [(0, 9, 12, 13)] :: ([.classLink RL 13 "java/lang/IndexOutOfBoundsException", .methodLink RL 65 yX0_stateOf, .instanceMethod yX0_stateOf, .selects RX0 yX0_stateOf yX0_stateOf, .initialized RX0, .code yX0_stateOf cX0_stateOf 2 (some .int), .classLink RX0 79 "java/lang/IndexOutOfBoundsException", .initialized "java/lang/IndexOutOfBoundsException", .fieldLink RX0 16 "AlmsKernel" "states" "[I", .methodLink RX0 75 yX0_isProcess, .static yX0_isProcess, .code yX0_isProcess cX0_isProcess 1 (some .boolean)] ++ wsX00 ++ (vx_atS RX0 83 "java/lang/IndexOutOfBoundsException" ["java/lang/RuntimeException", "java/lang/Exception"]).filter goodWord)
def wsL_purse : List Cond := .codeWith yL_purse cL_purse 4 (some .int) [(0, 9, 12, 13)] :: ([.classLink RL 13 "java/lang/IndexOutOfBoundsException", .methodLink RL 68 yX0_purse, .instanceMethod yX0_purse, .selects RX0 yX0_purse yX0_purse, .initialized RX0, .code yX0_purse cX0_purse 2 (some .int), .classLink RX0 79 "java/lang/IndexOutOfBoundsException", .initialized "java/lang/IndexOutOfBoundsException", .fieldLink RX0 13 "AlmsKernel" "purses" "[I", .methodLink RX0 75 yX0_isProcess, .static yX0_isProcess, .code yX0_isProcess cX0_isProcess 1 (some .boolean)] ++ wsX00 ++ (vx_atS RX0 83 "java/lang/IndexOutOfBoundsException" ["java/lang/RuntimeException", "java/lang/Exception"]).filter goodWord)
def wsL_faults : List Cond := .codeWith yL_faults cL_faults 4 (some .int) [(0, 9, 12, 13)] :: ([.classLink RL 13 "java/lang/IndexOutOfBoundsException", .methodLink RL 71 yX0_faults, .instanceMethod yX0_faults, .selects RX0 yX0_faults yX0_faults, .initialized RX0, .code yX0_faults cX0_faults 2 (some .int), .classLink RX0 79 "java/lang/IndexOutOfBoundsException", .initialized "java/lang/IndexOutOfBoundsException", .fieldLink RX0 19 "AlmsKernel" "faultCounts" "[I", .methodLink RX0 75 yX0_isProcess, .static yX0_isProcess, .code yX0_isProcess cX0_isProcess 1 (some .boolean)] ++ wsX00 ++ (vx_atS RX0 83 "java/lang/IndexOutOfBoundsException" ["java/lang/RuntimeException", "java/lang/Exception"]).filter goodWord)
def wsL_lasts : List Cond := .codeWith yL_lasts cL_lasts 4 (some .int) [(0, 16, 19, 13)] :: ([.classLink RL 13 "java/lang/IndexOutOfBoundsException", .methodLink RL 74 yX0_lasts, .instanceMethod yX0_lasts, .selects RX0 yX0_lasts yX0_lasts, .initialized RX0, .code yX0_lasts cX0_lasts 2 (some .boolean), .classLink RX0 79 "java/lang/IndexOutOfBoundsException", .initialized "java/lang/IndexOutOfBoundsException", .fieldLink RX0 47 "AlmsKernel" "lasting" "[Z", .methodLink RX0 135 yX0_isLoan, .instanceMethod yX0_isLoan, .selects RX0 yX0_isLoan yX0_isLoan, .code yX0_isLoan cX0_isLoan 2 (some .boolean), .fieldLink RX0 53 "AlmsKernel" "loanCount" "I"] ++ wsX00 ++ (vx_atS RX0 83 "java/lang/IndexOutOfBoundsException" ["java/lang/RuntimeException", "java/lang/Exception"]).filter goodWord)
def wsL_partiesOf : List Cond := .codeWith yL_partiesOf cL_partiesOf 4 (some .int) [(0, 9, 12, 13)] :: ([.classLink RL 13 "java/lang/IndexOutOfBoundsException", .methodLink RL 78 yX0_partiesOf, .instanceMethod yX0_partiesOf, .selects RX0 yX0_partiesOf yX0_partiesOf, .initialized RX0, .code yX0_partiesOf cX0_partiesOf 2 (some .int), .classLink RX0 79 "java/lang/IndexOutOfBoundsException", .initialized "java/lang/IndexOutOfBoundsException", .fieldLink RX0 38 "AlmsKernel" "loanFrames" "[I", .fieldLink RX0 41 "AlmsKernel" "lenders" "[I", .fieldLink RX0 44 "AlmsKernel" "borrowers" "[I", .methodLink RX0 135 yX0_isLoan, .instanceMethod yX0_isLoan, .selects RX0 yX0_isLoan yX0_isLoan, .code yX0_isLoan cX0_isLoan 2 (some .boolean), .fieldLink RX0 53 "AlmsKernel" "loanCount" "I"] ++ wsX00 ++ (vx_atS RX0 83 "java/lang/IndexOutOfBoundsException" ["java/lang/RuntimeException", "java/lang/Exception"]).filter goodWord)
def wsL_interest : List Cond := .codeWith yL_interest cL_interest 4 (some .int) [(0, 9, 12, 13)] :: ([.classLink RL 13 "java/lang/IndexOutOfBoundsException", .methodLink RL 81 yX0_interest, .instanceMethod yX0_interest, .selects RX0 yX0_interest yX0_interest, .initialized RX0, .code yX0_interest cX0_interest 2 (some .int), .classLink RX0 79 "java/lang/IndexOutOfBoundsException", .initialized "java/lang/IndexOutOfBoundsException", .fieldLink RX0 50 "AlmsKernel" "interests" "[I", .methodLink RX0 135 yX0_isLoan, .instanceMethod yX0_isLoan, .selects RX0 yX0_isLoan yX0_isLoan, .code yX0_isLoan cX0_isLoan 2 (some .boolean), .fieldLink RX0 53 "AlmsKernel" "loanCount" "I"] ++ wsX00 ++ (vx_atS RX0 83 "java/lang/IndexOutOfBoundsException" ["java/lang/RuntimeException", "java/lang/Exception"]).filter goodWord)
def wsL_requestAt_r1 : List Cond := [Cond.classLink RL 13 "java/lang/IndexOutOfBoundsException", Cond.methodLink RL 84 yX0_requestAt, Cond.instanceMethod yX0_requestAt, Cond.selects RX0 yX0_requestAt yX0_requestAt, Cond.initialized RX0, Cond.code yX0_requestAt cX0_requestAt 4 (some .int), Cond.classLink RX0 79 "java/lang/IndexOutOfBoundsException", Cond.initialized "java/lang/IndexOutOfBoundsException", Cond.methodLink RX0 164 yX0_isRequested, Cond.instanceMethod yX0_isRequested, Cond.selects RX0 yX0_isRequested yX0_isRequested, Cond.code yX0_isRequested cX0_isRequested 3 (some .boolean), Cond.methodLink RX0 140 yX0_isComing, Cond.instanceMethod yX0_isComing, Cond.selects RX0 yX0_isComing yX0_isComing, Cond.code yX0_isComing cX0_isComing 2 (some .boolean), Cond.fieldLink RX0 28 "AlmsKernel" "pages" "[I", Cond.fieldLink RX0 31 "AlmsKernel" "there" "[Z", Cond.methodLink RX0 102 yX0_isFrame, Cond.static yX0_isFrame, Cond.code yX0_isFrame cX0_isFrame 1 (some .boolean), Cond.methodLink RX0 206 yX0_trackOf, Cond.instanceMethod yX0_trackOf, Cond.selects RX0 yX0_trackOf yX0_trackOf]
def wsL_requestAt_r2 : List Cond := [Cond.code yX0_trackOf cX0_trackOf 2 (some .int), Cond.fieldLink RX0 25 "AlmsKernel" "holders" "[I"]
def wsL_requestAt : List Cond := .codeWith yL_requestAt cL_requestAt 4 (some .int) [(0, 9, 12, 13)] :: ((wsL_requestAt_r1 ++ wsL_requestAt_r2) ++ wsX00 ++ (vx_atS RX0 83 "java/lang/IndexOutOfBoundsException" ["java/lang/RuntimeException", "java/lang/Exception"]).filter goodWord)
def wsL_law0_r1 : List Cond := [Cond.classLink RL 8 RX0, Cond.instantiable RX0 19, Cond.initialized RX0, Cond.classLink RL 88 RX1, Cond.instantiable RX1 19, Cond.initialized RX1, Cond.arrayClass .long, Cond.methodLink RL 87 yX0_init, Cond.instanceMethod yX0_init, Cond.code yX0_init cX0_init 1 none, Cond.methodLink RX0 3 objectInit, Cond.instanceMethod objectInit, Cond.code objectInit ⟨#[0xb1]⟩ 1 none, Cond.arrayClass .int, Cond.fieldLink RX0 9 "AlmsKernel" "wages" "[I", Cond.fieldLink RX0 13 "AlmsKernel" "purses" "[I", Cond.fieldLink RX0 16 "AlmsKernel" "states" "[I", Cond.fieldLink RX0 19 "AlmsKernel" "faultCounts" "[I", Cond.fieldLink RX0 22 "AlmsKernel" "owners" "[I", Cond.fieldLink RX0 25 "AlmsKernel" "holders" "[I", Cond.fieldLink RX0 28 "AlmsKernel" "pages" "[I", Cond.arrayClass .boolean, Cond.fieldLink RX0 31 "AlmsKernel" "there" "[Z", Cond.fieldLink RX0 35 "AlmsKernel" "touchTicks" "[I"]
def wsL_law0_r2 : List Cond := [Cond.fieldLink RX0 38 "AlmsKernel" "loanFrames" "[I", Cond.fieldLink RX0 41 "AlmsKernel" "lenders" "[I", Cond.fieldLink RX0 44 "AlmsKernel" "borrowers" "[I", Cond.fieldLink RX0 47 "AlmsKernel" "lasting" "[Z", Cond.fieldLink RX0 50 "AlmsKernel" "interests" "[I", Cond.fieldLink RX0 53 "AlmsKernel" "loanCount" "I", Cond.fieldLink RX0 57 "AlmsKernel" "rate" "I", Cond.fieldLink RX0 60 "AlmsKernel" "now" "I", Cond.fieldLink RX0 63 "AlmsKernel" "headTrack" "I", Cond.fieldLink RX0 66 "AlmsKernel" "chosenFrame" "I", Cond.methodLink RX0 69 yJ7_fill_53178, Cond.static yJ7_fill_53178, Cond.initialized RJ7, Cond.code yJ7_fill_53178 cJ7_fill_53178 4 none, Cond.methodLink RL 90 yX1_init, Cond.instanceMethod yX1_init, Cond.code yX1_init cX1_init 2 none, Cond.methodLink RX1 1 objectInit, Cond.fieldLink RX1 7 "AlmsKernelModel" "rate" "I", Cond.fieldLink RX1 13 "AlmsKernelModel" "owners" "[I", Cond.fieldLink RX1 17 "AlmsKernelModel" "pages" "[I", Cond.fieldLink RX1 20 "AlmsKernelModel" "isThere" "[Z", Cond.fieldLink RX1 24 "AlmsKernelModel" "touched" "[I", Cond.fieldLink RX1 27 "AlmsKernelModel" "lentBy" "[I"]
def wsL_law0_r3 : List Cond := [Cond.fieldLink RX1 30 "AlmsKernelModel" "wages" "[I", Cond.fieldLink RX1 33 "AlmsKernelModel" "purses" "[I", Cond.fieldLink RX1 36 "AlmsKernelModel" "states" "[I", Cond.fieldLink RX1 39 "AlmsKernelModel" "faults" "[I", Cond.fieldLink RX1 42 "AlmsKernelModel" "loanFrames" "[I", Cond.fieldLink RX1 45 "AlmsKernelModel" "lenders" "[I", Cond.fieldLink RX1 48 "AlmsKernelModel" "borrowers" "[I", Cond.fieldLink RX1 51 "AlmsKernelModel" "interests" "[I", Cond.fieldLink RX1 54 "AlmsKernelModel" "chosen" "I", Cond.methodLink RL 91 yL_setWage, Cond.static yL_setWage, Cond.initialized RL, Cond.codeWith yL_setWage cL_setWage 5 (some .int) [(0, 10, 13, 13), (0, 10, 17, 15)], Cond.classLink RL 13 "java/lang/IndexOutOfBoundsException", Cond.classLink RL 15 "java/lang/IllegalArgumentException", Cond.methodLink RL 7 yX0_setWage, Cond.instanceMethod yX0_setWage, Cond.selects RX0 yX0_setWage yX0_setWage, Cond.code yX0_setWage cX0_setWage 4 (some .int), Cond.classLink RX0 79 "java/lang/IndexOutOfBoundsException", Cond.initialized "java/lang/IndexOutOfBoundsException", Cond.classLink RX0 86 "java/lang/IllegalArgumentException", Cond.initialized "java/lang/IllegalArgumentException", Cond.methodLink RX0 75 yX0_isProcess]
def wsL_law0_r4 : List Cond := [Cond.static yX0_isProcess, Cond.code yX0_isProcess cX0_isProcess 1 (some .boolean), Cond.methodLink RL 96 yX1_setWage, Cond.instanceMethod yX1_setWage, Cond.selects RX1 yX1_setWage yX1_setWage, Cond.code yX1_setWage cX1_setWage 4 (some .int), Cond.methodLink RX1 74 yX1_isProcess, Cond.static yX1_isProcess, Cond.code yX1_isProcess cX1_isProcess 1 (some .boolean), Cond.methodLink RX1 60 yX1_isIn, Cond.static yX1_isIn, Cond.code yX1_isIn cX1_isIn 3 (some .boolean), Cond.methodLink RX1 77 yX1_goes, Cond.instanceMethod yX1_goes, Cond.selects RX1 yX1_goes yX1_goes, Cond.code yX1_goes cX1_goes 2 (some .boolean), Cond.fieldLink RX1 57 "AlmsKernelModel" "thrown" "I", Cond.methodLink RL 97 yX1_thrown, Cond.instanceMethod yX1_thrown, Cond.selects RX1 yX1_thrown yX1_thrown, Cond.code yX1_thrown cX1_thrown 1 (some .int), Cond.methodLink RL 101 yL_setRate, Cond.static yL_setRate, Cond.codeWith yL_setRate cL_setRate 4 (some .int) [(0, 9, 12, 15)]]
def wsL_law0_r5 : List Cond := [Cond.methodLink RL 17 yX0_setRate, Cond.instanceMethod yX0_setRate, Cond.selects RX0 yX0_setRate yX0_setRate, Cond.code yX0_setRate cX0_setRate 3 (some .int), Cond.methodLink RL 104 yX1_setRate, Cond.instanceMethod yX1_setRate, Cond.selects RX1 yX1_setRate yX1_setRate, Cond.code yX1_setRate cX1_setRate 3 (some .int), Cond.methodLink RL 105 yL_buy, Cond.static yL_buy, Cond.codeWith yL_buy cL_buy 4 (some .int) [(0, 9, 12, 13), (0, 9, 15, 24)], Cond.classLink RL 24 "java/lang/IllegalStateException", Cond.methodLink RL 21 yX0_buy, Cond.instanceMethod yX0_buy, Cond.selects RX0 yX0_buy yX0_buy, Cond.code yX0_buy cX0_buy 3 (some .int), Cond.classLink RX0 93 "java/lang/IllegalStateException", Cond.initialized "java/lang/IllegalStateException", Cond.methodLink RX0 98 yX0_lowestEmptyFrame, Cond.instanceMethod yX0_lowestEmptyFrame, Cond.selects RX0 yX0_lowestEmptyFrame yX0_lowestEmptyFrame, Cond.code yX0_lowestEmptyFrame cX0_lowestEmptyFrame 3 (some .int), Cond.methodLink RX0 102 yX0_isFrame, Cond.static yX0_isFrame]
def wsL_law0_r6 : List Cond := [Cond.code yX0_isFrame cX0_isFrame 1 (some .boolean), Cond.methodLink RL 107 yX1_buy, Cond.instanceMethod yX1_buy, Cond.selects RX1 yX1_buy yX1_buy, Cond.code yX1_buy cX1_buy 3 (some .int), Cond.methodLink RX1 80 yX1_lowestFree, Cond.instanceMethod yX1_lowestFree, Cond.selects RX1 yX1_lowestFree yX1_lowestFree, Cond.code yX1_lowestFree cX1_lowestFree 3 (some .int), Cond.methodLink RL 108 yL_sell, Cond.static yL_sell, Cond.codeWith yL_sell cL_sell 4 (some .int) [(0, 9, 12, 13), (0, 9, 15, 24)], Cond.methodLink RL 26 yX0_sell, Cond.instanceMethod yX0_sell, Cond.selects RX0 yX0_sell yX0_sell, Cond.code yX0_sell cX0_sell 3 (some .int), Cond.methodLink RL 110 yX1_sell, Cond.instanceMethod yX1_sell, Cond.selects RX1 yX1_sell yX1_sell, Cond.code yX1_sell cX1_sell 3 (some .int), Cond.methodLink RX1 84 yX1_isFrame, Cond.static yX1_isFrame, Cond.code yX1_isFrame cX1_isFrame 1 (some .boolean), Cond.methodLink RX1 87 yX1_isEmpty]
def wsL_law0_r7 : List Cond := [Cond.instanceMethod yX1_isEmpty, Cond.selects RX1 yX1_isEmpty yX1_isEmpty, Cond.code yX1_isEmpty cX1_isEmpty 2 (some .boolean), Cond.methodLink RL 111 yL_drop, Cond.static yL_drop, Cond.codeWith yL_drop cL_drop 4 (some .int) [(0, 9, 12, 13), (0, 9, 15, 24)], Cond.methodLink RL 29 yX0_drop, Cond.instanceMethod yX0_drop, Cond.selects RX0 yX0_drop yX0_drop, Cond.code yX0_drop cX0_drop 3 (some .int), Cond.methodLink RX0 115 yX0_dropPage, Cond.instanceMethod yX0_dropPage, Cond.selects RX0 yX0_dropPage yX0_dropPage, Cond.code yX0_dropPage cX0_dropPage 2 none, Cond.methodLink RL 113 yX1_drop, Cond.instanceMethod yX1_drop, Cond.selects RX1 yX1_drop yX1_drop, Cond.code yX1_drop cX1_drop 3 (some .int), Cond.methodLink RX1 67 yX1_hasPage, Cond.instanceMethod yX1_hasPage, Cond.selects RX1 yX1_hasPage yX1_hasPage, Cond.code yX1_hasPage cX1_hasPage 2 (some .boolean), Cond.methodLink RL 114 yL_touch, Cond.static yL_touch]
def wsL_law0_r8 : List Cond := [Cond.codeWith yL_touch cL_touch 5 (some .int) [(0, 10, 13, 13), (0, 10, 17, 24)], Cond.methodLink RL 32 yX0_touch, Cond.instanceMethod yX0_touch, Cond.selects RX0 yX0_touch yX0_touch, Cond.code yX0_touch cX0_touch 5 (some .int), Cond.methodLink RX0 119 yX0_isPage, Cond.static yX0_isPage, Cond.code yX0_isPage cX0_isPage 1 (some .boolean), Cond.methodLink RX0 126 yX0_frameWithPage, Cond.instanceMethod yX0_frameWithPage, Cond.selects RX0 yX0_frameWithPage yX0_frameWithPage, Cond.code yX0_frameWithPage cX0_frameWithPage 4 (some .int), Cond.methodLink RX0 130 yX0_frameForFault, Cond.instanceMethod yX0_frameForFault, Cond.selects RX0 yX0_frameForFault yX0_frameForFault, Cond.code yX0_frameForFault cX0_frameForFault 3 (some .int), Cond.methodLink RX0 167 yX0_callIn, Cond.instanceMethod yX0_callIn, Cond.selects RX0 yX0_callIn yX0_callIn, Cond.code yX0_callIn cX0_callIn 3 (some .int), Cond.methodLink RX0 140 yX0_isComing, Cond.instanceMethod yX0_isComing, Cond.selects RX0 yX0_isComing yX0_isComing, Cond.code yX0_isComing cX0_isComing 2 (some .boolean)]
def wsL_law0_r9 : List Cond := [Cond.methodLink RX0 145 yX0_endLoan, Cond.instanceMethod yX0_endLoan, Cond.selects RX0 yX0_endLoan yX0_endLoan, Cond.code yX0_endLoan cX0_endLoan 3 none, Cond.methodLink RX0 170 yX0_borrow, Cond.instanceMethod yX0_borrow, Cond.selects RX0 yX0_borrow yX0_borrow, Cond.code yX0_borrow cX0_borrow 4 (some .int), Cond.methodLink RX0 159 yX0_countBorrowed, Cond.instanceMethod yX0_countBorrowed, Cond.selects RX0 yX0_countBorrowed yX0_countBorrowed, Cond.code yX0_countBorrowed cX0_countBorrowed 4 (some .int), Cond.methodLink RX0 176 yX0_richestLender, Cond.instanceMethod yX0_richestLender, Cond.selects RX0 yX0_richestLender yX0_richestLender, Cond.code yX0_richestLender cX0_richestLender 5 (some .int), Cond.methodLink RX0 179 yX0_frameToLend, Cond.instanceMethod yX0_frameToLend, Cond.selects RX0 yX0_frameToLend yX0_frameToLend, Cond.code yX0_frameToLend cX0_frameToLend 5 (some .int), Cond.methodLink RX0 156 yX0_ageOf, Cond.instanceMethod yX0_ageOf, Cond.selects RX0 yX0_ageOf yX0_ageOf, Cond.code yX0_ageOf cX0_ageOf 2 (some .int)]
def wsL_law0_r10 : List Cond := [Cond.methodLink RX0 173 yX0_oldestFrame, Cond.instanceMethod yX0_oldestFrame, Cond.selects RX0 yX0_oldestFrame yX0_oldestFrame, Cond.code yX0_oldestFrame cX0_oldestFrame 5 (some .int), Cond.methodLink RL 116 yX1_touch, Cond.instanceMethod yX1_touch, Cond.selects RX1 yX1_touch yX1_touch, Cond.code yX1_touch cX1_touch 4 (some .int), Cond.fieldLink RX1 71 "AlmsKernelModel" "tick" "I", Cond.methodLink RX1 140 yX1_frameWith, Cond.instanceMethod yX1_frameWith, Cond.selects RX1 yX1_frameWith yX1_frameWith, Cond.code yX1_frameWith cX1_frameWith 5 (some .int), Cond.methodLink RX1 90 yX1_holderOf, Cond.instanceMethod yX1_holderOf, Cond.selects RX1 yX1_holderOf yX1_holderOf, Cond.code yX1_holderOf cX1_holderOf 2 (some .int), Cond.methodLink RX1 144 yX1_frameFor, Cond.instanceMethod yX1_frameFor, Cond.selects RX1 yX1_frameFor yX1_frameFor, Cond.code yX1_frameFor cX1_frameFor 5 (some .int), Cond.fieldLink RX1 64 "AlmsKernelModel" "loans" "I", Cond.methodLink RX1 114 yX1_emptyOf, Cond.instanceMethod yX1_emptyOf]
def wsL_law0_r11 : List Cond := [Cond.selects RX1 yX1_emptyOf yX1_emptyOf, Cond.code yX1_emptyOf cX1_emptyOf 4 (some .int), Cond.methodLink RX1 117 yX1_calledIn, Cond.instanceMethod yX1_calledIn, Cond.selects RX1 yX1_calledIn yX1_calledIn, Cond.code yX1_calledIn cX1_calledIn 4 (some .int), Cond.methodLink RX1 94 yX1_doesLast, Cond.instanceMethod yX1_doesLast, Cond.selects RX1 yX1_doesLast yX1_doesLast, Cond.code yX1_doesLast cX1_doesLast 2 (some .boolean), Cond.methodLink RX1 97 yX1_isComing, Cond.instanceMethod yX1_isComing, Cond.selects RX1 yX1_isComing yX1_isComing, Cond.code yX1_isComing cX1_isComing 2 (some .boolean), Cond.methodLink RX1 120 yX1_ends, Cond.instanceMethod yX1_ends, Cond.selects RX1 yX1_ends yX1_ends, Cond.code yX1_ends cX1_ends 3 none, Cond.methodLink RX1 124 yX1_borrowedBy, Cond.instanceMethod yX1_borrowedBy, Cond.selects RX1 yX1_borrowedBy yX1_borrowedBy, Cond.code yX1_borrowedBy cX1_borrowedBy 4 (some .int), Cond.methodLink RX1 127 yX1_lenderFor, Cond.instanceMethod yX1_lenderFor]
def wsL_law0_r12 : List Cond := [Cond.selects RX1 yX1_lenderFor yX1_lenderFor, Cond.code yX1_lenderFor cX1_lenderFor 5 (some .int), Cond.methodLink RX1 107 yX1_isLender, Cond.instanceMethod yX1_isLender, Cond.selects RX1 yX1_isLender yX1_isLender, Cond.code yX1_isLender cX1_isLender 4 (some .boolean), Cond.methodLink RX1 103 yX1_canLend, Cond.instanceMethod yX1_canLend, Cond.selects RX1 yX1_canLend yX1_canLend, Cond.code yX1_canLend cX1_canLend 4 (some .boolean), Cond.methodLink RX1 100 yX1_ageOf, Cond.instanceMethod yX1_ageOf, Cond.selects RX1 yX1_ageOf yX1_ageOf, Cond.code yX1_ageOf cX1_ageOf 2 (some .int), Cond.methodLink RX1 130 yX1_oldestOf, Cond.instanceMethod yX1_oldestOf, Cond.selects RX1 yX1_oldestOf yX1_oldestOf, Cond.code yX1_oldestOf cX1_oldestOf 5 (some .int), Cond.methodLink RX1 133 yX1_frameOf, Cond.instanceMethod yX1_frameOf, Cond.selects RX1 yX1_frameOf yX1_frameOf, Cond.code yX1_frameOf cX1_frameOf 4 (some .int), Cond.methodLink RX1 111 yX1_worth, Cond.instanceMethod yX1_worth]
def wsL_law0_r13 : List Cond := [Cond.selects RX1 yX1_worth yX1_worth, Cond.code yX1_worth cX1_worth 2 (some .int), Cond.constant RX1 110 (50001), Cond.methodLink RX1 136 yX1_lends, Cond.instanceMethod yX1_lends, Cond.selects RX1 yX1_lends yX1_lends, Cond.code yX1_lends cX1_lends 3 none, Cond.methodLink RL 117 yL_payBack, Cond.static yL_payBack, Cond.codeWith yL_payBack cL_payBack 4 (some .int) [(0, 9, 12, 13), (0, 9, 15, 24)], Cond.methodLink RL 35 yX0_payBack, Cond.instanceMethod yX0_payBack, Cond.selects RX0 yX0_payBack yX0_payBack, Cond.code yX0_payBack cX0_payBack 2 (some .int), Cond.methodLink RX0 135 yX0_isLoan, Cond.instanceMethod yX0_isLoan, Cond.selects RX0 yX0_isLoan yX0_isLoan, Cond.code yX0_isLoan cX0_isLoan 2 (some .boolean), Cond.methodLink RL 119 yX1_payBack, Cond.instanceMethod yX1_payBack, Cond.selects RX1 yX1_payBack yX1_payBack, Cond.code yX1_payBack cX1_payBack 2 (some .int), Cond.methodLink RX1 147 yX1_isLoan, Cond.instanceMethod yX1_isLoan]
def wsL_law0_r14 : List Cond := [Cond.selects RX1 yX1_isLoan yX1_isLoan, Cond.code yX1_isLoan cX1_isLoan 2 (some .boolean), Cond.methodLink RL 120 yL_advance, Cond.static yL_advance, Cond.codeWith yL_advance cL_advance 4 (some .int) [(0, 9, 12, 15), (0, 9, 15, 24)], Cond.methodLink RL 38 yX0_advance, Cond.instanceMethod yX0_advance, Cond.selects RX0 yX0_advance yX0_advance, Cond.code yX0_advance cX0_advance 3 (some .int), Cond.constant RX0 150 (50000), Cond.methodLink RX0 153 yX0_passTick, Cond.instanceMethod yX0_passTick, Cond.selects RX0 yX0_passTick yX0_passTick, Cond.code yX0_passTick cX0_passTick 1 none, Cond.methodLink RX0 184 yX0_payWages, Cond.instanceMethod yX0_payWages, Cond.selects RX0 yX0_payWages yX0_payWages, Cond.code yX0_payWages cX0_payWages 2 none, Cond.methodLink RX0 187 yX0_chargeLoans, Cond.instanceMethod yX0_chargeLoans, Cond.selects RX0 yX0_chargeLoans yX0_chargeLoans, Cond.code yX0_chargeLoans cX0_chargeLoans 2 none, Cond.methodLink RX0 196 yX0_charge, Cond.instanceMethod yX0_charge]
def wsL_law0_r15 : List Cond := [Cond.selects RX0 yX0_charge yX0_charge, Cond.code yX0_charge cX0_charge 4 none, Cond.methodLink RX0 199 yX0_putToSleep, Cond.instanceMethod yX0_putToSleep, Cond.selects RX0 yX0_putToSleep yX0_putToSleep, Cond.code yX0_putToSleep cX0_putToSleep 3 none, Cond.methodLink RX0 190 yX0_giveAlms, Cond.instanceMethod yX0_giveAlms, Cond.selects RX0 yX0_giveAlms yX0_giveAlms, Cond.code yX0_giveAlms cX0_giveAlms 3 none, Cond.methodLink RX0 202 yX0_richestGiver, Cond.instanceMethod yX0_richestGiver, Cond.selects RX0 yX0_richestGiver yX0_richestGiver, Cond.code yX0_richestGiver cX0_richestGiver 4 (some .int), Cond.methodLink RX0 193 yX0_moveDisk, Cond.instanceMethod yX0_moveDisk, Cond.selects RX0 yX0_moveDisk yX0_moveDisk, Cond.code yX0_moveDisk cX0_moveDisk 2 none, Cond.methodLink RX0 209 yX0_nearestRequest, Cond.instanceMethod yX0_nearestRequest, Cond.selects RX0 yX0_nearestRequest yX0_nearestRequest, Cond.code yX0_nearestRequest cX0_nearestRequest 7 (some .int), Cond.methodLink RX0 215 Lib.Math.abs.name, Cond.static Lib.Math.abs.name]
def wsL_law0_r16 : List Cond := [Cond.initialized "java/lang/Math", Cond.code Lib.Math.abs.name Lib.Math.abs.code 1 (some .int), Cond.methodLink RX0 206 yX0_trackOf, Cond.instanceMethod yX0_trackOf, Cond.selects RX0 yX0_trackOf yX0_trackOf, Cond.code yX0_trackOf cX0_trackOf 2 (some .int), Cond.methodLink RX0 212 yX0_finishRequest, Cond.instanceMethod yX0_finishRequest, Cond.selects RX0 yX0_finishRequest yX0_finishRequest, Cond.code yX0_finishRequest cX0_finishRequest 3 none, Cond.methodLink RL 122 yX1_advance, Cond.instanceMethod yX1_advance, Cond.selects RX1 yX1_advance yX1_advance, Cond.code yX1_advance cX1_advance 4 (some .int), Cond.constant RX1 168 (50000), Cond.methodLink RX1 169 yX1_pays, Cond.instanceMethod yX1_pays, Cond.selects RX1 yX1_pays yX1_pays, Cond.code yX1_pays cX1_pays 2 none, Cond.methodLink RX1 150 yX1_sleeps, Cond.instanceMethod yX1_sleeps, Cond.selects RX1 yX1_sleeps yX1_sleeps, Cond.code yX1_sleeps cX1_sleeps 3 none, Cond.methodLink RX1 172 yX1_gives]
def wsL_law0_r17 : List Cond := [Cond.instanceMethod yX1_gives, Cond.selects RX1 yX1_gives yX1_gives, Cond.code yX1_gives cX1_gives 3 none, Cond.methodLink RX1 153 yX1_richest, Cond.instanceMethod yX1_richest, Cond.selects RX1 yX1_richest yX1_richest, Cond.code yX1_richest cX1_richest 4 (some .int), Cond.methodLink RX1 175 yX1_turns, Cond.instanceMethod yX1_turns, Cond.selects RX1 yX1_turns yX1_turns, Cond.code yX1_turns cX1_turns 2 none, Cond.fieldLink RX1 159 "AlmsKernelModel" "head" "I", Cond.methodLink RX1 165 yX1_nearest, Cond.instanceMethod yX1_nearest, Cond.selects RX1 yX1_nearest yX1_nearest, Cond.code yX1_nearest cX1_nearest 6 (some .int), Cond.methodLink RX1 162 yX1_distance, Cond.instanceMethod yX1_distance, Cond.selects RX1 yX1_distance yX1_distance, Cond.code yX1_distance cX1_distance 3 (some .int), Cond.methodLink RX1 156 yX1_trackOf, Cond.instanceMethod yX1_trackOf, Cond.selects RX1 yX1_trackOf yX1_trackOf, Cond.code yX1_trackOf cX1_trackOf 2 (some .int)]
def wsL_law0_r18 : List Cond := [Cond.methodLink RL 123 yX0_tick, Cond.instanceMethod yX0_tick, Cond.selects RX0 yX0_tick yX0_tick, Cond.code yX0_tick cX0_tick 1 (some .int), Cond.methodLink RL 126 yX1_tick, Cond.instanceMethod yX1_tick, Cond.selects RX1 yX1_tick yX1_tick, Cond.code yX1_tick cX1_tick 1 (some .int), Cond.methodLink RL 127 yL_owner, Cond.static yL_owner, Cond.codeWith yL_owner cL_owner 4 (some .int) [(0, 9, 12, 13)], Cond.methodLink RL 41 yX0_owner, Cond.instanceMethod yX0_owner, Cond.selects RX0 yX0_owner yX0_owner, Cond.code yX0_owner cX0_owner 2 (some .int), Cond.methodLink RL 129 yX1_owner, Cond.instanceMethod yX1_owner, Cond.selects RX1 yX1_owner yX1_owner, Cond.code yX1_owner cX1_owner 2 (some .int), Cond.methodLink RL 130 yL_holder, Cond.static yL_holder, Cond.codeWith yL_holder cL_holder 4 (some .int) [(0, 9, 12, 13)], Cond.methodLink RL 44 yX0_holder, Cond.instanceMethod yX0_holder]
def wsL_law0_r19 : List Cond := [Cond.selects RX0 yX0_holder yX0_holder, Cond.code yX0_holder cX0_holder 2 (some .int), Cond.methodLink RL 132 yX1_holder, Cond.instanceMethod yX1_holder, Cond.selects RX1 yX1_holder yX1_holder, Cond.code yX1_holder cX1_holder 2 (some .int), Cond.methodLink RL 133 yL_holderByLog, Cond.static yL_holderByLog, Cond.codeWith yL_holderByLog cL_holderByLog 4 (some .int) [(0, 9, 12, 13)], Cond.methodLink RL 47 yX0_holderByLog, Cond.instanceMethod yX0_holderByLog, Cond.selects RX0 yX0_holderByLog yX0_holderByLog, Cond.code yX0_holderByLog cX0_holderByLog 3 (some .int), Cond.methodLink RL 135 yX1_holderByLog, Cond.instanceMethod yX1_holderByLog, Cond.selects RX1 yX1_holderByLog yX1_holderByLog, Cond.code yX1_holderByLog cX1_holderByLog 2 (some .int), Cond.methodLink RL 136 yL_pageIn, Cond.static yL_pageIn, Cond.codeWith yL_pageIn cL_pageIn 4 (some .int) [(0, 9, 12, 13)], Cond.methodLink RL 50 yX0_pageIn, Cond.instanceMethod yX0_pageIn, Cond.selects RX0 yX0_pageIn yX0_pageIn, Cond.code yX0_pageIn cX0_pageIn 2 (some .int)]
def wsL_law0_r20 : List Cond := [Cond.methodLink RL 138 yX1_pageIn, Cond.instanceMethod yX1_pageIn, Cond.selects RX1 yX1_pageIn yX1_pageIn, Cond.code yX1_pageIn cX1_pageIn 2 (some .int), Cond.methodLink RL 139 yL_age, Cond.static yL_age, Cond.codeWith yL_age cL_age 4 (some .int) [(0, 9, 12, 13)], Cond.methodLink RL 53 yX0_age, Cond.instanceMethod yX0_age, Cond.selects RX0 yX0_age yX0_age, Cond.code yX0_age cX0_age 2 (some .int), Cond.methodLink RL 141 yX1_age, Cond.instanceMethod yX1_age, Cond.selects RX1 yX1_age yX1_age, Cond.code yX1_age cX1_age 2 (some .int), Cond.methodLink RL 142 yX0_free, Cond.instanceMethod yX0_free, Cond.selects RX0 yX0_free yX0_free, Cond.code yX0_free cX0_free 3 (some .int), Cond.methodLink RL 145 yX1_free, Cond.instanceMethod yX1_free, Cond.selects RX1 yX1_free yX1_free, Cond.code yX1_free cX1_free 3 (some .int), Cond.methodLink RL 146 yL_owns]
def wsL_law0_r21 : List Cond := [Cond.static yL_owns, Cond.codeWith yL_owns cL_owns 4 (some .int) [(0, 9, 12, 13)], Cond.methodLink RL 56 yX0_owns, Cond.instanceMethod yX0_owns, Cond.selects RX0 yX0_owns yX0_owns, Cond.code yX0_owns cX0_owns 4 (some .int), Cond.methodLink RL 148 yX1_owns, Cond.instanceMethod yX1_owns, Cond.selects RX1 yX1_owns yX1_owns, Cond.code yX1_owns cX1_owns 5 (some .int), Cond.methodLink RL 149 yL_borrowed, Cond.static yL_borrowed, Cond.codeWith yL_borrowed cL_borrowed 4 (some .int) [(0, 9, 12, 13)], Cond.methodLink RL 59 yX0_borrowed, Cond.instanceMethod yX0_borrowed, Cond.selects RX0 yX0_borrowed yX0_borrowed, Cond.code yX0_borrowed cX0_borrowed 2 (some .int), Cond.methodLink RL 151 yX1_borrowed, Cond.instanceMethod yX1_borrowed, Cond.selects RX1 yX1_borrowed yX1_borrowed, Cond.code yX1_borrowed cX1_borrowed 2 (some .int), Cond.methodLink RL 152 yL_lent, Cond.static yL_lent, Cond.codeWith yL_lent cL_lent 4 (some .int) [(0, 9, 12, 13)]]
def wsL_law0_r22 : List Cond := [Cond.methodLink RL 62 yX0_lent, Cond.instanceMethod yX0_lent, Cond.selects RX0 yX0_lent yX0_lent, Cond.code yX0_lent cX0_lent 4 (some .int), Cond.methodLink RL 154 yX1_lent, Cond.instanceMethod yX1_lent, Cond.selects RX1 yX1_lent yX1_lent, Cond.code yX1_lent cX1_lent 5 (some .int), Cond.methodLink RL 155 yL_stateOf, Cond.static yL_stateOf, Cond.codeWith yL_stateOf cL_stateOf 4 (some .int) [(0, 9, 12, 13)], Cond.methodLink RL 65 yX0_stateOf, Cond.instanceMethod yX0_stateOf, Cond.selects RX0 yX0_stateOf yX0_stateOf, Cond.code yX0_stateOf cX0_stateOf 2 (some .int), Cond.methodLink RL 157 yX1_stateOf, Cond.instanceMethod yX1_stateOf, Cond.selects RX1 yX1_stateOf yX1_stateOf, Cond.code yX1_stateOf cX1_stateOf 2 (some .int), Cond.methodLink RL 158 yL_purse, Cond.static yL_purse, Cond.codeWith yL_purse cL_purse 4 (some .int) [(0, 9, 12, 13)], Cond.methodLink RL 68 yX0_purse, Cond.instanceMethod yX0_purse]
def wsL_law0_r23 : List Cond := [Cond.selects RX0 yX0_purse yX0_purse, Cond.code yX0_purse cX0_purse 2 (some .int), Cond.methodLink RL 160 yX1_purse, Cond.instanceMethod yX1_purse, Cond.selects RX1 yX1_purse yX1_purse, Cond.code yX1_purse cX1_purse 2 (some .int), Cond.methodLink RL 161 yL_faults, Cond.static yL_faults, Cond.codeWith yL_faults cL_faults 4 (some .int) [(0, 9, 12, 13)], Cond.methodLink RL 71 yX0_faults, Cond.instanceMethod yX0_faults, Cond.selects RX0 yX0_faults yX0_faults, Cond.code yX0_faults cX0_faults 2 (some .int), Cond.methodLink RL 163 yX1_faults, Cond.instanceMethod yX1_faults, Cond.selects RX1 yX1_faults yX1_faults, Cond.code yX1_faults cX1_faults 2 (some .int), Cond.methodLink RL 164 yX0_loans, Cond.instanceMethod yX0_loans, Cond.selects RX0 yX0_loans yX0_loans, Cond.code yX0_loans cX0_loans 1 (some .int), Cond.methodLink RL 167 yX1_loans, Cond.instanceMethod yX1_loans, Cond.selects RX1 yX1_loans yX1_loans]
def wsL_law0_r24 : List Cond := [Cond.code yX1_loans cX1_loans 1 (some .int), Cond.methodLink RL 168 yL_lasts, Cond.static yL_lasts, Cond.codeWith yL_lasts cL_lasts 4 (some .int) [(0, 16, 19, 13)], Cond.methodLink RL 74 yX0_lasts, Cond.instanceMethod yX0_lasts, Cond.selects RX0 yX0_lasts yX0_lasts, Cond.code yX0_lasts cX0_lasts 2 (some .boolean), Cond.methodLink RL 170 yX1_lasts, Cond.instanceMethod yX1_lasts, Cond.selects RX1 yX1_lasts yX1_lasts, Cond.code yX1_lasts cX1_lasts 2 (some .boolean), Cond.methodLink RL 171 yL_partiesOf, Cond.static yL_partiesOf, Cond.codeWith yL_partiesOf cL_partiesOf 4 (some .int) [(0, 9, 12, 13)], Cond.methodLink RL 78 yX0_partiesOf, Cond.instanceMethod yX0_partiesOf, Cond.selects RX0 yX0_partiesOf yX0_partiesOf, Cond.code yX0_partiesOf cX0_partiesOf 2 (some .int), Cond.methodLink RL 173 yX1_partiesOf, Cond.instanceMethod yX1_partiesOf, Cond.selects RX1 yX1_partiesOf yX1_partiesOf, Cond.code yX1_partiesOf cX1_partiesOf 2 (some .int), Cond.methodLink RL 174 yL_interest]
def wsL_law0_r25 : List Cond := [Cond.static yL_interest, Cond.codeWith yL_interest cL_interest 4 (some .int) [(0, 9, 12, 13)], Cond.methodLink RL 81 yX0_interest, Cond.instanceMethod yX0_interest, Cond.selects RX0 yX0_interest yX0_interest, Cond.code yX0_interest cX0_interest 2 (some .int), Cond.methodLink RL 176 yX1_interest, Cond.instanceMethod yX1_interest, Cond.selects RX1 yX1_interest yX1_interest, Cond.code yX1_interest cX1_interest 2 (some .int), Cond.methodLink RL 177 yX0_head, Cond.instanceMethod yX0_head, Cond.selects RX0 yX0_head yX0_head, Cond.code yX0_head cX0_head 1 (some .int), Cond.methodLink RL 180 yX1_head, Cond.instanceMethod yX1_head, Cond.selects RX1 yX1_head yX1_head, Cond.code yX1_head cX1_head 1 (some .int), Cond.methodLink RL 181 yX0_requests, Cond.instanceMethod yX0_requests, Cond.selects RX0 yX0_requests yX0_requests, Cond.code yX0_requests cX0_requests 3 (some .int), Cond.methodLink RL 184 yX1_requests, Cond.instanceMethod yX1_requests]
def wsL_law0_r26 : List Cond := [Cond.selects RX1 yX1_requests yX1_requests, Cond.code yX1_requests cX1_requests 3 (some .int), Cond.methodLink RL 185 yL_requestAt, Cond.static yL_requestAt, Cond.codeWith yL_requestAt cL_requestAt 4 (some .int) [(0, 9, 12, 13)], Cond.methodLink RL 84 yX0_requestAt, Cond.instanceMethod yX0_requestAt, Cond.selects RX0 yX0_requestAt yX0_requestAt, Cond.code yX0_requestAt cX0_requestAt 4 (some .int), Cond.methodLink RX0 164 yX0_isRequested, Cond.instanceMethod yX0_isRequested, Cond.selects RX0 yX0_isRequested yX0_isRequested, Cond.code yX0_isRequested cX0_isRequested 3 (some .boolean), Cond.methodLink RL 187 yX1_requestAt, Cond.instanceMethod yX1_requestAt, Cond.selects RX1 yX1_requestAt yX1_requestAt, Cond.code yX1_requestAt cX1_requestAt 6 (some .int)]
def wsL_law0 : List Cond := (wsL_law0_r1 ++ (wsL_law0_r2 ++ (wsL_law0_r3 ++ (wsL_law0_r4 ++ (wsL_law0_r5 ++ (wsL_law0_r6 ++ (wsL_law0_r7 ++ (wsL_law0_r8 ++ (wsL_law0_r9 ++ (wsL_law0_r10 ++ (wsL_law0_r11 ++ (wsL_law0_r12 ++ (wsL_law0_r13 ++ (wsL_law0_r14 ++ (wsL_law0_r15 ++ (wsL_law0_r16 ++ (wsL_law0_r17 ++ (wsL_law0_r18 ++ (wsL_law0_r19 ++ (wsL_law0_r20 ++ (wsL_law0_r21 ++ (wsL_law0_r22 ++ (wsL_law0_r23 ++ (wsL_law0_r24 ++ (wsL_law0_r25 ++ wsL_law0_r26))))))))))))))))))))))))) ++ wsX00 ++ wsX10 ++ ([] : List Cond)
def wsL_law : List Cond := wsL_law0 ++ (vx_atS RX0 83 "java/lang/IndexOutOfBoundsException" ["java/lang/RuntimeException", "java/lang/Exception"]).filter goodWord ++ (vx_atS RX0 90 "java/lang/IllegalArgumentException" ["java/lang/RuntimeException", "java/lang/Exception"]).filter goodWord ++ (vx_atS RX0 97 "java/lang/IllegalStateException" ["java/lang/RuntimeException", "java/lang/Exception"]).filter goodWord
abbrev vwCl : List vw_C := [(RX0, TX0, 19), (RX1, TX1, 19)]
end
section
set_option maxRecDepth 20000 in
theorem wsL_law0_r1_in : ∀ w ∈ wsL_law0_r1, w ∈ lw_tbl := fun w h => (goodIn_p wsL_law0_r1 [72, 75] rfl (by decide +kernel) w h).1
set_option maxRecDepth 20000 in
theorem wsL_law0_r2_in : ∀ w ∈ wsL_law0_r2, w ∈ lw_tbl := fun w h => (goodIn_p wsL_law0_r2 [78, 559] rfl (by decide +kernel) w h).1
set_option maxRecDepth 20000 in
theorem wsL_law0_r3_in : ∀ w ∈ wsL_law0_r3, w ∈ lw_tbl := fun w h => (goodIn_p wsL_law0_r3 [174] rfl (by decide +kernel) w h).1
set_option maxRecDepth 20000 in
theorem wsL_law0_r4_in : ∀ w ∈ wsL_law0_r4, w ∈ lw_tbl := fun w h => (goodIn_p wsL_law0_r4 [177, 626, 629, 632, 636, 622] rfl (by decide +kernel) w h).1
set_option maxRecDepth 20000 in
theorem wsL_law0_r5_in : ∀ w ∈ wsL_law0_r5, w ∈ lw_tbl := fun w h => (goodIn_p wsL_law0_r5 [268, 640, 277, 297] rfl (by decide +kernel) w h).1
set_option maxRecDepth 20000 in
theorem wsL_law0_r6_in : ∀ w ∈ wsL_law0_r6, w ∈ lw_tbl := fun w h => (goodIn_p wsL_law0_r6 [165, 644, 648, 305, 652, 655] rfl (by decide +kernel) w h).1
set_option maxRecDepth 20000 in
theorem wsL_law0_r7_in : ∀ w ∈ wsL_law0_r7, w ∈ lw_tbl := fun w h => (goodIn_p wsL_law0_r7 [659, 315, 320, 663, 667] rfl (by decide +kernel) w h).1
set_option maxRecDepth 20000 in
theorem wsL_law0_r8_in : ∀ w ∈ wsL_law0_r8, w ∈ lw_tbl := fun w h => (goodIn_p wsL_law0_r8 [327, 330, 336, 340, 344, 162] rfl (by decide +kernel) w h).1
set_option maxRecDepth 20000 in
theorem wsL_law0_r9_in : ∀ w ∈ wsL_law0_r9, w ∈ lw_tbl := fun w h => (goodIn_p wsL_law0_r9 [348, 352, 356, 360, 364, 368] rfl (by decide +kernel) w h).1
set_option maxRecDepth 20000 in
theorem wsL_law0_r10_in : ∀ w ∈ wsL_law0_r10, w ∈ lw_tbl := fun w h => (goodIn_p wsL_law0_r10 [373, 671, 675, 679, 683] rfl (by decide +kernel) w h).1
set_option maxRecDepth 20000 in
theorem wsL_law0_r11_in : ∀ w ∈ wsL_law0_r11, w ∈ lw_tbl := fun w h => (goodIn_p wsL_law0_r11 [687, 691, 695, 699, 703, 707] rfl (by decide +kernel) w h).1
set_option maxRecDepth 20000 in
theorem wsL_law0_r12_in : ∀ w ∈ wsL_law0_r12, w ∈ lw_tbl := fun w h => (goodIn_p wsL_law0_r12 [711, 715, 719, 723, 727, 731] rfl (by decide +kernel) w h).1
set_option maxRecDepth 20000 in
theorem wsL_law0_r13_in : ∀ w ∈ wsL_law0_r13, w ∈ lw_tbl := fun w h => (goodIn_p wsL_law0_r13 [735, 740, 381, 385, 744] rfl (by decide +kernel) w h).1
set_option maxRecDepth 20000 in
theorem wsL_law0_r14_in : ∀ w ∈ wsL_law0_r14, w ∈ lw_tbl := fun w h => (goodIn_p wsL_law0_r14 [748, 394, 401, 405, 409] rfl (by decide +kernel) w h).1
set_option maxRecDepth 20000 in
theorem wsL_law0_r15_in : ∀ w ∈ wsL_law0_r15, w ∈ lw_tbl := fun w h => (goodIn_p wsL_law0_r15 [413, 417, 421, 425, 429, 433] rfl (by decide +kernel) w h).1
set_option maxRecDepth 20000 in
theorem wsL_law0_r16_in : ∀ w ∈ wsL_law0_r16, w ∈ lw_tbl := fun w h => (goodIn_p wsL_law0_r16 [440, 437, 444, 752, 757, 761] rfl (by decide +kernel) w h).1
set_option maxRecDepth 20000 in
theorem wsL_law0_r17_in : ∀ w ∈ wsL_law0_r17, w ∈ lw_tbl := fun w h => (goodIn_p wsL_law0_r17 [765, 769, 773, 777, 781, 785] rfl (by decide +kernel) w h).1
set_option maxRecDepth 20000 in
theorem wsL_law0_r18_in : ∀ w ∈ wsL_law0_r18, w ∈ lw_tbl := fun w h => (goodIn_p wsL_law0_r18 [142, 789, 451, 793] rfl (by decide +kernel) w h).1
set_option maxRecDepth 20000 in
theorem wsL_law0_r19_in : ∀ w ∈ wsL_law0_r19, w ∈ lw_tbl := fun w h => (goodIn_p wsL_law0_r19 [458, 797, 465, 801, 472] rfl (by decide +kernel) w h).1
set_option maxRecDepth 20000 in
theorem wsL_law0_r20_in : ∀ w ∈ wsL_law0_r20, w ∈ lw_tbl := fun w h => (goodIn_p wsL_law0_r20 [805, 479, 809, 146, 813] rfl (by decide +kernel) w h).1
set_option maxRecDepth 20000 in
theorem wsL_law0_r21_in : ∀ w ∈ wsL_law0_r21, w ∈ lw_tbl := fun w h => (goodIn_p wsL_law0_r21 [486, 817, 493, 821] rfl (by decide +kernel) w h).1
set_option maxRecDepth 20000 in
theorem wsL_law0_r22_in : ∀ w ∈ wsL_law0_r22, w ∈ lw_tbl := fun w h => (goodIn_p wsL_law0_r22 [500, 825, 507, 829] rfl (by decide +kernel) w h).1
set_option maxRecDepth 20000 in
theorem wsL_law0_r23_in : ∀ w ∈ wsL_law0_r23, w ∈ lw_tbl := fun w h => (goodIn_p wsL_law0_r23 [514, 833, 521, 837, 150] rfl (by decide +kernel) w h).1
set_option maxRecDepth 20000 in
theorem wsL_law0_r24_in : ∀ w ∈ wsL_law0_r24, w ∈ lw_tbl := fun w h => (goodIn_p wsL_law0_r24 [841, 528, 845, 535, 849] rfl (by decide +kernel) w h).1
set_option maxRecDepth 20000 in
theorem wsL_law0_r25_in : ∀ w ∈ wsL_law0_r25, w ∈ lw_tbl := fun w h => (goodIn_p wsL_law0_r25 [542, 853, 154, 857, 158] rfl (by decide +kernel) w h).1
set_option maxRecDepth 20000 in
theorem wsL_law0_r26_in : ∀ w ∈ wsL_law0_r26, w ∈ lw_tbl := fun w h => (goodIn_p wsL_law0_r26 [861, 549, 554, 865] rfl (by decide +kernel) w h).1
set_option maxRecDepth 20000 in
theorem wsX00_in0 : ∀ w ∈ wsX00, w ∈ lw_tbl := fun w h => (goodIn_p wsX00 [] rfl (by decide +kernel) w h).1
set_option maxRecDepth 20000 in
theorem wsX10_in0 : ∀ w ∈ wsX10, w ∈ lw_tbl := fun w h => (goodIn_p wsX10 [] rfl (by decide +kernel) w h).1
theorem wsL_law0_rs_in : ∀ w ∈ (wsL_law0_r1 ++ (wsL_law0_r2 ++ (wsL_law0_r3 ++ (wsL_law0_r4 ++ (wsL_law0_r5 ++ (wsL_law0_r6 ++ (wsL_law0_r7 ++ (wsL_law0_r8 ++ (wsL_law0_r9 ++ (wsL_law0_r10 ++ (wsL_law0_r11 ++ (wsL_law0_r12 ++ (wsL_law0_r13 ++ (wsL_law0_r14 ++ (wsL_law0_r15 ++ (wsL_law0_r16 ++ (wsL_law0_r17 ++ (wsL_law0_r18 ++ (wsL_law0_r19 ++ (wsL_law0_r20 ++ (wsL_law0_r21 ++ (wsL_law0_r22 ++ (wsL_law0_r23 ++ (wsL_law0_r24 ++ (wsL_law0_r25 ++ wsL_law0_r26))))))))))))))))))))))))), w ∈ lw_tbl := fun w h => (List.mem_append.mp h).elim (wsL_law0_r1_in w) (fun h => (List.mem_append.mp h).elim (wsL_law0_r2_in w) (fun h => (List.mem_append.mp h).elim (wsL_law0_r3_in w) (fun h => (List.mem_append.mp h).elim (wsL_law0_r4_in w) (fun h => (List.mem_append.mp h).elim (wsL_law0_r5_in w) (fun h => (List.mem_append.mp h).elim (wsL_law0_r6_in w) (fun h => (List.mem_append.mp h).elim (wsL_law0_r7_in w) (fun h => (List.mem_append.mp h).elim (wsL_law0_r8_in w) (fun h => (List.mem_append.mp h).elim (wsL_law0_r9_in w) (fun h => (List.mem_append.mp h).elim (wsL_law0_r10_in w) (fun h => (List.mem_append.mp h).elim (wsL_law0_r11_in w) (fun h => (List.mem_append.mp h).elim (wsL_law0_r12_in w) (fun h => (List.mem_append.mp h).elim (wsL_law0_r13_in w) (fun h => (List.mem_append.mp h).elim (wsL_law0_r14_in w) (fun h => (List.mem_append.mp h).elim (wsL_law0_r15_in w) (fun h => (List.mem_append.mp h).elim (wsL_law0_r16_in w) (fun h => (List.mem_append.mp h).elim (wsL_law0_r17_in w) (fun h => (List.mem_append.mp h).elim (wsL_law0_r18_in w) (fun h => (List.mem_append.mp h).elim (wsL_law0_r19_in w) (fun h => (List.mem_append.mp h).elim (wsL_law0_r20_in w) (fun h => (List.mem_append.mp h).elim (wsL_law0_r21_in w) (fun h => (List.mem_append.mp h).elim (wsL_law0_r22_in w) (fun h => (List.mem_append.mp h).elim (wsL_law0_r23_in w) (fun h => (List.mem_append.mp h).elim (wsL_law0_r24_in w) (fun h => (List.mem_append.mp h).elim (wsL_law0_r25_in w) (fun h => wsL_law0_r26_in w h)))))))))))))))))))))))))
theorem wsL_law_in0 : ∀ w ∈ wsL_law0, w ∈ lw_tbl := fun w h => (List.mem_append.mp h).elim (fun h => (List.mem_append.mp h).elim (fun h => (List.mem_append.mp h).elim (wsL_law0_rs_in w) (wsX00_in0 w)) (wsX10_in0 w)) (fun h => absurd h List.not_mem_nil)
theorem wsL_law_x0 : ∀ w ∈ (vx_atS RX0 83 "java/lang/IndexOutOfBoundsException" ["java/lang/RuntimeException", "java/lang/Exception"]).filter goodWord, w ∈ lw_tbl := by decide +kernel
theorem wsL_law_x1 : ∀ w ∈ (vx_atS RX0 90 "java/lang/IllegalArgumentException" ["java/lang/RuntimeException", "java/lang/Exception"]).filter goodWord, w ∈ lw_tbl := by decide +kernel
theorem wsL_law_x2 : ∀ w ∈ (vx_atS RX0 97 "java/lang/IllegalStateException" ["java/lang/RuntimeException", "java/lang/Exception"]).filter goodWord, w ∈ lw_tbl := by decide +kernel
theorem wsL_law_in : ∀ w ∈ wsL_law, w ∈ lw_tbl := fun w h => (List.mem_append.mp h).elim (fun h => (List.mem_append.mp h).elim (fun h => (List.mem_append.mp h).elim (fun h => wsL_law_in0 w h) (fun h => wsL_law_x0 w h)) (fun h => wsL_law_x1 w h)) (fun h => wsL_law_x2 w h)
theorem inlX0 : ∀ w ∈ wsX00, w ∈ wsL_law := fun _ h => List.mem_append_left _ (List.mem_append_left _ (List.mem_append_left _ (List.mem_append_left _ (List.mem_append_left _ (List.mem_append_right _ h)))))
theorem inX0 : ∀ w ∈ wsX00, w ∈ lw_tbl := fun w h => wsL_law_in w (inlX0 w h)
theorem inlX1 : ∀ w ∈ wsX10, w ∈ wsL_law := fun _ h => List.mem_append_left _ (List.mem_append_left _ (List.mem_append_left _ (List.mem_append_left _ (List.mem_append_right _ h))))
theorem inX1 : ∀ w ∈ wsX10, w ∈ lw_tbl := fun w h => wsL_law_in w (inlX1 w h)
theorem inJx145de : ∀ w ∈ wsJx145de0, w ∈ lw_tbl := by decide +kernel
theorem inJ9 : ∀ w ∈ wsJ90, w ∈ lw_tbl := by decide +kernel
theorem inJ0 : ∀ w ∈ wsJ00, w ∈ lw_tbl := by decide +kernel
theorem inJ7 : ∀ w ∈ wsJ70, w ∈ lw_tbl := by decide +kernel
end
section
set_option maxRecDepth 20000 in
theorem ggX0_init_J7_fill_53178 : GoodIn wsX0_init wsJ7_fill_53178 := goodIn_r _ [28] (by decide +kernel) (by decide +kernel)
set_option maxRecDepth 20000 in
theorem gX0_init_J7_fill_53178 : GoodIn wsX0_init (va_wsS RX0 69 yJ7_fill_53178 wsJ7_fill_53178) := goodIn_app (goodIn_of _ (by decide +kernel)) ggX0_init_J7_fill_53178
theorem dX0_init_0 : decode cX0_init 0 = .ok (.aload_n 0, 1) := by decide +kernel
theorem dX0_init_1 : decode cX0_init 1 = .ok (.invokespecial 3, 3) := by decide +kernel
theorem dX0_init_4 : decode cX0_init 4 = .ok (.aload_n 0, 1) := by decide +kernel
theorem dX0_init_5 : decode cX0_init 5 = .ok (.iconst 5, 1) := by decide +kernel
theorem dX0_init_6 : decode cX0_init 6 = .ok (.newarray .int, 2) := by decide +kernel
theorem dX0_init_8 : decode cX0_init 8 = .ok (.putfield 9, 3) := by decide +kernel
theorem dX0_init_11 : decode cX0_init 11 = .ok (.aload_n 0, 1) := by decide +kernel
theorem dX0_init_12 : decode cX0_init 12 = .ok (.iconst 5, 1) := by decide +kernel
theorem dX0_init_13 : decode cX0_init 13 = .ok (.newarray .int, 2) := by decide +kernel
theorem dX0_init_15 : decode cX0_init 15 = .ok (.putfield 13, 3) := by decide +kernel
theorem dX0_init_18 : decode cX0_init 18 = .ok (.aload_n 0, 1) := by decide +kernel
theorem dX0_init_19 : decode cX0_init 19 = .ok (.iconst 5, 1) := by decide +kernel
theorem dX0_init_20 : decode cX0_init 20 = .ok (.newarray .int, 2) := by decide +kernel
theorem dX0_init_22 : decode cX0_init 22 = .ok (.putfield 16, 3) := by decide +kernel
theorem dX0_init_25 : decode cX0_init 25 = .ok (.aload_n 0, 1) := by decide +kernel
theorem dX0_init_26 : decode cX0_init 26 = .ok (.iconst 5, 1) := by decide +kernel
theorem dX0_init_27 : decode cX0_init 27 = .ok (.newarray .int, 2) := by decide +kernel
theorem dX0_init_29 : decode cX0_init 29 = .ok (.putfield 19, 3) := by decide +kernel
theorem dX0_init_32 : decode cX0_init 32 = .ok (.aload_n 0, 1) := by decide +kernel
theorem dX0_init_33 : decode cX0_init 33 = .ok (.bipush 12, 2) := by decide +kernel
theorem dX0_init_35 : decode cX0_init 35 = .ok (.newarray .int, 2) := by decide +kernel
theorem dX0_init_37 : decode cX0_init 37 = .ok (.putfield 22, 3) := by decide +kernel
theorem dX0_init_40 : decode cX0_init 40 = .ok (.aload_n 0, 1) := by decide +kernel
theorem dX0_init_41 : decode cX0_init 41 = .ok (.bipush 12, 2) := by decide +kernel
theorem dX0_init_43 : decode cX0_init 43 = .ok (.newarray .int, 2) := by decide +kernel
theorem dX0_init_45 : decode cX0_init 45 = .ok (.putfield 25, 3) := by decide +kernel
theorem dX0_init_48 : decode cX0_init 48 = .ok (.aload_n 0, 1) := by decide +kernel
theorem dX0_init_49 : decode cX0_init 49 = .ok (.bipush 12, 2) := by decide +kernel
theorem dX0_init_51 : decode cX0_init 51 = .ok (.newarray .int, 2) := by decide +kernel
theorem dX0_init_53 : decode cX0_init 53 = .ok (.putfield 28, 3) := by decide +kernel
theorem dX0_init_56 : decode cX0_init 56 = .ok (.aload_n 0, 1) := by decide +kernel
theorem dX0_init_57 : decode cX0_init 57 = .ok (.bipush 12, 2) := by decide +kernel
theorem dX0_init_59 : decode cX0_init 59 = .ok (.newarray .boolean, 2) := by decide +kernel
theorem dX0_init_61 : decode cX0_init 61 = .ok (.putfield 31, 3) := by decide +kernel
theorem dX0_init_64 : decode cX0_init 64 = .ok (.aload_n 0, 1) := by decide +kernel
theorem dX0_init_65 : decode cX0_init 65 = .ok (.bipush 12, 2) := by decide +kernel
theorem dX0_init_67 : decode cX0_init 67 = .ok (.newarray .int, 2) := by decide +kernel
theorem dX0_init_69 : decode cX0_init 69 = .ok (.putfield 35, 3) := by decide +kernel
theorem dX0_init_72 : decode cX0_init 72 = .ok (.aload_n 0, 1) := by decide +kernel
theorem dX0_init_73 : decode cX0_init 73 = .ok (.bipush 60, 2) := by decide +kernel
theorem dX0_init_75 : decode cX0_init 75 = .ok (.newarray .int, 2) := by decide +kernel
theorem dX0_init_77 : decode cX0_init 77 = .ok (.putfield 38, 3) := by decide +kernel
theorem dX0_init_80 : decode cX0_init 80 = .ok (.aload_n 0, 1) := by decide +kernel
theorem dX0_init_81 : decode cX0_init 81 = .ok (.bipush 60, 2) := by decide +kernel
theorem dX0_init_83 : decode cX0_init 83 = .ok (.newarray .int, 2) := by decide +kernel
theorem dX0_init_85 : decode cX0_init 85 = .ok (.putfield 41, 3) := by decide +kernel
theorem dX0_init_88 : decode cX0_init 88 = .ok (.aload_n 0, 1) := by decide +kernel
theorem dX0_init_89 : decode cX0_init 89 = .ok (.bipush 60, 2) := by decide +kernel
theorem dX0_init_91 : decode cX0_init 91 = .ok (.newarray .int, 2) := by decide +kernel
theorem dX0_init_93 : decode cX0_init 93 = .ok (.putfield 44, 3) := by decide +kernel
theorem dX0_init_96 : decode cX0_init 96 = .ok (.aload_n 0, 1) := by decide +kernel
theorem dX0_init_97 : decode cX0_init 97 = .ok (.bipush 60, 2) := by decide +kernel
theorem dX0_init_99 : decode cX0_init 99 = .ok (.newarray .boolean, 2) := by decide +kernel
theorem dX0_init_101 : decode cX0_init 101 = .ok (.putfield 47, 3) := by decide +kernel
theorem dX0_init_104 : decode cX0_init 104 = .ok (.aload_n 0, 1) := by decide +kernel
theorem dX0_init_105 : decode cX0_init 105 = .ok (.bipush 60, 2) := by decide +kernel
theorem dX0_init_107 : decode cX0_init 107 = .ok (.newarray .int, 2) := by decide +kernel
theorem dX0_init_109 : decode cX0_init 109 = .ok (.putfield 50, 3) := by decide +kernel
theorem dX0_init_112 : decode cX0_init 112 = .ok (.aload_n 0, 1) := by decide +kernel
theorem dX0_init_113 : decode cX0_init 113 = .ok (.iconst 0, 1) := by decide +kernel
theorem dX0_init_114 : decode cX0_init 114 = .ok (.putfield 53, 3) := by decide +kernel
theorem dX0_init_117 : decode cX0_init 117 = .ok (.aload_n 0, 1) := by decide +kernel
theorem dX0_init_118 : decode cX0_init 118 = .ok (.iconst 1, 1) := by decide +kernel
theorem dX0_init_119 : decode cX0_init 119 = .ok (.putfield 57, 3) := by decide +kernel
theorem dX0_init_122 : decode cX0_init 122 = .ok (.aload_n 0, 1) := by decide +kernel
theorem dX0_init_123 : decode cX0_init 123 = .ok (.iconst 0, 1) := by decide +kernel
theorem dX0_init_124 : decode cX0_init 124 = .ok (.putfield 60, 3) := by decide +kernel
theorem dX0_init_127 : decode cX0_init 127 = .ok (.aload_n 0, 1) := by decide +kernel
theorem dX0_init_128 : decode cX0_init 128 = .ok (.iconst 0, 1) := by decide +kernel
theorem dX0_init_129 : decode cX0_init 129 = .ok (.putfield 63, 3) := by decide +kernel
theorem dX0_init_132 : decode cX0_init 132 = .ok (.aload_n 0, 1) := by decide +kernel
theorem dX0_init_133 : decode cX0_init 133 = .ok (.iconst (-1), 1) := by decide +kernel
theorem dX0_init_134 : decode cX0_init 134 = .ok (.putfield 66, 3) := by decide +kernel
theorem dX0_init_137 : decode cX0_init 137 = .ok (.aload_n 0, 1) := by decide +kernel
theorem dX0_init_138 : decode cX0_init 138 = .ok (.getfield 13, 3) := by decide +kernel
theorem dX0_init_141 : decode cX0_init 141 = .ok (.bipush 20, 2) := by decide +kernel
theorem dX0_init_143 : decode cX0_init 143 = .ok (.invokestatic 69, 3) := by decide +kernel
theorem dX0_init_146 : decode cX0_init 146 = .ok (.aload_n 0, 1) := by decide +kernel
theorem dX0_init_147 : decode cX0_init 147 = .ok (.getfield 16, 3) := by decide +kernel
theorem dX0_init_150 : decode cX0_init 150 = .ok (.iconst 0, 1) := by decide +kernel
theorem dX0_init_151 : decode cX0_init 151 = .ok (.invokestatic 69, 3) := by decide +kernel
theorem dX0_init_154 : decode cX0_init 154 = .ok (.aload_n 0, 1) := by decide +kernel
theorem dX0_init_155 : decode cX0_init 155 = .ok (.getfield 22, 3) := by decide +kernel
theorem dX0_init_158 : decode cX0_init 158 = .ok (.iconst (-1), 1) := by decide +kernel
theorem dX0_init_159 : decode cX0_init 159 = .ok (.invokestatic 69, 3) := by decide +kernel
theorem dX0_init_162 : decode cX0_init 162 = .ok (.aload_n 0, 1) := by decide +kernel
theorem dX0_init_163 : decode cX0_init 163 = .ok (.getfield 25, 3) := by decide +kernel
theorem dX0_init_166 : decode cX0_init 166 = .ok (.iconst (-1), 1) := by decide +kernel
theorem dX0_init_167 : decode cX0_init 167 = .ok (.invokestatic 69, 3) := by decide +kernel
theorem dX0_init_170 : decode cX0_init 170 = .ok (.aload_n 0, 1) := by decide +kernel
theorem dX0_init_171 : decode cX0_init 171 = .ok (.getfield 28, 3) := by decide +kernel
theorem dX0_init_174 : decode cX0_init 174 = .ok (.iconst (-1), 1) := by decide +kernel
theorem dX0_init_175 : decode cX0_init 175 = .ok (.invokestatic 69, 3) := by decide +kernel
theorem dX0_init_178 : decode cX0_init 178 = .ok (.return_, 1) := by decide +kernel
set_option maxRecDepth 20000 in
theorem ggX0_setWage_X0_isProcess : GoodIn wsX0_setWage wsX0_isProcess := goodIn_r _ [9] (by decide +kernel) (by decide +kernel)
set_option maxRecDepth 20000 in
theorem gX0_setWage_X0_isProcess : GoodIn wsX0_setWage (va_wsS RX0 75 yX0_isProcess wsX0_isProcess) := goodIn_app (goodIn_of _ (by decide +kernel)) ggX0_setWage_X0_isProcess
theorem dX0_setWage_0 : decode cX0_setWage 0 = .ok (.iload_n 1, 1) := by decide +kernel
theorem dX0_setWage_1 : decode cX0_setWage 1 = .ok (.invokestatic 75, 3) := by decide +kernel
theorem dX0_setWage_4 : decode cX0_setWage 4 = .ok (.ifCond .ne 13, 3) := by decide +kernel
theorem dX0_setWage_7 : decode cX0_setWage 7 = .ok (.new 79, 3) := by decide +kernel
theorem dX0_setWage_10 : decode cX0_setWage 10 = .ok (.dup, 1) := by decide +kernel
theorem dX0_setWage_11 : decode cX0_setWage 11 = .ok (.ldc 81, 2) := by decide +kernel
theorem dX0_setWage_13 : decode cX0_setWage 13 = .ok (.invokespecial 83, 3) := by decide +kernel
theorem dX0_setWage_16 : decode cX0_setWage 16 = .ok (.athrow, 1) := by decide +kernel
theorem dX0_setWage_17 : decode cX0_setWage 17 = .ok (.iload_n 2, 1) := by decide +kernel
theorem dX0_setWage_18 : decode cX0_setWage 18 = .ok (.ifCond .lt 9, 3) := by decide +kernel
theorem dX0_setWage_21 : decode cX0_setWage 21 = .ok (.iload_n 2, 1) := by decide +kernel
theorem dX0_setWage_22 : decode cX0_setWage 22 = .ok (.bipush 9, 2) := by decide +kernel
theorem dX0_setWage_24 : decode cX0_setWage 24 = .ok (.if_icmp .le 13, 3) := by decide +kernel
theorem dX0_setWage_27 : decode cX0_setWage 27 = .ok (.new 86, 3) := by decide +kernel
theorem dX0_setWage_30 : decode cX0_setWage 30 = .ok (.dup, 1) := by decide +kernel
theorem dX0_setWage_31 : decode cX0_setWage 31 = .ok (.ldc 88, 2) := by decide +kernel
theorem dX0_setWage_33 : decode cX0_setWage 33 = .ok (.invokespecial 90, 3) := by decide +kernel
theorem dX0_setWage_36 : decode cX0_setWage 36 = .ok (.athrow, 1) := by decide +kernel
theorem dX0_setWage_37 : decode cX0_setWage 37 = .ok (.aload_n 0, 1) := by decide +kernel
theorem dX0_setWage_38 : decode cX0_setWage 38 = .ok (.getfield 9, 3) := by decide +kernel
theorem dX0_setWage_41 : decode cX0_setWage 41 = .ok (.iload_n 1, 1) := by decide +kernel
theorem dX0_setWage_42 : decode cX0_setWage 42 = .ok (.iaload, 1) := by decide +kernel
theorem dX0_setWage_43 : decode cX0_setWage 43 = .ok (.istore_n 3, 1) := by decide +kernel
theorem dX0_setWage_44 : decode cX0_setWage 44 = .ok (.aload_n 0, 1) := by decide +kernel
theorem dX0_setWage_45 : decode cX0_setWage 45 = .ok (.getfield 9, 3) := by decide +kernel
theorem dX0_setWage_48 : decode cX0_setWage 48 = .ok (.iload_n 1, 1) := by decide +kernel
theorem dX0_setWage_49 : decode cX0_setWage 49 = .ok (.iload_n 2, 1) := by decide +kernel
theorem dX0_setWage_50 : decode cX0_setWage 50 = .ok (.iastore, 1) := by decide +kernel
theorem dX0_setWage_51 : decode cX0_setWage 51 = .ok (.iload_n 3, 1) := by decide +kernel
theorem dX0_setWage_52 : decode cX0_setWage 52 = .ok (.ireturn, 1) := by decide +kernel
theorem dX0_setRate_0 : decode cX0_setRate 0 = .ok (.iload_n 1, 1) := by decide +kernel
theorem dX0_setRate_1 : decode cX0_setRate 1 = .ok (.ifCond .lt 9, 3) := by decide +kernel
theorem dX0_setRate_4 : decode cX0_setRate 4 = .ok (.iload_n 1, 1) := by decide +kernel
theorem dX0_setRate_5 : decode cX0_setRate 5 = .ok (.bipush 9, 2) := by decide +kernel
theorem dX0_setRate_7 : decode cX0_setRate 7 = .ok (.if_icmp .le 13, 3) := by decide +kernel
theorem dX0_setRate_10 : decode cX0_setRate 10 = .ok (.new 86, 3) := by decide +kernel
theorem dX0_setRate_13 : decode cX0_setRate 13 = .ok (.dup, 1) := by decide +kernel
theorem dX0_setRate_14 : decode cX0_setRate 14 = .ok (.ldc 91, 2) := by decide +kernel
theorem dX0_setRate_16 : decode cX0_setRate 16 = .ok (.invokespecial 90, 3) := by decide +kernel
theorem dX0_setRate_19 : decode cX0_setRate 19 = .ok (.athrow, 1) := by decide +kernel
theorem dX0_setRate_20 : decode cX0_setRate 20 = .ok (.aload_n 0, 1) := by decide +kernel
theorem dX0_setRate_21 : decode cX0_setRate 21 = .ok (.getfield 57, 3) := by decide +kernel
theorem dX0_setRate_24 : decode cX0_setRate 24 = .ok (.istore_n 2, 1) := by decide +kernel
theorem dX0_setRate_25 : decode cX0_setRate 25 = .ok (.aload_n 0, 1) := by decide +kernel
theorem dX0_setRate_26 : decode cX0_setRate 26 = .ok (.iload_n 1, 1) := by decide +kernel
theorem dX0_setRate_27 : decode cX0_setRate 27 = .ok (.putfield 57, 3) := by decide +kernel
theorem dX0_setRate_30 : decode cX0_setRate 30 = .ok (.iload_n 2, 1) := by decide +kernel
theorem dX0_setRate_31 : decode cX0_setRate 31 = .ok (.ireturn, 1) := by decide +kernel
set_option maxRecDepth 20000 in
theorem ggX0_buy_X0_isProcess : GoodIn wsX0_buy wsX0_isProcess := goodIn_r _ [12] (by decide +kernel) (by decide +kernel)
set_option maxRecDepth 20000 in
theorem gX0_buy_X0_isProcess : GoodIn wsX0_buy (va_wsS RX0 75 yX0_isProcess wsX0_isProcess) := goodIn_app (goodIn_of _ (by decide +kernel)) ggX0_buy_X0_isProcess
set_option maxRecDepth 20000 in
theorem ggX0_buy_X0_lowestEmptyFrame : GoodIn wsX0_buy wsX0_lowestEmptyFrame := goodIn_r _ [16, 8, 17, 21, 22, 23, 24, 25, 26, 27, 28, 29, 30, 31, 32, 33, 34, 35, 36, 37, 38, 39] (by decide +kernel) (by decide +kernel)
set_option maxRecDepth 20000 in
theorem gX0_buy_X0_lowestEmptyFrame : GoodIn wsX0_buy (wsV RX0 98 RX0 yX0_lowestEmptyFrame wsX0_lowestEmptyFrame) := goodIn_app (goodIn_of _ (by decide +kernel)) ggX0_buy_X0_lowestEmptyFrame
set_option maxRecDepth 20000 in
theorem ggX0_buy_X0_isFrame : GoodIn wsX0_buy wsX0_isFrame := goodIn_r _ [20] (by decide +kernel) (by decide +kernel)
set_option maxRecDepth 20000 in
theorem gX0_buy_X0_isFrame : GoodIn wsX0_buy (va_wsS RX0 102 yX0_isFrame wsX0_isFrame) := goodIn_app (goodIn_of _ (by decide +kernel)) ggX0_buy_X0_isFrame
theorem dX0_buy_0 : decode cX0_buy 0 = .ok (.iload_n 1, 1) := by decide +kernel
theorem dX0_buy_1 : decode cX0_buy 1 = .ok (.invokestatic 75, 3) := by decide +kernel
theorem dX0_buy_4 : decode cX0_buy 4 = .ok (.ifCond .ne 13, 3) := by decide +kernel
theorem dX0_buy_7 : decode cX0_buy 7 = .ok (.new 79, 3) := by decide +kernel
theorem dX0_buy_10 : decode cX0_buy 10 = .ok (.dup, 1) := by decide +kernel
theorem dX0_buy_11 : decode cX0_buy 11 = .ok (.ldc 81, 2) := by decide +kernel
theorem dX0_buy_13 : decode cX0_buy 13 = .ok (.invokespecial 83, 3) := by decide +kernel
theorem dX0_buy_16 : decode cX0_buy 16 = .ok (.athrow, 1) := by decide +kernel
theorem dX0_buy_17 : decode cX0_buy 17 = .ok (.aload_n 0, 1) := by decide +kernel
theorem dX0_buy_18 : decode cX0_buy 18 = .ok (.getfield 16, 3) := by decide +kernel
theorem dX0_buy_21 : decode cX0_buy 21 = .ok (.iload_n 1, 1) := by decide +kernel
theorem dX0_buy_22 : decode cX0_buy 22 = .ok (.iaload, 1) := by decide +kernel
theorem dX0_buy_23 : decode cX0_buy 23 = .ok (.iconst 2, 1) := by decide +kernel
theorem dX0_buy_24 : decode cX0_buy 24 = .ok (.if_icmp .eq 14, 3) := by decide +kernel
theorem dX0_buy_27 : decode cX0_buy 27 = .ok (.aload_n 0, 1) := by decide +kernel
theorem dX0_buy_28 : decode cX0_buy 28 = .ok (.getfield 13, 3) := by decide +kernel
theorem dX0_buy_31 : decode cX0_buy 31 = .ok (.iload_n 1, 1) := by decide +kernel
theorem dX0_buy_32 : decode cX0_buy 32 = .ok (.iaload, 1) := by decide +kernel
theorem dX0_buy_33 : decode cX0_buy 33 = .ok (.bipush 8, 2) := by decide +kernel
theorem dX0_buy_35 : decode cX0_buy 35 = .ok (.if_icmp .ge 13, 3) := by decide +kernel
theorem dX0_buy_38 : decode cX0_buy 38 = .ok (.new 93, 3) := by decide +kernel
theorem dX0_buy_41 : decode cX0_buy 41 = .ok (.dup, 1) := by decide +kernel
theorem dX0_buy_42 : decode cX0_buy 42 = .ok (.ldc 95, 2) := by decide +kernel
theorem dX0_buy_44 : decode cX0_buy 44 = .ok (.invokespecial 97, 3) := by decide +kernel
theorem dX0_buy_47 : decode cX0_buy 47 = .ok (.athrow, 1) := by decide +kernel
theorem dX0_buy_48 : decode cX0_buy 48 = .ok (.aload_n 0, 1) := by decide +kernel
theorem dX0_buy_49 : decode cX0_buy 49 = .ok (.iconst (-1), 1) := by decide +kernel
theorem dX0_buy_50 : decode cX0_buy 50 = .ok (.invokevirtual 98, 3) := by decide +kernel
theorem dX0_buy_53 : decode cX0_buy 53 = .ok (.istore_n 2, 1) := by decide +kernel
theorem dX0_buy_54 : decode cX0_buy 54 = .ok (.iload_n 2, 1) := by decide +kernel
theorem dX0_buy_55 : decode cX0_buy 55 = .ok (.invokestatic 102, 3) := by decide +kernel
theorem dX0_buy_58 : decode cX0_buy 58 = .ok (.ifCond .ne 13, 3) := by decide +kernel
theorem dX0_buy_61 : decode cX0_buy 61 = .ok (.new 93, 3) := by decide +kernel
theorem dX0_buy_64 : decode cX0_buy 64 = .ok (.dup, 1) := by decide +kernel
theorem dX0_buy_65 : decode cX0_buy 65 = .ok (.ldc 105, 2) := by decide +kernel
theorem dX0_buy_67 : decode cX0_buy 67 = .ok (.invokespecial 97, 3) := by decide +kernel
theorem dX0_buy_70 : decode cX0_buy 70 = .ok (.athrow, 1) := by decide +kernel
theorem dX0_buy_71 : decode cX0_buy 71 = .ok (.aload_n 0, 1) := by decide +kernel
theorem dX0_buy_72 : decode cX0_buy 72 = .ok (.getfield 13, 3) := by decide +kernel
theorem dX0_buy_75 : decode cX0_buy 75 = .ok (.iload_n 1, 1) := by decide +kernel
theorem dX0_buy_76 : decode cX0_buy 76 = .ok (.dup2, 1) := by decide +kernel
theorem dX0_buy_77 : decode cX0_buy 77 = .ok (.iaload, 1) := by decide +kernel
theorem dX0_buy_78 : decode cX0_buy 78 = .ok (.bipush 8, 2) := by decide +kernel
theorem dX0_buy_80 : decode cX0_buy 80 = .ok (.isub, 1) := by decide +kernel
theorem dX0_buy_81 : decode cX0_buy 81 = .ok (.iastore, 1) := by decide +kernel
theorem dX0_buy_82 : decode cX0_buy 82 = .ok (.aload_n 0, 1) := by decide +kernel
theorem dX0_buy_83 : decode cX0_buy 83 = .ok (.getfield 22, 3) := by decide +kernel
theorem dX0_buy_86 : decode cX0_buy 86 = .ok (.iload_n 2, 1) := by decide +kernel
theorem dX0_buy_87 : decode cX0_buy 87 = .ok (.iload_n 1, 1) := by decide +kernel
theorem dX0_buy_88 : decode cX0_buy 88 = .ok (.iastore, 1) := by decide +kernel
theorem dX0_buy_89 : decode cX0_buy 89 = .ok (.aload_n 0, 1) := by decide +kernel
theorem dX0_buy_90 : decode cX0_buy 90 = .ok (.getfield 25, 3) := by decide +kernel
theorem dX0_buy_93 : decode cX0_buy 93 = .ok (.iload_n 2, 1) := by decide +kernel
theorem dX0_buy_94 : decode cX0_buy 94 = .ok (.iload_n 1, 1) := by decide +kernel
theorem dX0_buy_95 : decode cX0_buy 95 = .ok (.iastore, 1) := by decide +kernel
theorem dX0_buy_96 : decode cX0_buy 96 = .ok (.iload_n 2, 1) := by decide +kernel
theorem dX0_buy_97 : decode cX0_buy 97 = .ok (.ireturn, 1) := by decide +kernel
set_option maxRecDepth 20000 in
theorem ggX0_sell_X0_isFrame : GoodIn wsX0_sell wsX0_isFrame := goodIn_r _ [13] (by decide +kernel) (by decide +kernel)
set_option maxRecDepth 20000 in
theorem gX0_sell_X0_isFrame : GoodIn wsX0_sell (va_wsS RX0 102 yX0_isFrame wsX0_isFrame) := goodIn_app (goodIn_of _ (by decide +kernel)) ggX0_sell_X0_isFrame
set_option maxRecDepth 20000 in
theorem ggX0_sell_X0_isProcess : GoodIn wsX0_sell wsX0_isProcess := goodIn_r _ [16] (by decide +kernel) (by decide +kernel)
set_option maxRecDepth 20000 in
theorem gX0_sell_X0_isProcess : GoodIn wsX0_sell (va_wsS RX0 75 yX0_isProcess wsX0_isProcess) := goodIn_app (goodIn_of _ (by decide +kernel)) ggX0_sell_X0_isProcess
theorem dX0_sell_0 : decode cX0_sell 0 = .ok (.iload_n 1, 1) := by decide +kernel
theorem dX0_sell_1 : decode cX0_sell 1 = .ok (.invokestatic 102, 3) := by decide +kernel
theorem dX0_sell_4 : decode cX0_sell 4 = .ok (.ifCond .ne 13, 3) := by decide +kernel
theorem dX0_sell_7 : decode cX0_sell 7 = .ok (.new 79, 3) := by decide +kernel
theorem dX0_sell_10 : decode cX0_sell 10 = .ok (.dup, 1) := by decide +kernel
theorem dX0_sell_11 : decode cX0_sell 11 = .ok (.ldc 107, 2) := by decide +kernel
theorem dX0_sell_13 : decode cX0_sell 13 = .ok (.invokespecial 83, 3) := by decide +kernel
theorem dX0_sell_16 : decode cX0_sell 16 = .ok (.athrow, 1) := by decide +kernel
theorem dX0_sell_17 : decode cX0_sell 17 = .ok (.aload_n 0, 1) := by decide +kernel
theorem dX0_sell_18 : decode cX0_sell 18 = .ok (.getfield 22, 3) := by decide +kernel
theorem dX0_sell_21 : decode cX0_sell 21 = .ok (.iload_n 1, 1) := by decide +kernel
theorem dX0_sell_22 : decode cX0_sell 22 = .ok (.iaload, 1) := by decide +kernel
theorem dX0_sell_23 : decode cX0_sell 23 = .ok (.istore_n 2, 1) := by decide +kernel
theorem dX0_sell_24 : decode cX0_sell 24 = .ok (.iload_n 2, 1) := by decide +kernel
theorem dX0_sell_25 : decode cX0_sell 25 = .ok (.invokestatic 75, 3) := by decide +kernel
theorem dX0_sell_28 : decode cX0_sell 28 = .ok (.ifCond .ne 13, 3) := by decide +kernel
theorem dX0_sell_31 : decode cX0_sell 31 = .ok (.new 93, 3) := by decide +kernel
theorem dX0_sell_34 : decode cX0_sell 34 = .ok (.dup, 1) := by decide +kernel
theorem dX0_sell_35 : decode cX0_sell 35 = .ok (.ldc 109, 2) := by decide +kernel
theorem dX0_sell_37 : decode cX0_sell 37 = .ok (.invokespecial 97, 3) := by decide +kernel
theorem dX0_sell_40 : decode cX0_sell 40 = .ok (.athrow, 1) := by decide +kernel
theorem dX0_sell_41 : decode cX0_sell 41 = .ok (.aload_n 0, 1) := by decide +kernel
theorem dX0_sell_42 : decode cX0_sell 42 = .ok (.getfield 25, 3) := by decide +kernel
theorem dX0_sell_45 : decode cX0_sell 45 = .ok (.iload_n 1, 1) := by decide +kernel
theorem dX0_sell_46 : decode cX0_sell 46 = .ok (.iaload, 1) := by decide +kernel
theorem dX0_sell_47 : decode cX0_sell 47 = .ok (.iload_n 2, 1) := by decide +kernel
theorem dX0_sell_48 : decode cX0_sell 48 = .ok (.if_icmp .ne 23, 3) := by decide +kernel
theorem dX0_sell_51 : decode cX0_sell 51 = .ok (.aload_n 0, 1) := by decide +kernel
theorem dX0_sell_52 : decode cX0_sell 52 = .ok (.getfield 28, 3) := by decide +kernel
theorem dX0_sell_55 : decode cX0_sell 55 = .ok (.iload_n 1, 1) := by decide +kernel
theorem dX0_sell_56 : decode cX0_sell 56 = .ok (.iaload, 1) := by decide +kernel
theorem dX0_sell_57 : decode cX0_sell 57 = .ok (.iconst (-1), 1) := by decide +kernel
theorem dX0_sell_58 : decode cX0_sell 58 = .ok (.if_icmp .ne 13, 3) := by decide +kernel
theorem dX0_sell_61 : decode cX0_sell 61 = .ok (.aload_n 0, 1) := by decide +kernel
theorem dX0_sell_62 : decode cX0_sell 62 = .ok (.getfield 16, 3) := by decide +kernel
theorem dX0_sell_65 : decode cX0_sell 65 = .ok (.iload_n 2, 1) := by decide +kernel
theorem dX0_sell_66 : decode cX0_sell 66 = .ok (.iaload, 1) := by decide +kernel
theorem dX0_sell_67 : decode cX0_sell 67 = .ok (.iconst 2, 1) := by decide +kernel
theorem dX0_sell_68 : decode cX0_sell 68 = .ok (.if_icmp .ne 13, 3) := by decide +kernel
theorem dX0_sell_71 : decode cX0_sell 71 = .ok (.new 93, 3) := by decide +kernel
theorem dX0_sell_74 : decode cX0_sell 74 = .ok (.dup, 1) := by decide +kernel
theorem dX0_sell_75 : decode cX0_sell 75 = .ok (.ldc 111, 2) := by decide +kernel
theorem dX0_sell_77 : decode cX0_sell 77 = .ok (.invokespecial 97, 3) := by decide +kernel
theorem dX0_sell_80 : decode cX0_sell 80 = .ok (.athrow, 1) := by decide +kernel
theorem dX0_sell_81 : decode cX0_sell 81 = .ok (.aload_n 0, 1) := by decide +kernel
theorem dX0_sell_82 : decode cX0_sell 82 = .ok (.getfield 22, 3) := by decide +kernel
theorem dX0_sell_85 : decode cX0_sell 85 = .ok (.iload_n 1, 1) := by decide +kernel
theorem dX0_sell_86 : decode cX0_sell 86 = .ok (.iconst (-1), 1) := by decide +kernel
theorem dX0_sell_87 : decode cX0_sell 87 = .ok (.iastore, 1) := by decide +kernel
theorem dX0_sell_88 : decode cX0_sell 88 = .ok (.aload_n 0, 1) := by decide +kernel
theorem dX0_sell_89 : decode cX0_sell 89 = .ok (.getfield 25, 3) := by decide +kernel
theorem dX0_sell_92 : decode cX0_sell 92 = .ok (.iload_n 1, 1) := by decide +kernel
theorem dX0_sell_93 : decode cX0_sell 93 = .ok (.iconst (-1), 1) := by decide +kernel
theorem dX0_sell_94 : decode cX0_sell 94 = .ok (.iastore, 1) := by decide +kernel
theorem dX0_sell_95 : decode cX0_sell 95 = .ok (.aload_n 0, 1) := by decide +kernel
theorem dX0_sell_96 : decode cX0_sell 96 = .ok (.getfield 13, 3) := by decide +kernel
theorem dX0_sell_99 : decode cX0_sell 99 = .ok (.iload_n 2, 1) := by decide +kernel
theorem dX0_sell_100 : decode cX0_sell 100 = .ok (.dup2, 1) := by decide +kernel
theorem dX0_sell_101 : decode cX0_sell 101 = .ok (.iaload, 1) := by decide +kernel
theorem dX0_sell_102 : decode cX0_sell 102 = .ok (.iconst 4, 1) := by decide +kernel
theorem dX0_sell_103 : decode cX0_sell 103 = .ok (.iadd, 1) := by decide +kernel
theorem dX0_sell_104 : decode cX0_sell 104 = .ok (.iastore, 1) := by decide +kernel
theorem dX0_sell_105 : decode cX0_sell 105 = .ok (.aload_n 0, 1) := by decide +kernel
theorem dX0_sell_106 : decode cX0_sell 106 = .ok (.getfield 13, 3) := by decide +kernel
theorem dX0_sell_109 : decode cX0_sell 109 = .ok (.iload_n 2, 1) := by decide +kernel
theorem dX0_sell_110 : decode cX0_sell 110 = .ok (.iaload, 1) := by decide +kernel
theorem dX0_sell_111 : decode cX0_sell 111 = .ok (.ireturn, 1) := by decide +kernel
set_option maxRecDepth 20000 in
theorem ggX0_drop_X0_isFrame : GoodIn wsX0_drop wsX0_isFrame := goodIn_r _ [10] (by decide +kernel) (by decide +kernel)
set_option maxRecDepth 20000 in
theorem gX0_drop_X0_isFrame : GoodIn wsX0_drop (va_wsS RX0 102 yX0_isFrame wsX0_isFrame) := goodIn_app (goodIn_of _ (by decide +kernel)) ggX0_drop_X0_isFrame
set_option maxRecDepth 20000 in
theorem ggX0_drop_X0_dropPage : GoodIn wsX0_drop wsX0_dropPage := goodIn_r _ [14, 6, 5, 15, 16, 17, 18, 19, 20, 21, 22, 23, 24, 25, 26, 27, 28, 29, 30, 31, 32, 33, 34] (by decide +kernel) (by decide +kernel)
set_option maxRecDepth 20000 in
theorem gX0_drop_X0_dropPage : GoodIn wsX0_drop (wsV RX0 115 RX0 yX0_dropPage wsX0_dropPage) := goodIn_app (goodIn_of _ (by decide +kernel)) ggX0_drop_X0_dropPage
theorem dX0_drop_0 : decode cX0_drop 0 = .ok (.iload_n 1, 1) := by decide +kernel
theorem dX0_drop_1 : decode cX0_drop 1 = .ok (.invokestatic 102, 3) := by decide +kernel
theorem dX0_drop_4 : decode cX0_drop 4 = .ok (.ifCond .ne 13, 3) := by decide +kernel
theorem dX0_drop_7 : decode cX0_drop 7 = .ok (.new 79, 3) := by decide +kernel
theorem dX0_drop_10 : decode cX0_drop 10 = .ok (.dup, 1) := by decide +kernel
theorem dX0_drop_11 : decode cX0_drop 11 = .ok (.ldc 107, 2) := by decide +kernel
theorem dX0_drop_13 : decode cX0_drop 13 = .ok (.invokespecial 83, 3) := by decide +kernel
theorem dX0_drop_16 : decode cX0_drop 16 = .ok (.athrow, 1) := by decide +kernel
theorem dX0_drop_17 : decode cX0_drop 17 = .ok (.aload_n 0, 1) := by decide +kernel
theorem dX0_drop_18 : decode cX0_drop 18 = .ok (.getfield 31, 3) := by decide +kernel
theorem dX0_drop_21 : decode cX0_drop 21 = .ok (.iload_n 1, 1) := by decide +kernel
theorem dX0_drop_22 : decode cX0_drop 22 = .ok (.baload, 1) := by decide +kernel
theorem dX0_drop_23 : decode cX0_drop 23 = .ok (.ifCond .ne 13, 3) := by decide +kernel
theorem dX0_drop_26 : decode cX0_drop 26 = .ok (.new 93, 3) := by decide +kernel
theorem dX0_drop_29 : decode cX0_drop 29 = .ok (.dup, 1) := by decide +kernel
theorem dX0_drop_30 : decode cX0_drop 30 = .ok (.ldc 113, 2) := by decide +kernel
theorem dX0_drop_32 : decode cX0_drop 32 = .ok (.invokespecial 97, 3) := by decide +kernel
theorem dX0_drop_35 : decode cX0_drop 35 = .ok (.athrow, 1) := by decide +kernel
theorem dX0_drop_36 : decode cX0_drop 36 = .ok (.aload_n 0, 1) := by decide +kernel
theorem dX0_drop_37 : decode cX0_drop 37 = .ok (.getfield 28, 3) := by decide +kernel
theorem dX0_drop_40 : decode cX0_drop 40 = .ok (.iload_n 1, 1) := by decide +kernel
theorem dX0_drop_41 : decode cX0_drop 41 = .ok (.iaload, 1) := by decide +kernel
theorem dX0_drop_42 : decode cX0_drop 42 = .ok (.istore_n 2, 1) := by decide +kernel
theorem dX0_drop_43 : decode cX0_drop 43 = .ok (.aload_n 0, 1) := by decide +kernel
theorem dX0_drop_44 : decode cX0_drop 44 = .ok (.iload_n 1, 1) := by decide +kernel
theorem dX0_drop_45 : decode cX0_drop 45 = .ok (.invokevirtual 115, 3) := by decide +kernel
theorem dX0_drop_48 : decode cX0_drop 48 = .ok (.iload_n 2, 1) := by decide +kernel
theorem dX0_drop_49 : decode cX0_drop 49 = .ok (.ireturn, 1) := by decide +kernel
set_option maxRecDepth 20000 in
theorem ggX0_touch_X0_isProcess : GoodIn wsX0_touch wsX0_isProcess := goodIn_r _ [14] (by decide +kernel) (by decide +kernel)
set_option maxRecDepth 20000 in
theorem gX0_touch_X0_isProcess : GoodIn wsX0_touch (va_wsS RX0 75 yX0_isProcess wsX0_isProcess) := goodIn_app (goodIn_of _ (by decide +kernel)) ggX0_touch_X0_isProcess
set_option maxRecDepth 20000 in
theorem ggX0_touch_X0_isPage : GoodIn wsX0_touch wsX0_isPage := goodIn_r _ [17] (by decide +kernel) (by decide +kernel)
set_option maxRecDepth 20000 in
theorem gX0_touch_X0_isPage : GoodIn wsX0_touch (va_wsS RX0 119 yX0_isPage wsX0_isPage) := goodIn_app (goodIn_of _ (by decide +kernel)) ggX0_touch_X0_isPage
set_option maxRecDepth 20000 in
theorem ggX0_touch_X0_frameWithPage : GoodIn wsX0_touch wsX0_frameWithPage := goodIn_r _ [21, 22, 8, 83, 84, 85, 86, 87, 88, 89, 90, 91, 92, 93, 94, 95, 96, 97, 98, 99, 100, 101] (by decide +kernel) (by decide +kernel)
set_option maxRecDepth 20000 in
theorem gX0_touch_X0_frameWithPage : GoodIn wsX0_touch (wsV RX0 126 RX0 yX0_frameWithPage wsX0_frameWithPage) := goodIn_app (goodIn_of _ (by decide +kernel)) ggX0_touch_X0_frameWithPage
set_option maxRecDepth 20000 in
theorem ggX0_touch_X0_isFrame : GoodIn wsX0_touch wsX0_isFrame := goodIn_r _ [25] (by decide +kernel) (by decide +kernel)
set_option maxRecDepth 20000 in
theorem gX0_touch_X0_isFrame : GoodIn wsX0_touch (va_wsS RX0 102 yX0_isFrame wsX0_isFrame) := goodIn_app (goodIn_of _ (by decide +kernel)) ggX0_touch_X0_isFrame
set_option maxRecDepth 20000 in
theorem ggX0_touch_X0_frameForFault : GoodIn wsX0_touch wsX0_frameForFault := goodIn_ca (goodIn_r _ [29, 30, 31, 32, 13, 33, 22, 8, 34, 35, 36, 37, 38, 39, 40, 41, 42, 43, 44, 45, 9, 23, 24, 25, 46, 47, 48, 49, 50, 51, 52, 53, 54, 55, 56, 57, 58, 59, 3, 4, 60, 61, 62, 63, 64, 65, 66, 67, 68, 69, 70, 71, 72, 73, 74, 75, 76, 77, 78, 7, 6, 11, 12, 14, 79, 80, 81, 82, 83, 84, 85, 86, 87, 88, 89, 90, 91, 92, 93, 94, 95, 96, 97, 98, 99, 100, 101] (by decide +kernel) (by decide +kernel)) (goodIn_sub (fun _ h => List.mem_cons_of_mem _ (List.mem_append_right _ h)) (by decide +kernel))
set_option maxRecDepth 20000 in
theorem gX0_touch_X0_frameForFault : GoodIn wsX0_touch (wsV RX0 130 RX0 yX0_frameForFault wsX0_frameForFault) := goodIn_app (goodIn_of _ (by decide +kernel)) ggX0_touch_X0_frameForFault
theorem dX0_touch_0 : decode cX0_touch 0 = .ok (.iload_n 1, 1) := by decide +kernel
theorem dX0_touch_1 : decode cX0_touch 1 = .ok (.invokestatic 75, 3) := by decide +kernel
theorem dX0_touch_4 : decode cX0_touch 4 = .ok (.ifCond .eq 10, 3) := by decide +kernel
theorem dX0_touch_7 : decode cX0_touch 7 = .ok (.iload_n 2, 1) := by decide +kernel
theorem dX0_touch_8 : decode cX0_touch 8 = .ok (.invokestatic 119, 3) := by decide +kernel
theorem dX0_touch_11 : decode cX0_touch 11 = .ok (.ifCond .ne 13, 3) := by decide +kernel
theorem dX0_touch_14 : decode cX0_touch 14 = .ok (.new 79, 3) := by decide +kernel
theorem dX0_touch_17 : decode cX0_touch 17 = .ok (.dup, 1) := by decide +kernel
theorem dX0_touch_18 : decode cX0_touch 18 = .ok (.ldc 122, 2) := by decide +kernel
theorem dX0_touch_20 : decode cX0_touch 20 = .ok (.invokespecial 83, 3) := by decide +kernel
theorem dX0_touch_23 : decode cX0_touch 23 = .ok (.athrow, 1) := by decide +kernel
theorem dX0_touch_24 : decode cX0_touch 24 = .ok (.aload_n 0, 1) := by decide +kernel
theorem dX0_touch_25 : decode cX0_touch 25 = .ok (.getfield 16, 3) := by decide +kernel
theorem dX0_touch_28 : decode cX0_touch 28 = .ok (.iload_n 1, 1) := by decide +kernel
theorem dX0_touch_29 : decode cX0_touch 29 = .ok (.iaload, 1) := by decide +kernel
theorem dX0_touch_30 : decode cX0_touch 30 = .ok (.ifCond .eq 13, 3) := by decide +kernel
theorem dX0_touch_33 : decode cX0_touch 33 = .ok (.new 93, 3) := by decide +kernel
theorem dX0_touch_36 : decode cX0_touch 36 = .ok (.dup, 1) := by decide +kernel
theorem dX0_touch_37 : decode cX0_touch 37 = .ok (.ldc 124, 2) := by decide +kernel
theorem dX0_touch_39 : decode cX0_touch 39 = .ok (.invokespecial 97, 3) := by decide +kernel
theorem dX0_touch_42 : decode cX0_touch 42 = .ok (.athrow, 1) := by decide +kernel
theorem dX0_touch_43 : decode cX0_touch 43 = .ok (.aload_n 0, 1) := by decide +kernel
theorem dX0_touch_44 : decode cX0_touch 44 = .ok (.iload_n 1, 1) := by decide +kernel
theorem dX0_touch_45 : decode cX0_touch 45 = .ok (.iload_n 2, 1) := by decide +kernel
theorem dX0_touch_46 : decode cX0_touch 46 = .ok (.invokevirtual 126, 3) := by decide +kernel
theorem dX0_touch_49 : decode cX0_touch 49 = .ok (.istore_n 3, 1) := by decide +kernel
theorem dX0_touch_50 : decode cX0_touch 50 = .ok (.iload_n 3, 1) := by decide +kernel
theorem dX0_touch_51 : decode cX0_touch 51 = .ok (.invokestatic 102, 3) := by decide +kernel
theorem dX0_touch_54 : decode cX0_touch 54 = .ok (.ifCond .eq 15, 3) := by decide +kernel
theorem dX0_touch_57 : decode cX0_touch 57 = .ok (.aload_n 0, 1) := by decide +kernel
theorem dX0_touch_58 : decode cX0_touch 58 = .ok (.getfield 35, 3) := by decide +kernel
theorem dX0_touch_61 : decode cX0_touch 61 = .ok (.iload_n 3, 1) := by decide +kernel
theorem dX0_touch_62 : decode cX0_touch 62 = .ok (.aload_n 0, 1) := by decide +kernel
theorem dX0_touch_63 : decode cX0_touch 63 = .ok (.getfield 60, 3) := by decide +kernel
theorem dX0_touch_66 : decode cX0_touch 66 = .ok (.iastore, 1) := by decide +kernel
theorem dX0_touch_67 : decode cX0_touch 67 = .ok (.iconst (-1), 1) := by decide +kernel
theorem dX0_touch_68 : decode cX0_touch 68 = .ok (.ireturn, 1) := by decide +kernel
theorem dX0_touch_69 : decode cX0_touch 69 = .ok (.aload_n 0, 1) := by decide +kernel
theorem dX0_touch_70 : decode cX0_touch 70 = .ok (.iload_n 1, 1) := by decide +kernel
theorem dX0_touch_71 : decode cX0_touch 71 = .ok (.invokevirtual 130, 3) := by decide +kernel
theorem dX0_touch_74 : decode cX0_touch 74 = .ok (.istore 4, 2) := by decide +kernel
theorem dX0_touch_76 : decode cX0_touch 76 = .ok (.iload 4, 2) := by decide +kernel
theorem dX0_touch_78 : decode cX0_touch 78 = .ok (.invokestatic 102, 3) := by decide +kernel
theorem dX0_touch_81 : decode cX0_touch 81 = .ok (.ifCond .ne 13, 3) := by decide +kernel
theorem dX0_touch_84 : decode cX0_touch 84 = .ok (.new 93, 3) := by decide +kernel
theorem dX0_touch_87 : decode cX0_touch 87 = .ok (.dup, 1) := by decide +kernel
theorem dX0_touch_88 : decode cX0_touch 88 = .ok (.ldc 133, 2) := by decide +kernel
theorem dX0_touch_90 : decode cX0_touch 90 = .ok (.invokespecial 97, 3) := by decide +kernel
theorem dX0_touch_93 : decode cX0_touch 93 = .ok (.athrow, 1) := by decide +kernel
theorem dX0_touch_94 : decode cX0_touch 94 = .ok (.aload_n 0, 1) := by decide +kernel
theorem dX0_touch_95 : decode cX0_touch 95 = .ok (.getfield 28, 3) := by decide +kernel
theorem dX0_touch_98 : decode cX0_touch 98 = .ok (.iload 4, 2) := by decide +kernel
theorem dX0_touch_100 : decode cX0_touch 100 = .ok (.iload_n 2, 1) := by decide +kernel
theorem dX0_touch_101 : decode cX0_touch 101 = .ok (.iastore, 1) := by decide +kernel
theorem dX0_touch_102 : decode cX0_touch 102 = .ok (.aload_n 0, 1) := by decide +kernel
theorem dX0_touch_103 : decode cX0_touch 103 = .ok (.getfield 31, 3) := by decide +kernel
theorem dX0_touch_106 : decode cX0_touch 106 = .ok (.iload 4, 2) := by decide +kernel
theorem dX0_touch_108 : decode cX0_touch 108 = .ok (.iconst 0, 1) := by decide +kernel
theorem dX0_touch_109 : decode cX0_touch 109 = .ok (.bastore, 1) := by decide +kernel
theorem dX0_touch_110 : decode cX0_touch 110 = .ok (.aload_n 0, 1) := by decide +kernel
theorem dX0_touch_111 : decode cX0_touch 111 = .ok (.getfield 16, 3) := by decide +kernel
theorem dX0_touch_114 : decode cX0_touch 114 = .ok (.iload_n 1, 1) := by decide +kernel
theorem dX0_touch_115 : decode cX0_touch 115 = .ok (.iconst 1, 1) := by decide +kernel
theorem dX0_touch_116 : decode cX0_touch 116 = .ok (.iastore, 1) := by decide +kernel
theorem dX0_touch_117 : decode cX0_touch 117 = .ok (.aload_n 0, 1) := by decide +kernel
theorem dX0_touch_118 : decode cX0_touch 118 = .ok (.getfield 19, 3) := by decide +kernel
theorem dX0_touch_121 : decode cX0_touch 121 = .ok (.iload_n 1, 1) := by decide +kernel
theorem dX0_touch_122 : decode cX0_touch 122 = .ok (.dup2, 1) := by decide +kernel
theorem dX0_touch_123 : decode cX0_touch 123 = .ok (.iaload, 1) := by decide +kernel
theorem dX0_touch_124 : decode cX0_touch 124 = .ok (.iconst 1, 1) := by decide +kernel
theorem dX0_touch_125 : decode cX0_touch 125 = .ok (.iadd, 1) := by decide +kernel
theorem dX0_touch_126 : decode cX0_touch 126 = .ok (.iastore, 1) := by decide +kernel
theorem dX0_touch_127 : decode cX0_touch 127 = .ok (.iload 4, 2) := by decide +kernel
theorem dX0_touch_129 : decode cX0_touch 129 = .ok (.ireturn, 1) := by decide +kernel
set_option maxRecDepth 20000 in
theorem ggX0_payBack_X0_isLoan : GoodIn wsX0_payBack wsX0_isLoan := goodIn_r _ [12, 13, 34, 35, 36, 37, 38, 39, 40, 41, 42, 43, 44, 45, 46, 47, 48, 49, 50, 51, 52] (by decide +kernel) (by decide +kernel)
set_option maxRecDepth 20000 in
theorem gX0_payBack_X0_isLoan : GoodIn wsX0_payBack (wsV RX0 135 RX0 yX0_isLoan wsX0_isLoan) := goodIn_app (goodIn_of _ (by decide +kernel)) ggX0_payBack_X0_isLoan
set_option maxRecDepth 20000 in
theorem ggX0_payBack_X0_isComing : GoodIn wsX0_payBack wsX0_isComing := goodIn_r _ [17, 18, 19, 20, 21, 11, 22, 34, 35, 36, 37, 38, 39, 40, 41, 42, 43, 44, 45, 46, 47, 48, 49, 50, 51, 52] (by decide +kernel) (by decide +kernel)
set_option maxRecDepth 20000 in
theorem gX0_payBack_X0_isComing : GoodIn wsX0_payBack (wsV RX0 140 RX0 yX0_isComing wsX0_isComing) := goodIn_app (goodIn_of _ (by decide +kernel)) ggX0_payBack_X0_isComing
set_option maxRecDepth 20000 in
theorem ggX0_payBack_X0_endLoan : GoodIn wsX0_payBack wsX0_endLoan := goodIn_r _ [26, 5, 6, 27, 28, 20, 21, 11, 22, 29, 30, 31, 32, 18, 19, 33, 34, 35, 36, 37, 38, 39, 40, 41, 42, 43, 44, 45, 46, 47, 48, 49, 50, 51, 52] (by decide +kernel) (by decide +kernel)
set_option maxRecDepth 20000 in
theorem gX0_payBack_X0_endLoan : GoodIn wsX0_payBack (wsV RX0 145 RX0 yX0_endLoan wsX0_endLoan) := goodIn_app (goodIn_of _ (by decide +kernel)) ggX0_payBack_X0_endLoan
theorem dX0_payBack_0 : decode cX0_payBack 0 = .ok (.aload_n 0, 1) := by decide +kernel
theorem dX0_payBack_1 : decode cX0_payBack 1 = .ok (.iload_n 1, 1) := by decide +kernel
theorem dX0_payBack_2 : decode cX0_payBack 2 = .ok (.invokevirtual 135, 3) := by decide +kernel
theorem dX0_payBack_5 : decode cX0_payBack 5 = .ok (.ifCond .ne 13, 3) := by decide +kernel
theorem dX0_payBack_8 : decode cX0_payBack 8 = .ok (.new 79, 3) := by decide +kernel
theorem dX0_payBack_11 : decode cX0_payBack 11 = .ok (.dup, 1) := by decide +kernel
theorem dX0_payBack_12 : decode cX0_payBack 12 = .ok (.ldc 138, 2) := by decide +kernel
theorem dX0_payBack_14 : decode cX0_payBack 14 = .ok (.invokespecial 83, 3) := by decide +kernel
theorem dX0_payBack_17 : decode cX0_payBack 17 = .ok (.athrow, 1) := by decide +kernel
theorem dX0_payBack_18 : decode cX0_payBack 18 = .ok (.aload_n 0, 1) := by decide +kernel
theorem dX0_payBack_19 : decode cX0_payBack 19 = .ok (.getfield 47, 3) := by decide +kernel
theorem dX0_payBack_22 : decode cX0_payBack 22 = .ok (.iload_n 1, 1) := by decide +kernel
theorem dX0_payBack_23 : decode cX0_payBack 23 = .ok (.baload, 1) := by decide +kernel
theorem dX0_payBack_24 : decode cX0_payBack 24 = .ok (.ifCond .eq 16, 3) := by decide +kernel
theorem dX0_payBack_27 : decode cX0_payBack 27 = .ok (.aload_n 0, 1) := by decide +kernel
theorem dX0_payBack_28 : decode cX0_payBack 28 = .ok (.aload_n 0, 1) := by decide +kernel
theorem dX0_payBack_29 : decode cX0_payBack 29 = .ok (.getfield 38, 3) := by decide +kernel
theorem dX0_payBack_32 : decode cX0_payBack 32 = .ok (.iload_n 1, 1) := by decide +kernel
theorem dX0_payBack_33 : decode cX0_payBack 33 = .ok (.iaload, 1) := by decide +kernel
theorem dX0_payBack_34 : decode cX0_payBack 34 = .ok (.invokevirtual 140, 3) := by decide +kernel
theorem dX0_payBack_37 : decode cX0_payBack 37 = .ok (.ifCond .eq 13, 3) := by decide +kernel
theorem dX0_payBack_40 : decode cX0_payBack 40 = .ok (.new 93, 3) := by decide +kernel
theorem dX0_payBack_43 : decode cX0_payBack 43 = .ok (.dup, 1) := by decide +kernel
theorem dX0_payBack_44 : decode cX0_payBack 44 = .ok (.ldc 143, 2) := by decide +kernel
theorem dX0_payBack_46 : decode cX0_payBack 46 = .ok (.invokespecial 97, 3) := by decide +kernel
theorem dX0_payBack_49 : decode cX0_payBack 49 = .ok (.athrow, 1) := by decide +kernel
theorem dX0_payBack_50 : decode cX0_payBack 50 = .ok (.aload_n 0, 1) := by decide +kernel
theorem dX0_payBack_51 : decode cX0_payBack 51 = .ok (.iload_n 1, 1) := by decide +kernel
theorem dX0_payBack_52 : decode cX0_payBack 52 = .ok (.invokevirtual 145, 3) := by decide +kernel
theorem dX0_payBack_55 : decode cX0_payBack 55 = .ok (.aload_n 0, 1) := by decide +kernel
theorem dX0_payBack_56 : decode cX0_payBack 56 = .ok (.getfield 41, 3) := by decide +kernel
theorem dX0_payBack_59 : decode cX0_payBack 59 = .ok (.iload_n 1, 1) := by decide +kernel
theorem dX0_payBack_60 : decode cX0_payBack 60 = .ok (.iaload, 1) := by decide +kernel
theorem dX0_payBack_61 : decode cX0_payBack 61 = .ok (.ireturn, 1) := by decide +kernel
set_option maxRecDepth 20000 in
theorem ggX0_advance_X0_passTick : GoodIn wsX0_advance wsX0_passTick := goodIn_r _ [11, 5, 12, 13, 14, 10, 15, 16, 17, 18, 19, 20, 21, 22, 23, 24, 25, 26, 27, 28, 29, 30, 31, 32, 33, 34, 35, 36, 37, 38, 39, 40, 41, 42, 43, 44, 45, 46, 47, 48, 49, 50, 51, 52, 53, 54, 55, 56, 57, 58, 59, 60, 61, 62, 63, 64, 65, 66, 67, 68, 69, 70, 71, 72, 73, 74, 75, 76, 77, 78, 79, 80, 81, 82, 83, 84, 85, 86, 87, 88, 89, 90, 91, 92, 93, 94, 95, 96, 97, 98, 99, 100, 101, 102, 103, 104, 105, 106, 107, 108, 109] (by decide +kernel) (by decide +kernel)
set_option maxRecDepth 20000 in
theorem gX0_advance_X0_passTick : GoodIn wsX0_advance (wsV RX0 153 RX0 yX0_passTick wsX0_passTick) := goodIn_app (goodIn_of _ (by decide +kernel)) ggX0_advance_X0_passTick
theorem dX0_advance_0 : decode cX0_advance 0 = .ok (.iload_n 1, 1) := by decide +kernel
theorem dX0_advance_1 : decode cX0_advance 1 = .ok (.iconst 1, 1) := by decide +kernel
theorem dX0_advance_2 : decode cX0_advance 2 = .ok (.if_icmp .lt 10, 3) := by decide +kernel
theorem dX0_advance_5 : decode cX0_advance 5 = .ok (.iload_n 1, 1) := by decide +kernel
theorem dX0_advance_6 : decode cX0_advance 6 = .ok (.sipush 200, 3) := by decide +kernel
theorem dX0_advance_9 : decode cX0_advance 9 = .ok (.if_icmp .le 13, 3) := by decide +kernel
theorem dX0_advance_12 : decode cX0_advance 12 = .ok (.new 86, 3) := by decide +kernel
theorem dX0_advance_15 : decode cX0_advance 15 = .ok (.dup, 1) := by decide +kernel
theorem dX0_advance_16 : decode cX0_advance 16 = .ok (.ldc 148, 2) := by decide +kernel
theorem dX0_advance_18 : decode cX0_advance 18 = .ok (.invokespecial 90, 3) := by decide +kernel
theorem dX0_advance_21 : decode cX0_advance 21 = .ok (.athrow, 1) := by decide +kernel
theorem dX0_advance_22 : decode cX0_advance 22 = .ok (.aload_n 0, 1) := by decide +kernel
theorem dX0_advance_23 : decode cX0_advance 23 = .ok (.getfield 60, 3) := by decide +kernel
theorem dX0_advance_26 : decode cX0_advance 26 = .ok (.ldc 150, 2) := by decide +kernel
theorem dX0_advance_28 : decode cX0_advance 28 = .ok (.iload_n 1, 1) := by decide +kernel
theorem dX0_advance_29 : decode cX0_advance 29 = .ok (.isub, 1) := by decide +kernel
theorem dX0_advance_30 : decode cX0_advance 30 = .ok (.if_icmp .le 13, 3) := by decide +kernel
theorem dX0_advance_33 : decode cX0_advance 33 = .ok (.new 93, 3) := by decide +kernel
theorem dX0_advance_36 : decode cX0_advance 36 = .ok (.dup, 1) := by decide +kernel
theorem dX0_advance_37 : decode cX0_advance 37 = .ok (.ldc 151, 2) := by decide +kernel
theorem dX0_advance_39 : decode cX0_advance 39 = .ok (.invokespecial 97, 3) := by decide +kernel
theorem dX0_advance_42 : decode cX0_advance 42 = .ok (.athrow, 1) := by decide +kernel
theorem dX0_advance_43 : decode cX0_advance 43 = .ok (.iconst 0, 1) := by decide +kernel
theorem dX0_advance_44 : decode cX0_advance 44 = .ok (.istore_n 2, 1) := by decide +kernel
theorem dX0_advance_45 : decode cX0_advance 45 = .ok (.iload_n 2, 1) := by decide +kernel
theorem dX0_advance_46 : decode cX0_advance 46 = .ok (.iload_n 1, 1) := by decide +kernel
theorem dX0_advance_47 : decode cX0_advance 47 = .ok (.if_icmp .ge 13, 3) := by decide +kernel
theorem dX0_advance_50 : decode cX0_advance 50 = .ok (.aload_n 0, 1) := by decide +kernel
theorem dX0_advance_51 : decode cX0_advance 51 = .ok (.invokevirtual 153, 3) := by decide +kernel
theorem dX0_advance_54 : decode cX0_advance 54 = .ok (.iinc 2 1, 3) := by decide +kernel
theorem dX0_advance_57 : decode cX0_advance 57 = .ok (.goto (-12), 3) := by decide +kernel
theorem dX0_advance_60 : decode cX0_advance 60 = .ok (.aload_n 0, 1) := by decide +kernel
theorem dX0_advance_61 : decode cX0_advance 61 = .ok (.getfield 60, 3) := by decide +kernel
theorem dX0_advance_64 : decode cX0_advance 64 = .ok (.ireturn, 1) := by decide +kernel
theorem dX0_tick_0 : decode cX0_tick 0 = .ok (.aload_n 0, 1) := by decide +kernel
theorem dX0_tick_1 : decode cX0_tick 1 = .ok (.getfield 60, 3) := by decide +kernel
theorem dX0_tick_4 : decode cX0_tick 4 = .ok (.ireturn, 1) := by decide +kernel
set_option maxRecDepth 20000 in
theorem ggX0_owner_X0_isFrame : GoodIn wsX0_owner wsX0_isFrame := goodIn_r _ [7] (by decide +kernel) (by decide +kernel)
set_option maxRecDepth 20000 in
theorem gX0_owner_X0_isFrame : GoodIn wsX0_owner (va_wsS RX0 102 yX0_isFrame wsX0_isFrame) := goodIn_app (goodIn_of _ (by decide +kernel)) ggX0_owner_X0_isFrame
theorem dX0_owner_0 : decode cX0_owner 0 = .ok (.iload_n 1, 1) := by decide +kernel
theorem dX0_owner_1 : decode cX0_owner 1 = .ok (.invokestatic 102, 3) := by decide +kernel
theorem dX0_owner_4 : decode cX0_owner 4 = .ok (.ifCond .ne 13, 3) := by decide +kernel
theorem dX0_owner_7 : decode cX0_owner 7 = .ok (.new 79, 3) := by decide +kernel
theorem dX0_owner_10 : decode cX0_owner 10 = .ok (.dup, 1) := by decide +kernel
theorem dX0_owner_11 : decode cX0_owner 11 = .ok (.ldc 107, 2) := by decide +kernel
theorem dX0_owner_13 : decode cX0_owner 13 = .ok (.invokespecial 83, 3) := by decide +kernel
theorem dX0_owner_16 : decode cX0_owner 16 = .ok (.athrow, 1) := by decide +kernel
theorem dX0_owner_17 : decode cX0_owner 17 = .ok (.aload_n 0, 1) := by decide +kernel
theorem dX0_owner_18 : decode cX0_owner 18 = .ok (.getfield 22, 3) := by decide +kernel
theorem dX0_owner_21 : decode cX0_owner 21 = .ok (.iload_n 1, 1) := by decide +kernel
theorem dX0_owner_22 : decode cX0_owner 22 = .ok (.iaload, 1) := by decide +kernel
theorem dX0_owner_23 : decode cX0_owner 23 = .ok (.ireturn, 1) := by decide +kernel
set_option maxRecDepth 20000 in
theorem ggX0_holder_X0_isFrame : GoodIn wsX0_holder wsX0_isFrame := goodIn_r _ [7] (by decide +kernel) (by decide +kernel)
set_option maxRecDepth 20000 in
theorem gX0_holder_X0_isFrame : GoodIn wsX0_holder (va_wsS RX0 102 yX0_isFrame wsX0_isFrame) := goodIn_app (goodIn_of _ (by decide +kernel)) ggX0_holder_X0_isFrame
theorem dX0_holder_0 : decode cX0_holder 0 = .ok (.iload_n 1, 1) := by decide +kernel
theorem dX0_holder_1 : decode cX0_holder 1 = .ok (.invokestatic 102, 3) := by decide +kernel
theorem dX0_holder_4 : decode cX0_holder 4 = .ok (.ifCond .ne 13, 3) := by decide +kernel
theorem dX0_holder_7 : decode cX0_holder 7 = .ok (.new 79, 3) := by decide +kernel
theorem dX0_holder_10 : decode cX0_holder 10 = .ok (.dup, 1) := by decide +kernel
theorem dX0_holder_11 : decode cX0_holder 11 = .ok (.ldc 107, 2) := by decide +kernel
theorem dX0_holder_13 : decode cX0_holder 13 = .ok (.invokespecial 83, 3) := by decide +kernel
theorem dX0_holder_16 : decode cX0_holder 16 = .ok (.athrow, 1) := by decide +kernel
theorem dX0_holder_17 : decode cX0_holder 17 = .ok (.aload_n 0, 1) := by decide +kernel
theorem dX0_holder_18 : decode cX0_holder 18 = .ok (.getfield 25, 3) := by decide +kernel
theorem dX0_holder_21 : decode cX0_holder 21 = .ok (.iload_n 1, 1) := by decide +kernel
theorem dX0_holder_22 : decode cX0_holder 22 = .ok (.iaload, 1) := by decide +kernel
theorem dX0_holder_23 : decode cX0_holder 23 = .ok (.ireturn, 1) := by decide +kernel
set_option maxRecDepth 20000 in
theorem ggX0_holderByLog_X0_isFrame : GoodIn wsX0_holderByLog wsX0_isFrame := goodIn_r _ [11] (by decide +kernel) (by decide +kernel)
set_option maxRecDepth 20000 in
theorem gX0_holderByLog_X0_isFrame : GoodIn wsX0_holderByLog (va_wsS RX0 102 yX0_isFrame wsX0_isFrame) := goodIn_app (goodIn_of _ (by decide +kernel)) ggX0_holderByLog_X0_isFrame
theorem dX0_holderByLog_0 : decode cX0_holderByLog 0 = .ok (.iload_n 1, 1) := by decide +kernel
theorem dX0_holderByLog_1 : decode cX0_holderByLog 1 = .ok (.invokestatic 102, 3) := by decide +kernel
theorem dX0_holderByLog_4 : decode cX0_holderByLog 4 = .ok (.ifCond .ne 13, 3) := by decide +kernel
theorem dX0_holderByLog_7 : decode cX0_holderByLog 7 = .ok (.new 79, 3) := by decide +kernel
theorem dX0_holderByLog_10 : decode cX0_holderByLog 10 = .ok (.dup, 1) := by decide +kernel
theorem dX0_holderByLog_11 : decode cX0_holderByLog 11 = .ok (.ldc 107, 2) := by decide +kernel
theorem dX0_holderByLog_13 : decode cX0_holderByLog 13 = .ok (.invokespecial 83, 3) := by decide +kernel
theorem dX0_holderByLog_16 : decode cX0_holderByLog 16 = .ok (.athrow, 1) := by decide +kernel
theorem dX0_holderByLog_17 : decode cX0_holderByLog 17 = .ok (.iconst 0, 1) := by decide +kernel
theorem dX0_holderByLog_18 : decode cX0_holderByLog 18 = .ok (.istore_n 2, 1) := by decide +kernel
theorem dX0_holderByLog_19 : decode cX0_holderByLog 19 = .ok (.iload_n 2, 1) := by decide +kernel
theorem dX0_holderByLog_20 : decode cX0_holderByLog 20 = .ok (.bipush 60, 2) := by decide +kernel
theorem dX0_holderByLog_22 : decode cX0_holderByLog 22 = .ok (.if_icmp .ge 43, 3) := by decide +kernel
theorem dX0_holderByLog_25 : decode cX0_holderByLog 25 = .ok (.iload_n 2, 1) := by decide +kernel
theorem dX0_holderByLog_26 : decode cX0_holderByLog 26 = .ok (.aload_n 0, 1) := by decide +kernel
theorem dX0_holderByLog_27 : decode cX0_holderByLog 27 = .ok (.getfield 53, 3) := by decide +kernel
theorem dX0_holderByLog_30 : decode cX0_holderByLog 30 = .ok (.if_icmp .ge 35, 3) := by decide +kernel
theorem dX0_holderByLog_33 : decode cX0_holderByLog 33 = .ok (.aload_n 0, 1) := by decide +kernel
theorem dX0_holderByLog_34 : decode cX0_holderByLog 34 = .ok (.getfield 47, 3) := by decide +kernel
theorem dX0_holderByLog_37 : decode cX0_holderByLog 37 = .ok (.iload_n 2, 1) := by decide +kernel
theorem dX0_holderByLog_38 : decode cX0_holderByLog 38 = .ok (.baload, 1) := by decide +kernel
theorem dX0_holderByLog_39 : decode cX0_holderByLog 39 = .ok (.ifCond .eq 20, 3) := by decide +kernel
theorem dX0_holderByLog_42 : decode cX0_holderByLog 42 = .ok (.aload_n 0, 1) := by decide +kernel
theorem dX0_holderByLog_43 : decode cX0_holderByLog 43 = .ok (.getfield 38, 3) := by decide +kernel
theorem dX0_holderByLog_46 : decode cX0_holderByLog 46 = .ok (.iload_n 2, 1) := by decide +kernel
theorem dX0_holderByLog_47 : decode cX0_holderByLog 47 = .ok (.iaload, 1) := by decide +kernel
theorem dX0_holderByLog_48 : decode cX0_holderByLog 48 = .ok (.iload_n 1, 1) := by decide +kernel
theorem dX0_holderByLog_49 : decode cX0_holderByLog 49 = .ok (.if_icmp .ne 10, 3) := by decide +kernel
theorem dX0_holderByLog_52 : decode cX0_holderByLog 52 = .ok (.aload_n 0, 1) := by decide +kernel
theorem dX0_holderByLog_53 : decode cX0_holderByLog 53 = .ok (.getfield 44, 3) := by decide +kernel
theorem dX0_holderByLog_56 : decode cX0_holderByLog 56 = .ok (.iload_n 2, 1) := by decide +kernel
theorem dX0_holderByLog_57 : decode cX0_holderByLog 57 = .ok (.iaload, 1) := by decide +kernel
theorem dX0_holderByLog_58 : decode cX0_holderByLog 58 = .ok (.ireturn, 1) := by decide +kernel
theorem dX0_holderByLog_59 : decode cX0_holderByLog 59 = .ok (.iinc 2 1, 3) := by decide +kernel
theorem dX0_holderByLog_62 : decode cX0_holderByLog 62 = .ok (.goto (-43), 3) := by decide +kernel
theorem dX0_holderByLog_65 : decode cX0_holderByLog 65 = .ok (.aload_n 0, 1) := by decide +kernel
theorem dX0_holderByLog_66 : decode cX0_holderByLog 66 = .ok (.getfield 22, 3) := by decide +kernel
theorem dX0_holderByLog_69 : decode cX0_holderByLog 69 = .ok (.iload_n 1, 1) := by decide +kernel
theorem dX0_holderByLog_70 : decode cX0_holderByLog 70 = .ok (.iaload, 1) := by decide +kernel
theorem dX0_holderByLog_71 : decode cX0_holderByLog 71 = .ok (.ireturn, 1) := by decide +kernel
set_option maxRecDepth 20000 in
theorem ggX0_pageIn_X0_isFrame : GoodIn wsX0_pageIn wsX0_isFrame := goodIn_r _ [7] (by decide +kernel) (by decide +kernel)
set_option maxRecDepth 20000 in
theorem gX0_pageIn_X0_isFrame : GoodIn wsX0_pageIn (va_wsS RX0 102 yX0_isFrame wsX0_isFrame) := goodIn_app (goodIn_of _ (by decide +kernel)) ggX0_pageIn_X0_isFrame
theorem dX0_pageIn_0 : decode cX0_pageIn 0 = .ok (.iload_n 1, 1) := by decide +kernel
theorem dX0_pageIn_1 : decode cX0_pageIn 1 = .ok (.invokestatic 102, 3) := by decide +kernel
theorem dX0_pageIn_4 : decode cX0_pageIn 4 = .ok (.ifCond .ne 13, 3) := by decide +kernel
theorem dX0_pageIn_7 : decode cX0_pageIn 7 = .ok (.new 79, 3) := by decide +kernel
theorem dX0_pageIn_10 : decode cX0_pageIn 10 = .ok (.dup, 1) := by decide +kernel
theorem dX0_pageIn_11 : decode cX0_pageIn 11 = .ok (.ldc 107, 2) := by decide +kernel
theorem dX0_pageIn_13 : decode cX0_pageIn 13 = .ok (.invokespecial 83, 3) := by decide +kernel
theorem dX0_pageIn_16 : decode cX0_pageIn 16 = .ok (.athrow, 1) := by decide +kernel
theorem dX0_pageIn_17 : decode cX0_pageIn 17 = .ok (.aload_n 0, 1) := by decide +kernel
theorem dX0_pageIn_18 : decode cX0_pageIn 18 = .ok (.getfield 28, 3) := by decide +kernel
theorem dX0_pageIn_21 : decode cX0_pageIn 21 = .ok (.iload_n 1, 1) := by decide +kernel
theorem dX0_pageIn_22 : decode cX0_pageIn 22 = .ok (.iaload, 1) := by decide +kernel
theorem dX0_pageIn_23 : decode cX0_pageIn 23 = .ok (.ireturn, 1) := by decide +kernel
set_option maxRecDepth 20000 in
theorem ggX0_age_X0_isFrame : GoodIn wsX0_age wsX0_isFrame := goodIn_r _ [6] (by decide +kernel) (by decide +kernel)
set_option maxRecDepth 20000 in
theorem gX0_age_X0_isFrame : GoodIn wsX0_age (va_wsS RX0 102 yX0_isFrame wsX0_isFrame) := goodIn_app (goodIn_of _ (by decide +kernel)) ggX0_age_X0_isFrame
set_option maxRecDepth 20000 in
theorem ggX0_age_X0_ageOf : GoodIn wsX0_age wsX0_ageOf := goodIn_r _ [10, 11, 12, 13, 14, 15, 16, 17, 18, 19, 20, 21, 22, 23, 24, 25, 26, 27, 28, 29, 30, 31, 32] (by decide +kernel) (by decide +kernel)
set_option maxRecDepth 20000 in
theorem gX0_age_X0_ageOf : GoodIn wsX0_age (wsV RX0 156 RX0 yX0_ageOf wsX0_ageOf) := goodIn_app (goodIn_of _ (by decide +kernel)) ggX0_age_X0_ageOf
theorem dX0_age_0 : decode cX0_age 0 = .ok (.iload_n 1, 1) := by decide +kernel
theorem dX0_age_1 : decode cX0_age 1 = .ok (.invokestatic 102, 3) := by decide +kernel
theorem dX0_age_4 : decode cX0_age 4 = .ok (.ifCond .ne 13, 3) := by decide +kernel
theorem dX0_age_7 : decode cX0_age 7 = .ok (.new 79, 3) := by decide +kernel
theorem dX0_age_10 : decode cX0_age 10 = .ok (.dup, 1) := by decide +kernel
theorem dX0_age_11 : decode cX0_age 11 = .ok (.ldc 107, 2) := by decide +kernel
theorem dX0_age_13 : decode cX0_age 13 = .ok (.invokespecial 83, 3) := by decide +kernel
theorem dX0_age_16 : decode cX0_age 16 = .ok (.athrow, 1) := by decide +kernel
theorem dX0_age_17 : decode cX0_age 17 = .ok (.aload_n 0, 1) := by decide +kernel
theorem dX0_age_18 : decode cX0_age 18 = .ok (.iload_n 1, 1) := by decide +kernel
theorem dX0_age_19 : decode cX0_age 19 = .ok (.invokevirtual 156, 3) := by decide +kernel
theorem dX0_age_22 : decode cX0_age 22 = .ok (.ireturn, 1) := by decide +kernel
theorem dX0_free_0 : decode cX0_free 0 = .ok (.iconst 0, 1) := by decide +kernel
theorem dX0_free_1 : decode cX0_free 1 = .ok (.istore_n 1, 1) := by decide +kernel
theorem dX0_free_2 : decode cX0_free 2 = .ok (.iconst 0, 1) := by decide +kernel
theorem dX0_free_3 : decode cX0_free 3 = .ok (.istore_n 2, 1) := by decide +kernel
theorem dX0_free_4 : decode cX0_free 4 = .ok (.iload_n 2, 1) := by decide +kernel
theorem dX0_free_5 : decode cX0_free 5 = .ok (.bipush 12, 2) := by decide +kernel
theorem dX0_free_7 : decode cX0_free 7 = .ok (.if_icmp .ge 22, 3) := by decide +kernel
theorem dX0_free_10 : decode cX0_free 10 = .ok (.aload_n 0, 1) := by decide +kernel
theorem dX0_free_11 : decode cX0_free 11 = .ok (.getfield 22, 3) := by decide +kernel
theorem dX0_free_14 : decode cX0_free 14 = .ok (.iload_n 2, 1) := by decide +kernel
theorem dX0_free_15 : decode cX0_free 15 = .ok (.iaload, 1) := by decide +kernel
theorem dX0_free_16 : decode cX0_free 16 = .ok (.iconst (-1), 1) := by decide +kernel
theorem dX0_free_17 : decode cX0_free 17 = .ok (.if_icmp .ne 6, 3) := by decide +kernel
theorem dX0_free_20 : decode cX0_free 20 = .ok (.iinc 1 1, 3) := by decide +kernel
theorem dX0_free_23 : decode cX0_free 23 = .ok (.iinc 2 1, 3) := by decide +kernel
theorem dX0_free_26 : decode cX0_free 26 = .ok (.goto (-22), 3) := by decide +kernel
theorem dX0_free_29 : decode cX0_free 29 = .ok (.iload_n 1, 1) := by decide +kernel
theorem dX0_free_30 : decode cX0_free 30 = .ok (.ireturn, 1) := by decide +kernel
set_option maxRecDepth 20000 in
theorem ggX0_owns_X0_isProcess : GoodIn wsX0_owns wsX0_isProcess := goodIn_r _ [7] (by decide +kernel) (by decide +kernel)
set_option maxRecDepth 20000 in
theorem gX0_owns_X0_isProcess : GoodIn wsX0_owns (va_wsS RX0 75 yX0_isProcess wsX0_isProcess) := goodIn_app (goodIn_of _ (by decide +kernel)) ggX0_owns_X0_isProcess
theorem dX0_owns_0 : decode cX0_owns 0 = .ok (.iload_n 1, 1) := by decide +kernel
theorem dX0_owns_1 : decode cX0_owns 1 = .ok (.invokestatic 75, 3) := by decide +kernel
theorem dX0_owns_4 : decode cX0_owns 4 = .ok (.ifCond .ne 13, 3) := by decide +kernel
theorem dX0_owns_7 : decode cX0_owns 7 = .ok (.new 79, 3) := by decide +kernel
theorem dX0_owns_10 : decode cX0_owns 10 = .ok (.dup, 1) := by decide +kernel
theorem dX0_owns_11 : decode cX0_owns 11 = .ok (.ldc 81, 2) := by decide +kernel
theorem dX0_owns_13 : decode cX0_owns 13 = .ok (.invokespecial 83, 3) := by decide +kernel
theorem dX0_owns_16 : decode cX0_owns 16 = .ok (.athrow, 1) := by decide +kernel
theorem dX0_owns_17 : decode cX0_owns 17 = .ok (.iconst 0, 1) := by decide +kernel
theorem dX0_owns_18 : decode cX0_owns 18 = .ok (.istore_n 2, 1) := by decide +kernel
theorem dX0_owns_19 : decode cX0_owns 19 = .ok (.iconst 0, 1) := by decide +kernel
theorem dX0_owns_20 : decode cX0_owns 20 = .ok (.istore_n 3, 1) := by decide +kernel
theorem dX0_owns_21 : decode cX0_owns 21 = .ok (.iload_n 3, 1) := by decide +kernel
theorem dX0_owns_22 : decode cX0_owns 22 = .ok (.bipush 12, 2) := by decide +kernel
theorem dX0_owns_24 : decode cX0_owns 24 = .ok (.if_icmp .ge 22, 3) := by decide +kernel
theorem dX0_owns_27 : decode cX0_owns 27 = .ok (.aload_n 0, 1) := by decide +kernel
theorem dX0_owns_28 : decode cX0_owns 28 = .ok (.getfield 22, 3) := by decide +kernel
theorem dX0_owns_31 : decode cX0_owns 31 = .ok (.iload_n 3, 1) := by decide +kernel
theorem dX0_owns_32 : decode cX0_owns 32 = .ok (.iaload, 1) := by decide +kernel
theorem dX0_owns_33 : decode cX0_owns 33 = .ok (.iload_n 1, 1) := by decide +kernel
theorem dX0_owns_34 : decode cX0_owns 34 = .ok (.if_icmp .ne 6, 3) := by decide +kernel
theorem dX0_owns_37 : decode cX0_owns 37 = .ok (.iinc 2 1, 3) := by decide +kernel
theorem dX0_owns_40 : decode cX0_owns 40 = .ok (.iinc 3 1, 3) := by decide +kernel
theorem dX0_owns_43 : decode cX0_owns 43 = .ok (.goto (-22), 3) := by decide +kernel
theorem dX0_owns_46 : decode cX0_owns 46 = .ok (.iload_n 2, 1) := by decide +kernel
theorem dX0_owns_47 : decode cX0_owns 47 = .ok (.ireturn, 1) := by decide +kernel
set_option maxRecDepth 20000 in
theorem ggX0_borrowed_X0_isProcess : GoodIn wsX0_borrowed wsX0_isProcess := goodIn_r _ [6] (by decide +kernel) (by decide +kernel)
set_option maxRecDepth 20000 in
theorem gX0_borrowed_X0_isProcess : GoodIn wsX0_borrowed (va_wsS RX0 75 yX0_isProcess wsX0_isProcess) := goodIn_app (goodIn_of _ (by decide +kernel)) ggX0_borrowed_X0_isProcess
set_option maxRecDepth 20000 in
theorem ggX0_borrowed_X0_countBorrowed : GoodIn wsX0_borrowed wsX0_countBorrowed := goodIn_r _ [10, 11, 12, 13, 14, 15, 16, 17, 18, 19, 20, 21, 22, 23, 24, 25, 26, 27, 28, 29, 30, 31] (by decide +kernel) (by decide +kernel)
set_option maxRecDepth 20000 in
theorem gX0_borrowed_X0_countBorrowed : GoodIn wsX0_borrowed (wsV RX0 159 RX0 yX0_countBorrowed wsX0_countBorrowed) := goodIn_app (goodIn_of _ (by decide +kernel)) ggX0_borrowed_X0_countBorrowed
theorem dX0_borrowed_0 : decode cX0_borrowed 0 = .ok (.iload_n 1, 1) := by decide +kernel
theorem dX0_borrowed_1 : decode cX0_borrowed 1 = .ok (.invokestatic 75, 3) := by decide +kernel
theorem dX0_borrowed_4 : decode cX0_borrowed 4 = .ok (.ifCond .ne 13, 3) := by decide +kernel
theorem dX0_borrowed_7 : decode cX0_borrowed 7 = .ok (.new 79, 3) := by decide +kernel
theorem dX0_borrowed_10 : decode cX0_borrowed 10 = .ok (.dup, 1) := by decide +kernel
theorem dX0_borrowed_11 : decode cX0_borrowed 11 = .ok (.ldc 81, 2) := by decide +kernel
theorem dX0_borrowed_13 : decode cX0_borrowed 13 = .ok (.invokespecial 83, 3) := by decide +kernel
theorem dX0_borrowed_16 : decode cX0_borrowed 16 = .ok (.athrow, 1) := by decide +kernel
theorem dX0_borrowed_17 : decode cX0_borrowed 17 = .ok (.aload_n 0, 1) := by decide +kernel
theorem dX0_borrowed_18 : decode cX0_borrowed 18 = .ok (.iload_n 1, 1) := by decide +kernel
theorem dX0_borrowed_19 : decode cX0_borrowed 19 = .ok (.invokevirtual 159, 3) := by decide +kernel
theorem dX0_borrowed_22 : decode cX0_borrowed 22 = .ok (.ireturn, 1) := by decide +kernel
set_option maxRecDepth 20000 in
theorem ggX0_lent_X0_isProcess : GoodIn wsX0_lent wsX0_isProcess := goodIn_r _ [8] (by decide +kernel) (by decide +kernel)
set_option maxRecDepth 20000 in
theorem gX0_lent_X0_isProcess : GoodIn wsX0_lent (va_wsS RX0 75 yX0_isProcess wsX0_isProcess) := goodIn_app (goodIn_of _ (by decide +kernel)) ggX0_lent_X0_isProcess
theorem dX0_lent_0 : decode cX0_lent 0 = .ok (.iload_n 1, 1) := by decide +kernel
theorem dX0_lent_1 : decode cX0_lent 1 = .ok (.invokestatic 75, 3) := by decide +kernel
theorem dX0_lent_4 : decode cX0_lent 4 = .ok (.ifCond .ne 13, 3) := by decide +kernel
theorem dX0_lent_7 : decode cX0_lent 7 = .ok (.new 79, 3) := by decide +kernel
theorem dX0_lent_10 : decode cX0_lent 10 = .ok (.dup, 1) := by decide +kernel
theorem dX0_lent_11 : decode cX0_lent 11 = .ok (.ldc 81, 2) := by decide +kernel
theorem dX0_lent_13 : decode cX0_lent 13 = .ok (.invokespecial 83, 3) := by decide +kernel
theorem dX0_lent_16 : decode cX0_lent 16 = .ok (.athrow, 1) := by decide +kernel
theorem dX0_lent_17 : decode cX0_lent 17 = .ok (.iconst 0, 1) := by decide +kernel
theorem dX0_lent_18 : decode cX0_lent 18 = .ok (.istore_n 2, 1) := by decide +kernel
theorem dX0_lent_19 : decode cX0_lent 19 = .ok (.iconst 0, 1) := by decide +kernel
theorem dX0_lent_20 : decode cX0_lent 20 = .ok (.istore_n 3, 1) := by decide +kernel
theorem dX0_lent_21 : decode cX0_lent 21 = .ok (.iload_n 3, 1) := by decide +kernel
theorem dX0_lent_22 : decode cX0_lent 22 = .ok (.bipush 12, 2) := by decide +kernel
theorem dX0_lent_24 : decode cX0_lent 24 = .ok (.if_icmp .ge 32, 3) := by decide +kernel
theorem dX0_lent_27 : decode cX0_lent 27 = .ok (.aload_n 0, 1) := by decide +kernel
theorem dX0_lent_28 : decode cX0_lent 28 = .ok (.getfield 22, 3) := by decide +kernel
theorem dX0_lent_31 : decode cX0_lent 31 = .ok (.iload_n 3, 1) := by decide +kernel
theorem dX0_lent_32 : decode cX0_lent 32 = .ok (.iaload, 1) := by decide +kernel
theorem dX0_lent_33 : decode cX0_lent 33 = .ok (.iload_n 1, 1) := by decide +kernel
theorem dX0_lent_34 : decode cX0_lent 34 = .ok (.if_icmp .ne 16, 3) := by decide +kernel
theorem dX0_lent_37 : decode cX0_lent 37 = .ok (.aload_n 0, 1) := by decide +kernel
theorem dX0_lent_38 : decode cX0_lent 38 = .ok (.getfield 25, 3) := by decide +kernel
theorem dX0_lent_41 : decode cX0_lent 41 = .ok (.iload_n 3, 1) := by decide +kernel
theorem dX0_lent_42 : decode cX0_lent 42 = .ok (.iaload, 1) := by decide +kernel
theorem dX0_lent_43 : decode cX0_lent 43 = .ok (.iload_n 1, 1) := by decide +kernel
theorem dX0_lent_44 : decode cX0_lent 44 = .ok (.if_icmp .eq 6, 3) := by decide +kernel
theorem dX0_lent_47 : decode cX0_lent 47 = .ok (.iinc 2 1, 3) := by decide +kernel
theorem dX0_lent_50 : decode cX0_lent 50 = .ok (.iinc 3 1, 3) := by decide +kernel
theorem dX0_lent_53 : decode cX0_lent 53 = .ok (.goto (-32), 3) := by decide +kernel
theorem dX0_lent_56 : decode cX0_lent 56 = .ok (.iload_n 2, 1) := by decide +kernel
theorem dX0_lent_57 : decode cX0_lent 57 = .ok (.ireturn, 1) := by decide +kernel
set_option maxRecDepth 20000 in
theorem ggX0_stateOf_X0_isProcess : GoodIn wsX0_stateOf wsX0_isProcess := goodIn_r _ [7] (by decide +kernel) (by decide +kernel)
set_option maxRecDepth 20000 in
theorem gX0_stateOf_X0_isProcess : GoodIn wsX0_stateOf (va_wsS RX0 75 yX0_isProcess wsX0_isProcess) := goodIn_app (goodIn_of _ (by decide +kernel)) ggX0_stateOf_X0_isProcess
theorem dX0_stateOf_0 : decode cX0_stateOf 0 = .ok (.iload_n 1, 1) := by decide +kernel
theorem dX0_stateOf_1 : decode cX0_stateOf 1 = .ok (.invokestatic 75, 3) := by decide +kernel
theorem dX0_stateOf_4 : decode cX0_stateOf 4 = .ok (.ifCond .ne 13, 3) := by decide +kernel
theorem dX0_stateOf_7 : decode cX0_stateOf 7 = .ok (.new 79, 3) := by decide +kernel
theorem dX0_stateOf_10 : decode cX0_stateOf 10 = .ok (.dup, 1) := by decide +kernel
theorem dX0_stateOf_11 : decode cX0_stateOf 11 = .ok (.ldc 81, 2) := by decide +kernel
theorem dX0_stateOf_13 : decode cX0_stateOf 13 = .ok (.invokespecial 83, 3) := by decide +kernel
theorem dX0_stateOf_16 : decode cX0_stateOf 16 = .ok (.athrow, 1) := by decide +kernel
theorem dX0_stateOf_17 : decode cX0_stateOf 17 = .ok (.aload_n 0, 1) := by decide +kernel
theorem dX0_stateOf_18 : decode cX0_stateOf 18 = .ok (.getfield 16, 3) := by decide +kernel
theorem dX0_stateOf_21 : decode cX0_stateOf 21 = .ok (.iload_n 1, 1) := by decide +kernel
theorem dX0_stateOf_22 : decode cX0_stateOf 22 = .ok (.iaload, 1) := by decide +kernel
theorem dX0_stateOf_23 : decode cX0_stateOf 23 = .ok (.ireturn, 1) := by decide +kernel
set_option maxRecDepth 20000 in
theorem ggX0_purse_X0_isProcess : GoodIn wsX0_purse wsX0_isProcess := goodIn_r _ [7] (by decide +kernel) (by decide +kernel)
set_option maxRecDepth 20000 in
theorem gX0_purse_X0_isProcess : GoodIn wsX0_purse (va_wsS RX0 75 yX0_isProcess wsX0_isProcess) := goodIn_app (goodIn_of _ (by decide +kernel)) ggX0_purse_X0_isProcess
theorem dX0_purse_0 : decode cX0_purse 0 = .ok (.iload_n 1, 1) := by decide +kernel
theorem dX0_purse_1 : decode cX0_purse 1 = .ok (.invokestatic 75, 3) := by decide +kernel
theorem dX0_purse_4 : decode cX0_purse 4 = .ok (.ifCond .ne 13, 3) := by decide +kernel
theorem dX0_purse_7 : decode cX0_purse 7 = .ok (.new 79, 3) := by decide +kernel
theorem dX0_purse_10 : decode cX0_purse 10 = .ok (.dup, 1) := by decide +kernel
theorem dX0_purse_11 : decode cX0_purse 11 = .ok (.ldc 81, 2) := by decide +kernel
theorem dX0_purse_13 : decode cX0_purse 13 = .ok (.invokespecial 83, 3) := by decide +kernel
theorem dX0_purse_16 : decode cX0_purse 16 = .ok (.athrow, 1) := by decide +kernel
theorem dX0_purse_17 : decode cX0_purse 17 = .ok (.aload_n 0, 1) := by decide +kernel
theorem dX0_purse_18 : decode cX0_purse 18 = .ok (.getfield 13, 3) := by decide +kernel
theorem dX0_purse_21 : decode cX0_purse 21 = .ok (.iload_n 1, 1) := by decide +kernel
theorem dX0_purse_22 : decode cX0_purse 22 = .ok (.iaload, 1) := by decide +kernel
theorem dX0_purse_23 : decode cX0_purse 23 = .ok (.ireturn, 1) := by decide +kernel
set_option maxRecDepth 20000 in
theorem ggX0_faults_X0_isProcess : GoodIn wsX0_faults wsX0_isProcess := goodIn_r _ [7] (by decide +kernel) (by decide +kernel)
set_option maxRecDepth 20000 in
theorem gX0_faults_X0_isProcess : GoodIn wsX0_faults (va_wsS RX0 75 yX0_isProcess wsX0_isProcess) := goodIn_app (goodIn_of _ (by decide +kernel)) ggX0_faults_X0_isProcess
theorem dX0_faults_0 : decode cX0_faults 0 = .ok (.iload_n 1, 1) := by decide +kernel
theorem dX0_faults_1 : decode cX0_faults 1 = .ok (.invokestatic 75, 3) := by decide +kernel
theorem dX0_faults_4 : decode cX0_faults 4 = .ok (.ifCond .ne 13, 3) := by decide +kernel
theorem dX0_faults_7 : decode cX0_faults 7 = .ok (.new 79, 3) := by decide +kernel
theorem dX0_faults_10 : decode cX0_faults 10 = .ok (.dup, 1) := by decide +kernel
theorem dX0_faults_11 : decode cX0_faults 11 = .ok (.ldc 81, 2) := by decide +kernel
theorem dX0_faults_13 : decode cX0_faults 13 = .ok (.invokespecial 83, 3) := by decide +kernel
theorem dX0_faults_16 : decode cX0_faults 16 = .ok (.athrow, 1) := by decide +kernel
theorem dX0_faults_17 : decode cX0_faults 17 = .ok (.aload_n 0, 1) := by decide +kernel
theorem dX0_faults_18 : decode cX0_faults 18 = .ok (.getfield 19, 3) := by decide +kernel
theorem dX0_faults_21 : decode cX0_faults 21 = .ok (.iload_n 1, 1) := by decide +kernel
theorem dX0_faults_22 : decode cX0_faults 22 = .ok (.iaload, 1) := by decide +kernel
theorem dX0_faults_23 : decode cX0_faults 23 = .ok (.ireturn, 1) := by decide +kernel
theorem dX0_loans_0 : decode cX0_loans 0 = .ok (.aload_n 0, 1) := by decide +kernel
theorem dX0_loans_1 : decode cX0_loans 1 = .ok (.getfield 53, 3) := by decide +kernel
theorem dX0_loans_4 : decode cX0_loans 4 = .ok (.ireturn, 1) := by decide +kernel
set_option maxRecDepth 20000 in
theorem ggX0_lasts_X0_isLoan : GoodIn wsX0_lasts wsX0_isLoan := goodIn_r _ [8, 9, 10, 11, 12, 13, 14, 15, 16, 17, 18, 19, 20, 21, 22, 23, 24, 25, 26, 27, 28] (by decide +kernel) (by decide +kernel)
set_option maxRecDepth 20000 in
theorem gX0_lasts_X0_isLoan : GoodIn wsX0_lasts (wsV RX0 135 RX0 yX0_isLoan wsX0_isLoan) := goodIn_app (goodIn_of _ (by decide +kernel)) ggX0_lasts_X0_isLoan
theorem dX0_lasts_0 : decode cX0_lasts 0 = .ok (.aload_n 0, 1) := by decide +kernel
theorem dX0_lasts_1 : decode cX0_lasts 1 = .ok (.iload_n 1, 1) := by decide +kernel
theorem dX0_lasts_2 : decode cX0_lasts 2 = .ok (.invokevirtual 135, 3) := by decide +kernel
theorem dX0_lasts_5 : decode cX0_lasts 5 = .ok (.ifCond .ne 13, 3) := by decide +kernel
theorem dX0_lasts_8 : decode cX0_lasts 8 = .ok (.new 79, 3) := by decide +kernel
theorem dX0_lasts_11 : decode cX0_lasts 11 = .ok (.dup, 1) := by decide +kernel
theorem dX0_lasts_12 : decode cX0_lasts 12 = .ok (.ldc 138, 2) := by decide +kernel
theorem dX0_lasts_14 : decode cX0_lasts 14 = .ok (.invokespecial 83, 3) := by decide +kernel
theorem dX0_lasts_17 : decode cX0_lasts 17 = .ok (.athrow, 1) := by decide +kernel
theorem dX0_lasts_18 : decode cX0_lasts 18 = .ok (.aload_n 0, 1) := by decide +kernel
theorem dX0_lasts_19 : decode cX0_lasts 19 = .ok (.getfield 47, 3) := by decide +kernel
theorem dX0_lasts_22 : decode cX0_lasts 22 = .ok (.iload_n 1, 1) := by decide +kernel
theorem dX0_lasts_23 : decode cX0_lasts 23 = .ok (.baload, 1) := by decide +kernel
theorem dX0_lasts_24 : decode cX0_lasts 24 = .ok (.ireturn, 1) := by decide +kernel
set_option maxRecDepth 20000 in
theorem ggX0_partiesOf_X0_isLoan : GoodIn wsX0_partiesOf wsX0_isLoan := goodIn_r _ [10, 11, 12, 13, 14, 15, 16, 17, 18, 19, 20, 21, 22, 23, 24, 25, 26, 27, 28, 29, 30] (by decide +kernel) (by decide +kernel)
set_option maxRecDepth 20000 in
theorem gX0_partiesOf_X0_isLoan : GoodIn wsX0_partiesOf (wsV RX0 135 RX0 yX0_isLoan wsX0_isLoan) := goodIn_app (goodIn_of _ (by decide +kernel)) ggX0_partiesOf_X0_isLoan
theorem dX0_partiesOf_0 : decode cX0_partiesOf 0 = .ok (.aload_n 0, 1) := by decide +kernel
theorem dX0_partiesOf_1 : decode cX0_partiesOf 1 = .ok (.iload_n 1, 1) := by decide +kernel
theorem dX0_partiesOf_2 : decode cX0_partiesOf 2 = .ok (.invokevirtual 135, 3) := by decide +kernel
theorem dX0_partiesOf_5 : decode cX0_partiesOf 5 = .ok (.ifCond .ne 13, 3) := by decide +kernel
theorem dX0_partiesOf_8 : decode cX0_partiesOf 8 = .ok (.new 79, 3) := by decide +kernel
theorem dX0_partiesOf_11 : decode cX0_partiesOf 11 = .ok (.dup, 1) := by decide +kernel
theorem dX0_partiesOf_12 : decode cX0_partiesOf 12 = .ok (.ldc 138, 2) := by decide +kernel
theorem dX0_partiesOf_14 : decode cX0_partiesOf 14 = .ok (.invokespecial 83, 3) := by decide +kernel
theorem dX0_partiesOf_17 : decode cX0_partiesOf 17 = .ok (.athrow, 1) := by decide +kernel
theorem dX0_partiesOf_18 : decode cX0_partiesOf 18 = .ok (.bipush 100, 2) := by decide +kernel
theorem dX0_partiesOf_20 : decode cX0_partiesOf 20 = .ok (.aload_n 0, 1) := by decide +kernel
theorem dX0_partiesOf_21 : decode cX0_partiesOf 21 = .ok (.getfield 38, 3) := by decide +kernel
theorem dX0_partiesOf_24 : decode cX0_partiesOf 24 = .ok (.iload_n 1, 1) := by decide +kernel
theorem dX0_partiesOf_25 : decode cX0_partiesOf 25 = .ok (.iaload, 1) := by decide +kernel
theorem dX0_partiesOf_26 : decode cX0_partiesOf 26 = .ok (.imul, 1) := by decide +kernel
theorem dX0_partiesOf_27 : decode cX0_partiesOf 27 = .ok (.bipush 10, 2) := by decide +kernel
theorem dX0_partiesOf_29 : decode cX0_partiesOf 29 = .ok (.aload_n 0, 1) := by decide +kernel
theorem dX0_partiesOf_30 : decode cX0_partiesOf 30 = .ok (.getfield 41, 3) := by decide +kernel
theorem dX0_partiesOf_33 : decode cX0_partiesOf 33 = .ok (.iload_n 1, 1) := by decide +kernel
theorem dX0_partiesOf_34 : decode cX0_partiesOf 34 = .ok (.iaload, 1) := by decide +kernel
theorem dX0_partiesOf_35 : decode cX0_partiesOf 35 = .ok (.imul, 1) := by decide +kernel
theorem dX0_partiesOf_36 : decode cX0_partiesOf 36 = .ok (.iadd, 1) := by decide +kernel
theorem dX0_partiesOf_37 : decode cX0_partiesOf 37 = .ok (.aload_n 0, 1) := by decide +kernel
theorem dX0_partiesOf_38 : decode cX0_partiesOf 38 = .ok (.getfield 44, 3) := by decide +kernel
theorem dX0_partiesOf_41 : decode cX0_partiesOf 41 = .ok (.iload_n 1, 1) := by decide +kernel
theorem dX0_partiesOf_42 : decode cX0_partiesOf 42 = .ok (.iaload, 1) := by decide +kernel
theorem dX0_partiesOf_43 : decode cX0_partiesOf 43 = .ok (.iadd, 1) := by decide +kernel
theorem dX0_partiesOf_44 : decode cX0_partiesOf 44 = .ok (.ireturn, 1) := by decide +kernel
set_option maxRecDepth 20000 in
theorem ggX0_interest_X0_isLoan : GoodIn wsX0_interest wsX0_isLoan := goodIn_r _ [8, 9, 10, 11, 12, 13, 14, 15, 16, 17, 18, 19, 20, 21, 22, 23, 24, 25, 26, 27, 28] (by decide +kernel) (by decide +kernel)
set_option maxRecDepth 20000 in
theorem gX0_interest_X0_isLoan : GoodIn wsX0_interest (wsV RX0 135 RX0 yX0_isLoan wsX0_isLoan) := goodIn_app (goodIn_of _ (by decide +kernel)) ggX0_interest_X0_isLoan
theorem dX0_interest_0 : decode cX0_interest 0 = .ok (.aload_n 0, 1) := by decide +kernel
theorem dX0_interest_1 : decode cX0_interest 1 = .ok (.iload_n 1, 1) := by decide +kernel
theorem dX0_interest_2 : decode cX0_interest 2 = .ok (.invokevirtual 135, 3) := by decide +kernel
theorem dX0_interest_5 : decode cX0_interest 5 = .ok (.ifCond .ne 13, 3) := by decide +kernel
theorem dX0_interest_8 : decode cX0_interest 8 = .ok (.new 79, 3) := by decide +kernel
theorem dX0_interest_11 : decode cX0_interest 11 = .ok (.dup, 1) := by decide +kernel
theorem dX0_interest_12 : decode cX0_interest 12 = .ok (.ldc 138, 2) := by decide +kernel
theorem dX0_interest_14 : decode cX0_interest 14 = .ok (.invokespecial 83, 3) := by decide +kernel
theorem dX0_interest_17 : decode cX0_interest 17 = .ok (.athrow, 1) := by decide +kernel
theorem dX0_interest_18 : decode cX0_interest 18 = .ok (.aload_n 0, 1) := by decide +kernel
theorem dX0_interest_19 : decode cX0_interest 19 = .ok (.getfield 50, 3) := by decide +kernel
theorem dX0_interest_22 : decode cX0_interest 22 = .ok (.iload_n 1, 1) := by decide +kernel
theorem dX0_interest_23 : decode cX0_interest 23 = .ok (.iaload, 1) := by decide +kernel
theorem dX0_interest_24 : decode cX0_interest 24 = .ok (.ireturn, 1) := by decide +kernel
theorem dX0_head_0 : decode cX0_head 0 = .ok (.aload_n 0, 1) := by decide +kernel
theorem dX0_head_1 : decode cX0_head 1 = .ok (.getfield 63, 3) := by decide +kernel
theorem dX0_head_4 : decode cX0_head 4 = .ok (.ireturn, 1) := by decide +kernel
set_option maxRecDepth 20000 in
theorem ggX0_requests_X0_isComing : GoodIn wsX0_requests wsX0_isComing := goodIn_r _ [5, 6, 7, 8, 9, 4, 10, 11, 12, 13, 14, 15, 16, 17, 18, 19, 20, 21, 22, 23, 24, 25, 26, 27, 28, 29] (by decide +kernel) (by decide +kernel)
set_option maxRecDepth 20000 in
theorem gX0_requests_X0_isComing : GoodIn wsX0_requests (wsV RX0 140 RX0 yX0_isComing wsX0_isComing) := goodIn_app (goodIn_of _ (by decide +kernel)) ggX0_requests_X0_isComing
theorem dX0_requests_0 : decode cX0_requests 0 = .ok (.iconst 0, 1) := by decide +kernel
theorem dX0_requests_1 : decode cX0_requests 1 = .ok (.istore_n 1, 1) := by decide +kernel
theorem dX0_requests_2 : decode cX0_requests 2 = .ok (.iconst 0, 1) := by decide +kernel
theorem dX0_requests_3 : decode cX0_requests 3 = .ok (.istore_n 2, 1) := by decide +kernel
theorem dX0_requests_4 : decode cX0_requests 4 = .ok (.iload_n 2, 1) := by decide +kernel
theorem dX0_requests_5 : decode cX0_requests 5 = .ok (.bipush 12, 2) := by decide +kernel
theorem dX0_requests_7 : decode cX0_requests 7 = .ok (.if_icmp .ge 20, 3) := by decide +kernel
theorem dX0_requests_10 : decode cX0_requests 10 = .ok (.aload_n 0, 1) := by decide +kernel
theorem dX0_requests_11 : decode cX0_requests 11 = .ok (.iload_n 2, 1) := by decide +kernel
theorem dX0_requests_12 : decode cX0_requests 12 = .ok (.invokevirtual 140, 3) := by decide +kernel
theorem dX0_requests_15 : decode cX0_requests 15 = .ok (.ifCond .eq 6, 3) := by decide +kernel
theorem dX0_requests_18 : decode cX0_requests 18 = .ok (.iinc 1 1, 3) := by decide +kernel
theorem dX0_requests_21 : decode cX0_requests 21 = .ok (.iinc 2 1, 3) := by decide +kernel
theorem dX0_requests_24 : decode cX0_requests 24 = .ok (.goto (-20), 3) := by decide +kernel
theorem dX0_requests_27 : decode cX0_requests 27 = .ok (.iload_n 1, 1) := by decide +kernel
theorem dX0_requests_28 : decode cX0_requests 28 = .ok (.ireturn, 1) := by decide +kernel
set_option maxRecDepth 20000 in
theorem ggX0_requestAt_X0_isRequested : GoodIn wsX0_requestAt wsX0_isRequested := goodIn_r _ [7, 8, 9, 10, 6, 11, 12, 13, 14, 15, 16, 17, 18, 19, 20, 21, 22, 23, 24, 25, 26, 27, 28, 29, 30, 31, 32, 33, 34, 35, 36, 37, 38, 39, 40] (by decide +kernel) (by decide +kernel)
set_option maxRecDepth 20000 in
theorem gX0_requestAt_X0_isRequested : GoodIn wsX0_requestAt (wsV RX0 164 RX0 yX0_isRequested wsX0_isRequested) := goodIn_app (goodIn_of _ (by decide +kernel)) ggX0_requestAt_X0_isRequested
theorem dX0_requestAt_0 : decode cX0_requestAt 0 = .ok (.iload_n 1, 1) := by decide +kernel
theorem dX0_requestAt_1 : decode cX0_requestAt 1 = .ok (.ifCond .ge 13, 3) := by decide +kernel
theorem dX0_requestAt_4 : decode cX0_requestAt 4 = .ok (.new 79, 3) := by decide +kernel
theorem dX0_requestAt_7 : decode cX0_requestAt 7 = .ok (.dup, 1) := by decide +kernel
theorem dX0_requestAt_8 : decode cX0_requestAt 8 = .ok (.ldc 162, 2) := by decide +kernel
theorem dX0_requestAt_10 : decode cX0_requestAt 10 = .ok (.invokespecial 83, 3) := by decide +kernel
theorem dX0_requestAt_13 : decode cX0_requestAt 13 = .ok (.athrow, 1) := by decide +kernel
theorem dX0_requestAt_14 : decode cX0_requestAt 14 = .ok (.iconst 0, 1) := by decide +kernel
theorem dX0_requestAt_15 : decode cX0_requestAt 15 = .ok (.istore_n 2, 1) := by decide +kernel
theorem dX0_requestAt_16 : decode cX0_requestAt 16 = .ok (.iconst 0, 1) := by decide +kernel
theorem dX0_requestAt_17 : decode cX0_requestAt 17 = .ok (.istore_n 3, 1) := by decide +kernel
theorem dX0_requestAt_18 : decode cX0_requestAt 18 = .ok (.iload_n 3, 1) := by decide +kernel
theorem dX0_requestAt_19 : decode cX0_requestAt 19 = .ok (.bipush 40, 2) := by decide +kernel
theorem dX0_requestAt_21 : decode cX0_requestAt 21 = .ok (.if_icmp .ge 27, 3) := by decide +kernel
theorem dX0_requestAt_24 : decode cX0_requestAt 24 = .ok (.aload_n 0, 1) := by decide +kernel
theorem dX0_requestAt_25 : decode cX0_requestAt 25 = .ok (.iload_n 3, 1) := by decide +kernel
theorem dX0_requestAt_26 : decode cX0_requestAt 26 = .ok (.invokevirtual 164, 3) := by decide +kernel
theorem dX0_requestAt_29 : decode cX0_requestAt 29 = .ok (.ifCond .eq 13, 3) := by decide +kernel
theorem dX0_requestAt_32 : decode cX0_requestAt 32 = .ok (.iload_n 2, 1) := by decide +kernel
theorem dX0_requestAt_33 : decode cX0_requestAt 33 = .ok (.iload_n 1, 1) := by decide +kernel
theorem dX0_requestAt_34 : decode cX0_requestAt 34 = .ok (.if_icmp .ne 5, 3) := by decide +kernel
theorem dX0_requestAt_37 : decode cX0_requestAt 37 = .ok (.iload_n 3, 1) := by decide +kernel
theorem dX0_requestAt_38 : decode cX0_requestAt 38 = .ok (.ireturn, 1) := by decide +kernel
theorem dX0_requestAt_39 : decode cX0_requestAt 39 = .ok (.iinc 2 1, 3) := by decide +kernel
theorem dX0_requestAt_42 : decode cX0_requestAt 42 = .ok (.iinc 3 1, 3) := by decide +kernel
theorem dX0_requestAt_45 : decode cX0_requestAt 45 = .ok (.goto (-27), 3) := by decide +kernel
theorem dX0_requestAt_48 : decode cX0_requestAt 48 = .ok (.iconst (-1), 1) := by decide +kernel
theorem dX0_requestAt_49 : decode cX0_requestAt 49 = .ok (.ireturn, 1) := by decide +kernel
theorem dX0_isProcess_0 : decode cX0_isProcess 0 = .ok (.iload_n 0, 1) := by decide +kernel
theorem dX0_isProcess_1 : decode cX0_isProcess 1 = .ok (.ifCond .lt 12, 3) := by decide +kernel
theorem dX0_isProcess_4 : decode cX0_isProcess 4 = .ok (.iload_n 0, 1) := by decide +kernel
theorem dX0_isProcess_5 : decode cX0_isProcess 5 = .ok (.iconst 5, 1) := by decide +kernel
theorem dX0_isProcess_6 : decode cX0_isProcess 6 = .ok (.if_icmp .ge 7, 3) := by decide +kernel
theorem dX0_isProcess_9 : decode cX0_isProcess 9 = .ok (.iconst 1, 1) := by decide +kernel
theorem dX0_isProcess_10 : decode cX0_isProcess 10 = .ok (.goto 4, 3) := by decide +kernel
theorem dX0_isProcess_13 : decode cX0_isProcess 13 = .ok (.iconst 0, 1) := by decide +kernel
theorem dX0_isProcess_14 : decode cX0_isProcess 14 = .ok (.ireturn, 1) := by decide +kernel
theorem dX0_isPage_0 : decode cX0_isPage 0 = .ok (.iload_n 0, 1) := by decide +kernel
theorem dX0_isPage_1 : decode cX0_isPage 1 = .ok (.ifCond .lt 13, 3) := by decide +kernel
theorem dX0_isPage_4 : decode cX0_isPage 4 = .ok (.iload_n 0, 1) := by decide +kernel
theorem dX0_isPage_5 : decode cX0_isPage 5 = .ok (.bipush 8, 2) := by decide +kernel
theorem dX0_isPage_7 : decode cX0_isPage 7 = .ok (.if_icmp .ge 7, 3) := by decide +kernel
theorem dX0_isPage_10 : decode cX0_isPage 10 = .ok (.iconst 1, 1) := by decide +kernel
theorem dX0_isPage_11 : decode cX0_isPage 11 = .ok (.goto 4, 3) := by decide +kernel
theorem dX0_isPage_14 : decode cX0_isPage 14 = .ok (.iconst 0, 1) := by decide +kernel
theorem dX0_isPage_15 : decode cX0_isPage 15 = .ok (.ireturn, 1) := by decide +kernel
theorem dX0_isFrame_0 : decode cX0_isFrame 0 = .ok (.iload_n 0, 1) := by decide +kernel
theorem dX0_isFrame_1 : decode cX0_isFrame 1 = .ok (.ifCond .lt 13, 3) := by decide +kernel
theorem dX0_isFrame_4 : decode cX0_isFrame 4 = .ok (.iload_n 0, 1) := by decide +kernel
theorem dX0_isFrame_5 : decode cX0_isFrame 5 = .ok (.bipush 12, 2) := by decide +kernel
theorem dX0_isFrame_7 : decode cX0_isFrame 7 = .ok (.if_icmp .ge 7, 3) := by decide +kernel
theorem dX0_isFrame_10 : decode cX0_isFrame 10 = .ok (.iconst 1, 1) := by decide +kernel
theorem dX0_isFrame_11 : decode cX0_isFrame 11 = .ok (.goto 4, 3) := by decide +kernel
theorem dX0_isFrame_14 : decode cX0_isFrame 14 = .ok (.iconst 0, 1) := by decide +kernel
theorem dX0_isFrame_15 : decode cX0_isFrame 15 = .ok (.ireturn, 1) := by decide +kernel
theorem dX0_isLoan_0 : decode cX0_isLoan 0 = .ok (.iload_n 1, 1) := by decide +kernel
theorem dX0_isLoan_1 : decode cX0_isLoan 1 = .ok (.ifCond .lt 21, 3) := by decide +kernel
theorem dX0_isLoan_4 : decode cX0_isLoan 4 = .ok (.iload_n 1, 1) := by decide +kernel
theorem dX0_isLoan_5 : decode cX0_isLoan 5 = .ok (.bipush 60, 2) := by decide +kernel
theorem dX0_isLoan_7 : decode cX0_isLoan 7 = .ok (.if_icmp .ge 15, 3) := by decide +kernel
theorem dX0_isLoan_10 : decode cX0_isLoan 10 = .ok (.iload_n 1, 1) := by decide +kernel
theorem dX0_isLoan_11 : decode cX0_isLoan 11 = .ok (.aload_n 0, 1) := by decide +kernel
theorem dX0_isLoan_12 : decode cX0_isLoan 12 = .ok (.getfield 53, 3) := by decide +kernel
theorem dX0_isLoan_15 : decode cX0_isLoan 15 = .ok (.if_icmp .ge 7, 3) := by decide +kernel
theorem dX0_isLoan_18 : decode cX0_isLoan 18 = .ok (.iconst 1, 1) := by decide +kernel
theorem dX0_isLoan_19 : decode cX0_isLoan 19 = .ok (.goto 4, 3) := by decide +kernel
theorem dX0_isLoan_22 : decode cX0_isLoan 22 = .ok (.iconst 0, 1) := by decide +kernel
theorem dX0_isLoan_23 : decode cX0_isLoan 23 = .ok (.ireturn, 1) := by decide +kernel
set_option maxRecDepth 20000 in
theorem ggX0_isComing_X0_isFrame : GoodIn wsX0_isComing wsX0_isFrame := goodIn_r _ [6] (by decide +kernel) (by decide +kernel)
set_option maxRecDepth 20000 in
theorem gX0_isComing_X0_isFrame : GoodIn wsX0_isComing (va_wsS RX0 102 yX0_isFrame wsX0_isFrame) := goodIn_app (goodIn_of _ (by decide +kernel)) ggX0_isComing_X0_isFrame
theorem dX0_isComing_0 : decode cX0_isComing 0 = .ok (.iload_n 1, 1) := by decide +kernel
theorem dX0_isComing_1 : decode cX0_isComing 1 = .ok (.invokestatic 102, 3) := by decide +kernel
theorem dX0_isComing_4 : decode cX0_isComing 4 = .ok (.ifCond .eq 26, 3) := by decide +kernel
theorem dX0_isComing_7 : decode cX0_isComing 7 = .ok (.aload_n 0, 1) := by decide +kernel
theorem dX0_isComing_8 : decode cX0_isComing 8 = .ok (.getfield 28, 3) := by decide +kernel
theorem dX0_isComing_11 : decode cX0_isComing 11 = .ok (.iload_n 1, 1) := by decide +kernel
theorem dX0_isComing_12 : decode cX0_isComing 12 = .ok (.iaload, 1) := by decide +kernel
theorem dX0_isComing_13 : decode cX0_isComing 13 = .ok (.iconst (-1), 1) := by decide +kernel
theorem dX0_isComing_14 : decode cX0_isComing 14 = .ok (.if_icmp .eq 16, 3) := by decide +kernel
theorem dX0_isComing_17 : decode cX0_isComing 17 = .ok (.aload_n 0, 1) := by decide +kernel
theorem dX0_isComing_18 : decode cX0_isComing 18 = .ok (.getfield 31, 3) := by decide +kernel
theorem dX0_isComing_21 : decode cX0_isComing 21 = .ok (.iload_n 1, 1) := by decide +kernel
theorem dX0_isComing_22 : decode cX0_isComing 22 = .ok (.baload, 1) := by decide +kernel
theorem dX0_isComing_23 : decode cX0_isComing 23 = .ok (.ifCond .ne 7, 3) := by decide +kernel
theorem dX0_isComing_26 : decode cX0_isComing 26 = .ok (.iconst 1, 1) := by decide +kernel
theorem dX0_isComing_27 : decode cX0_isComing 27 = .ok (.goto 4, 3) := by decide +kernel
theorem dX0_isComing_30 : decode cX0_isComing 30 = .ok (.iconst 0, 1) := by decide +kernel
theorem dX0_isComing_31 : decode cX0_isComing 31 = .ok (.ireturn, 1) := by decide +kernel
theorem dX0_ageOf_0 : decode cX0_ageOf 0 = .ok (.aload_n 0, 1) := by decide +kernel
theorem dX0_ageOf_1 : decode cX0_ageOf 1 = .ok (.getfield 31, 3) := by decide +kernel
theorem dX0_ageOf_4 : decode cX0_ageOf 4 = .ok (.iload_n 1, 1) := by decide +kernel
theorem dX0_ageOf_5 : decode cX0_ageOf 5 = .ok (.baload, 1) := by decide +kernel
theorem dX0_ageOf_6 : decode cX0_ageOf 6 = .ok (.ifCond .eq 17, 3) := by decide +kernel
theorem dX0_ageOf_9 : decode cX0_ageOf 9 = .ok (.aload_n 0, 1) := by decide +kernel
theorem dX0_ageOf_10 : decode cX0_ageOf 10 = .ok (.getfield 60, 3) := by decide +kernel
theorem dX0_ageOf_13 : decode cX0_ageOf 13 = .ok (.aload_n 0, 1) := by decide +kernel
theorem dX0_ageOf_14 : decode cX0_ageOf 14 = .ok (.getfield 35, 3) := by decide +kernel
theorem dX0_ageOf_17 : decode cX0_ageOf 17 = .ok (.iload_n 1, 1) := by decide +kernel
theorem dX0_ageOf_18 : decode cX0_ageOf 18 = .ok (.iaload, 1) := by decide +kernel
theorem dX0_ageOf_19 : decode cX0_ageOf 19 = .ok (.isub, 1) := by decide +kernel
theorem dX0_ageOf_20 : decode cX0_ageOf 20 = .ok (.goto 4, 3) := by decide +kernel
theorem dX0_ageOf_23 : decode cX0_ageOf 23 = .ok (.iconst (-1), 1) := by decide +kernel
theorem dX0_ageOf_24 : decode cX0_ageOf 24 = .ok (.ireturn, 1) := by decide +kernel
theorem dX0_dropPage_0 : decode cX0_dropPage 0 = .ok (.aload_n 0, 1) := by decide +kernel
theorem dX0_dropPage_1 : decode cX0_dropPage 1 = .ok (.getfield 28, 3) := by decide +kernel
theorem dX0_dropPage_4 : decode cX0_dropPage 4 = .ok (.iload_n 1, 1) := by decide +kernel
theorem dX0_dropPage_5 : decode cX0_dropPage 5 = .ok (.iconst (-1), 1) := by decide +kernel
theorem dX0_dropPage_6 : decode cX0_dropPage 6 = .ok (.iastore, 1) := by decide +kernel
theorem dX0_dropPage_7 : decode cX0_dropPage 7 = .ok (.aload_n 0, 1) := by decide +kernel
theorem dX0_dropPage_8 : decode cX0_dropPage 8 = .ok (.getfield 31, 3) := by decide +kernel
theorem dX0_dropPage_11 : decode cX0_dropPage 11 = .ok (.iload_n 1, 1) := by decide +kernel
theorem dX0_dropPage_12 : decode cX0_dropPage 12 = .ok (.iconst 0, 1) := by decide +kernel
theorem dX0_dropPage_13 : decode cX0_dropPage 13 = .ok (.bastore, 1) := by decide +kernel
theorem dX0_dropPage_14 : decode cX0_dropPage 14 = .ok (.aload_n 0, 1) := by decide +kernel
theorem dX0_dropPage_15 : decode cX0_dropPage 15 = .ok (.getfield 66, 3) := by decide +kernel
theorem dX0_dropPage_18 : decode cX0_dropPage 18 = .ok (.iload_n 1, 1) := by decide +kernel
theorem dX0_dropPage_19 : decode cX0_dropPage 19 = .ok (.if_icmp .ne 8, 3) := by decide +kernel
theorem dX0_dropPage_22 : decode cX0_dropPage 22 = .ok (.aload_n 0, 1) := by decide +kernel
theorem dX0_dropPage_23 : decode cX0_dropPage 23 = .ok (.iconst (-1), 1) := by decide +kernel
theorem dX0_dropPage_24 : decode cX0_dropPage 24 = .ok (.putfield 66, 3) := by decide +kernel
theorem dX0_dropPage_27 : decode cX0_dropPage 27 = .ok (.return_, 1) := by decide +kernel
theorem dX0_lowestEmptyFrame_0 : decode cX0_lowestEmptyFrame 0 = .ok (.iconst 0, 1) := by decide +kernel
theorem dX0_lowestEmptyFrame_1 : decode cX0_lowestEmptyFrame 1 = .ok (.istore_n 2, 1) := by decide +kernel
theorem dX0_lowestEmptyFrame_2 : decode cX0_lowestEmptyFrame 2 = .ok (.iload_n 2, 1) := by decide +kernel
theorem dX0_lowestEmptyFrame_3 : decode cX0_lowestEmptyFrame 3 = .ok (.bipush 12, 2) := by decide +kernel
theorem dX0_lowestEmptyFrame_5 : decode cX0_lowestEmptyFrame 5 = .ok (.if_icmp .ge 31, 3) := by decide +kernel
theorem dX0_lowestEmptyFrame_8 : decode cX0_lowestEmptyFrame 8 = .ok (.aload_n 0, 1) := by decide +kernel
theorem dX0_lowestEmptyFrame_9 : decode cX0_lowestEmptyFrame 9 = .ok (.getfield 25, 3) := by decide +kernel
theorem dX0_lowestEmptyFrame_12 : decode cX0_lowestEmptyFrame 12 = .ok (.iload_n 2, 1) := by decide +kernel
theorem dX0_lowestEmptyFrame_13 : decode cX0_lowestEmptyFrame 13 = .ok (.iaload, 1) := by decide +kernel
theorem dX0_lowestEmptyFrame_14 : decode cX0_lowestEmptyFrame 14 = .ok (.iload_n 1, 1) := by decide +kernel
theorem dX0_lowestEmptyFrame_15 : decode cX0_lowestEmptyFrame 15 = .ok (.if_icmp .ne 15, 3) := by decide +kernel
theorem dX0_lowestEmptyFrame_18 : decode cX0_lowestEmptyFrame 18 = .ok (.aload_n 0, 1) := by decide +kernel
theorem dX0_lowestEmptyFrame_19 : decode cX0_lowestEmptyFrame 19 = .ok (.getfield 28, 3) := by decide +kernel
theorem dX0_lowestEmptyFrame_22 : decode cX0_lowestEmptyFrame 22 = .ok (.iload_n 2, 1) := by decide +kernel
theorem dX0_lowestEmptyFrame_23 : decode cX0_lowestEmptyFrame 23 = .ok (.iaload, 1) := by decide +kernel
theorem dX0_lowestEmptyFrame_24 : decode cX0_lowestEmptyFrame 24 = .ok (.iconst (-1), 1) := by decide +kernel
theorem dX0_lowestEmptyFrame_25 : decode cX0_lowestEmptyFrame 25 = .ok (.if_icmp .ne 5, 3) := by decide +kernel
theorem dX0_lowestEmptyFrame_28 : decode cX0_lowestEmptyFrame 28 = .ok (.iload_n 2, 1) := by decide +kernel
theorem dX0_lowestEmptyFrame_29 : decode cX0_lowestEmptyFrame 29 = .ok (.ireturn, 1) := by decide +kernel
theorem dX0_lowestEmptyFrame_30 : decode cX0_lowestEmptyFrame 30 = .ok (.iinc 2 1, 3) := by decide +kernel
theorem dX0_lowestEmptyFrame_33 : decode cX0_lowestEmptyFrame 33 = .ok (.goto (-31), 3) := by decide +kernel
theorem dX0_lowestEmptyFrame_36 : decode cX0_lowestEmptyFrame 36 = .ok (.iconst (-1), 1) := by decide +kernel
theorem dX0_lowestEmptyFrame_37 : decode cX0_lowestEmptyFrame 37 = .ok (.ireturn, 1) := by decide +kernel
theorem dX0_frameWithPage_0 : decode cX0_frameWithPage 0 = .ok (.iconst 0, 1) := by decide +kernel
theorem dX0_frameWithPage_1 : decode cX0_frameWithPage 1 = .ok (.istore_n 3, 1) := by decide +kernel
theorem dX0_frameWithPage_2 : decode cX0_frameWithPage 2 = .ok (.iload_n 3, 1) := by decide +kernel
theorem dX0_frameWithPage_3 : decode cX0_frameWithPage 3 = .ok (.bipush 12, 2) := by decide +kernel
theorem dX0_frameWithPage_5 : decode cX0_frameWithPage 5 = .ok (.if_icmp .ge 31, 3) := by decide +kernel
theorem dX0_frameWithPage_8 : decode cX0_frameWithPage 8 = .ok (.aload_n 0, 1) := by decide +kernel
theorem dX0_frameWithPage_9 : decode cX0_frameWithPage 9 = .ok (.getfield 25, 3) := by decide +kernel
theorem dX0_frameWithPage_12 : decode cX0_frameWithPage 12 = .ok (.iload_n 3, 1) := by decide +kernel
theorem dX0_frameWithPage_13 : decode cX0_frameWithPage 13 = .ok (.iaload, 1) := by decide +kernel
theorem dX0_frameWithPage_14 : decode cX0_frameWithPage 14 = .ok (.iload_n 1, 1) := by decide +kernel
theorem dX0_frameWithPage_15 : decode cX0_frameWithPage 15 = .ok (.if_icmp .ne 15, 3) := by decide +kernel
theorem dX0_frameWithPage_18 : decode cX0_frameWithPage 18 = .ok (.aload_n 0, 1) := by decide +kernel
theorem dX0_frameWithPage_19 : decode cX0_frameWithPage 19 = .ok (.getfield 28, 3) := by decide +kernel
theorem dX0_frameWithPage_22 : decode cX0_frameWithPage 22 = .ok (.iload_n 3, 1) := by decide +kernel
theorem dX0_frameWithPage_23 : decode cX0_frameWithPage 23 = .ok (.iaload, 1) := by decide +kernel
theorem dX0_frameWithPage_24 : decode cX0_frameWithPage 24 = .ok (.iload_n 2, 1) := by decide +kernel
theorem dX0_frameWithPage_25 : decode cX0_frameWithPage 25 = .ok (.if_icmp .ne 5, 3) := by decide +kernel
theorem dX0_frameWithPage_28 : decode cX0_frameWithPage 28 = .ok (.iload_n 3, 1) := by decide +kernel
theorem dX0_frameWithPage_29 : decode cX0_frameWithPage 29 = .ok (.ireturn, 1) := by decide +kernel
theorem dX0_frameWithPage_30 : decode cX0_frameWithPage 30 = .ok (.iinc 3 1, 3) := by decide +kernel
theorem dX0_frameWithPage_33 : decode cX0_frameWithPage 33 = .ok (.goto (-31), 3) := by decide +kernel
theorem dX0_frameWithPage_36 : decode cX0_frameWithPage 36 = .ok (.iconst (-1), 1) := by decide +kernel
theorem dX0_frameWithPage_37 : decode cX0_frameWithPage 37 = .ok (.ireturn, 1) := by decide +kernel
set_option maxRecDepth 20000 in
theorem ggX0_oldestFrame_X0_ageOf : GoodIn wsX0_oldestFrame wsX0_ageOf := goodIn_r _ [6, 7, 8, 9, 10, 11, 12, 13, 14, 15, 16, 17, 18, 19, 20, 21, 22, 23, 24, 25, 26, 27, 28] (by decide +kernel) (by decide +kernel)
set_option maxRecDepth 20000 in
theorem gX0_oldestFrame_X0_ageOf : GoodIn wsX0_oldestFrame (wsV RX0 156 RX0 yX0_ageOf wsX0_ageOf) := goodIn_app (goodIn_of _ (by decide +kernel)) ggX0_oldestFrame_X0_ageOf
theorem dX0_oldestFrame_0 : decode cX0_oldestFrame 0 = .ok (.iconst (-1), 1) := by decide +kernel
theorem dX0_oldestFrame_1 : decode cX0_oldestFrame 1 = .ok (.istore_n 2, 1) := by decide +kernel
theorem dX0_oldestFrame_2 : decode cX0_oldestFrame 2 = .ok (.iconst (-1), 1) := by decide +kernel
theorem dX0_oldestFrame_3 : decode cX0_oldestFrame 3 = .ok (.istore_n 3, 1) := by decide +kernel
theorem dX0_oldestFrame_4 : decode cX0_oldestFrame 4 = .ok (.iconst 0, 1) := by decide +kernel
theorem dX0_oldestFrame_5 : decode cX0_oldestFrame 5 = .ok (.istore 4, 2) := by decide +kernel
theorem dX0_oldestFrame_7 : decode cX0_oldestFrame 7 = .ok (.iload 4, 2) := by decide +kernel
theorem dX0_oldestFrame_9 : decode cX0_oldestFrame 9 = .ok (.bipush 12, 2) := by decide +kernel
theorem dX0_oldestFrame_11 : decode cX0_oldestFrame 11 = .ok (.if_icmp .ge 40, 3) := by decide +kernel
theorem dX0_oldestFrame_14 : decode cX0_oldestFrame 14 = .ok (.aload_n 0, 1) := by decide +kernel
theorem dX0_oldestFrame_15 : decode cX0_oldestFrame 15 = .ok (.getfield 25, 3) := by decide +kernel
theorem dX0_oldestFrame_18 : decode cX0_oldestFrame 18 = .ok (.iload 4, 2) := by decide +kernel
theorem dX0_oldestFrame_20 : decode cX0_oldestFrame 20 = .ok (.iaload, 1) := by decide +kernel
theorem dX0_oldestFrame_21 : decode cX0_oldestFrame 21 = .ok (.iload_n 1, 1) := by decide +kernel
theorem dX0_oldestFrame_22 : decode cX0_oldestFrame 22 = .ok (.if_icmp .ne 23, 3) := by decide +kernel
theorem dX0_oldestFrame_25 : decode cX0_oldestFrame 25 = .ok (.aload_n 0, 1) := by decide +kernel
theorem dX0_oldestFrame_26 : decode cX0_oldestFrame 26 = .ok (.iload 4, 2) := by decide +kernel
theorem dX0_oldestFrame_28 : decode cX0_oldestFrame 28 = .ok (.invokevirtual 156, 3) := by decide +kernel
theorem dX0_oldestFrame_31 : decode cX0_oldestFrame 31 = .ok (.iload_n 3, 1) := by decide +kernel
theorem dX0_oldestFrame_32 : decode cX0_oldestFrame 32 = .ok (.if_icmp .le 13, 3) := by decide +kernel
theorem dX0_oldestFrame_35 : decode cX0_oldestFrame 35 = .ok (.iload 4, 2) := by decide +kernel
theorem dX0_oldestFrame_37 : decode cX0_oldestFrame 37 = .ok (.istore_n 2, 1) := by decide +kernel
theorem dX0_oldestFrame_38 : decode cX0_oldestFrame 38 = .ok (.aload_n 0, 1) := by decide +kernel
theorem dX0_oldestFrame_39 : decode cX0_oldestFrame 39 = .ok (.iload 4, 2) := by decide +kernel
theorem dX0_oldestFrame_41 : decode cX0_oldestFrame 41 = .ok (.invokevirtual 156, 3) := by decide +kernel
theorem dX0_oldestFrame_44 : decode cX0_oldestFrame 44 = .ok (.istore_n 3, 1) := by decide +kernel
theorem dX0_oldestFrame_45 : decode cX0_oldestFrame 45 = .ok (.iinc 4 1, 3) := by decide +kernel
theorem dX0_oldestFrame_48 : decode cX0_oldestFrame 48 = .ok (.goto (-41), 3) := by decide +kernel
theorem dX0_oldestFrame_51 : decode cX0_oldestFrame 51 = .ok (.iload_n 2, 1) := by decide +kernel
theorem dX0_oldestFrame_52 : decode cX0_oldestFrame 52 = .ok (.ireturn, 1) := by decide +kernel
set_option maxRecDepth 20000 in
theorem ggX0_frameForFault_X0_lowestEmptyFrame : GoodIn wsX0_frameForFault wsX0_lowestEmptyFrame := goodIn_r _ [5, 6, 7, 68, 69, 70, 71, 72, 73, 74, 75, 76, 77, 78, 79, 80, 81, 82, 83, 84, 85, 86] (by decide +kernel) (by decide +kernel)
set_option maxRecDepth 20000 in
theorem gX0_frameForFault_X0_lowestEmptyFrame : GoodIn wsX0_frameForFault (wsV RX0 98 RX0 yX0_lowestEmptyFrame wsX0_lowestEmptyFrame) := goodIn_app (goodIn_of _ (by decide +kernel)) ggX0_frameForFault_X0_lowestEmptyFrame
set_option maxRecDepth 20000 in
theorem ggX0_frameForFault_X0_callIn : GoodIn wsX0_frameForFault wsX0_callIn := goodIn_r _ [11, 12, 13, 14, 15, 16, 17, 18, 4, 19, 7, 20, 21, 22, 23, 24, 25, 26, 27, 6, 28, 29, 30, 31, 32, 33, 68, 69, 70, 71, 72, 73, 74, 75, 76, 77, 78, 79, 80, 81, 82, 83, 84, 85, 86] (by decide +kernel) (by decide +kernel)
set_option maxRecDepth 20000 in
theorem gX0_frameForFault_X0_callIn : GoodIn wsX0_frameForFault (wsV RX0 167 RX0 yX0_callIn wsX0_callIn) := goodIn_app (goodIn_of _ (by decide +kernel)) ggX0_frameForFault_X0_callIn
set_option maxRecDepth 20000 in
theorem ggX0_frameForFault_X0_borrow : GoodIn wsX0_frameForFault wsX0_borrow := goodIn_ca (goodIn_r _ [37, 38, 39, 40, 41, 12, 6, 15, 14, 42, 13, 43, 44, 45, 4, 46, 28, 47, 48, 49, 50, 51, 52, 53, 54, 7, 55, 56, 57, 58, 20, 59, 60, 61, 62, 63, 21, 22, 23, 68, 69, 70, 71, 72, 73, 74, 75, 76, 77, 78, 79, 80, 81, 82, 83, 84, 85, 86] (by decide +kernel) (by decide +kernel)) (goodIn_sub (fun _ h => List.mem_cons_of_mem _ (List.mem_append_right _ h)) (by decide +kernel))
set_option maxRecDepth 20000 in
theorem gX0_frameForFault_X0_borrow : GoodIn wsX0_frameForFault (wsV RX0 170 RX0 yX0_borrow wsX0_borrow) := goodIn_app (goodIn_of _ (by decide +kernel)) ggX0_frameForFault_X0_borrow
set_option maxRecDepth 20000 in
theorem ggX0_frameForFault_X0_oldestFrame : GoodIn wsX0_frameForFault wsX0_oldestFrame := goodIn_r _ [67, 6, 55, 56, 57, 4, 58, 20, 59, 60, 68, 69, 70, 71, 72, 73, 74, 75, 76, 77, 78, 79, 80, 81, 82, 83, 84, 85, 86] (by decide +kernel) (by decide +kernel)
set_option maxRecDepth 20000 in
theorem gX0_frameForFault_X0_oldestFrame : GoodIn wsX0_frameForFault (wsV RX0 173 RX0 yX0_oldestFrame wsX0_oldestFrame) := goodIn_app (goodIn_of _ (by decide +kernel)) ggX0_frameForFault_X0_oldestFrame
theorem dX0_frameForFault_0 : decode cX0_frameForFault 0 = .ok (.aload_n 0, 1) := by decide +kernel
theorem dX0_frameForFault_1 : decode cX0_frameForFault 1 = .ok (.iload_n 1, 1) := by decide +kernel
theorem dX0_frameForFault_2 : decode cX0_frameForFault 2 = .ok (.invokevirtual 98, 3) := by decide +kernel
theorem dX0_frameForFault_5 : decode cX0_frameForFault 5 = .ok (.istore_n 2, 1) := by decide +kernel
theorem dX0_frameForFault_6 : decode cX0_frameForFault 6 = .ok (.iload_n 2, 1) := by decide +kernel
theorem dX0_frameForFault_7 : decode cX0_frameForFault 7 = .ok (.iconst (-1), 1) := by decide +kernel
theorem dX0_frameForFault_8 : decode cX0_frameForFault 8 = .ok (.if_icmp .ne 9, 3) := by decide +kernel
theorem dX0_frameForFault_11 : decode cX0_frameForFault 11 = .ok (.aload_n 0, 1) := by decide +kernel
theorem dX0_frameForFault_12 : decode cX0_frameForFault 12 = .ok (.iload_n 1, 1) := by decide +kernel
theorem dX0_frameForFault_13 : decode cX0_frameForFault 13 = .ok (.invokevirtual 167, 3) := by decide +kernel
theorem dX0_frameForFault_16 : decode cX0_frameForFault 16 = .ok (.istore_n 2, 1) := by decide +kernel
theorem dX0_frameForFault_17 : decode cX0_frameForFault 17 = .ok (.iload_n 2, 1) := by decide +kernel
theorem dX0_frameForFault_18 : decode cX0_frameForFault 18 = .ok (.iconst (-1), 1) := by decide +kernel
theorem dX0_frameForFault_19 : decode cX0_frameForFault 19 = .ok (.if_icmp .ne 9, 3) := by decide +kernel
theorem dX0_frameForFault_22 : decode cX0_frameForFault 22 = .ok (.aload_n 0, 1) := by decide +kernel
theorem dX0_frameForFault_23 : decode cX0_frameForFault 23 = .ok (.iload_n 1, 1) := by decide +kernel
theorem dX0_frameForFault_24 : decode cX0_frameForFault 24 = .ok (.invokevirtual 170, 3) := by decide +kernel
theorem dX0_frameForFault_27 : decode cX0_frameForFault 27 = .ok (.istore_n 2, 1) := by decide +kernel
theorem dX0_frameForFault_28 : decode cX0_frameForFault 28 = .ok (.iload_n 2, 1) := by decide +kernel
theorem dX0_frameForFault_29 : decode cX0_frameForFault 29 = .ok (.iconst (-1), 1) := by decide +kernel
theorem dX0_frameForFault_30 : decode cX0_frameForFault 30 = .ok (.if_icmp .ne 9, 3) := by decide +kernel
theorem dX0_frameForFault_33 : decode cX0_frameForFault 33 = .ok (.aload_n 0, 1) := by decide +kernel
theorem dX0_frameForFault_34 : decode cX0_frameForFault 34 = .ok (.iload_n 1, 1) := by decide +kernel
theorem dX0_frameForFault_35 : decode cX0_frameForFault 35 = .ok (.invokevirtual 173, 3) := by decide +kernel
theorem dX0_frameForFault_38 : decode cX0_frameForFault 38 = .ok (.istore_n 2, 1) := by decide +kernel
theorem dX0_frameForFault_39 : decode cX0_frameForFault 39 = .ok (.iload_n 2, 1) := by decide +kernel
theorem dX0_frameForFault_40 : decode cX0_frameForFault 40 = .ok (.ireturn, 1) := by decide +kernel
set_option maxRecDepth 20000 in
theorem ggX0_callIn_X0_isComing : GoodIn wsX0_callIn wsX0_isComing := goodIn_r _ [9, 10, 11, 12, 13, 8, 14, 26, 27, 28, 29, 30, 31, 32, 33, 34, 35, 36, 37, 38, 39, 40, 41, 42, 43, 44] (by decide +kernel) (by decide +kernel)
set_option maxRecDepth 20000 in
theorem gX0_callIn_X0_isComing : GoodIn wsX0_callIn (wsV RX0 140 RX0 yX0_isComing wsX0_isComing) := goodIn_app (goodIn_of _ (by decide +kernel)) ggX0_callIn_X0_isComing
set_option maxRecDepth 20000 in
theorem ggX0_callIn_X0_endLoan : GoodIn wsX0_callIn wsX0_endLoan := goodIn_r _ [18, 2, 4, 19, 20, 12, 13, 8, 14, 21, 22, 23, 24, 10, 11, 25, 26, 27, 28, 29, 30, 31, 32, 33, 34, 35, 36, 37, 38, 39, 40, 41, 42, 43, 44] (by decide +kernel) (by decide +kernel)
set_option maxRecDepth 20000 in
theorem gX0_callIn_X0_endLoan : GoodIn wsX0_callIn (wsV RX0 145 RX0 yX0_endLoan wsX0_endLoan) := goodIn_app (goodIn_of _ (by decide +kernel)) ggX0_callIn_X0_endLoan
theorem dX0_callIn_0 : decode cX0_callIn 0 = .ok (.iconst 0, 1) := by decide +kernel
theorem dX0_callIn_1 : decode cX0_callIn 1 = .ok (.istore_n 2, 1) := by decide +kernel
theorem dX0_callIn_2 : decode cX0_callIn 2 = .ok (.iload_n 2, 1) := by decide +kernel
theorem dX0_callIn_3 : decode cX0_callIn 3 = .ok (.bipush 60, 2) := by decide +kernel
theorem dX0_callIn_5 : decode cX0_callIn 5 = .ok (.if_icmp .ge 61, 3) := by decide +kernel
theorem dX0_callIn_8 : decode cX0_callIn 8 = .ok (.iload_n 2, 1) := by decide +kernel
theorem dX0_callIn_9 : decode cX0_callIn 9 = .ok (.aload_n 0, 1) := by decide +kernel
theorem dX0_callIn_10 : decode cX0_callIn 10 = .ok (.getfield 53, 3) := by decide +kernel
theorem dX0_callIn_13 : decode cX0_callIn 13 = .ok (.if_icmp .ge 53, 3) := by decide +kernel
theorem dX0_callIn_16 : decode cX0_callIn 16 = .ok (.aload_n 0, 1) := by decide +kernel
theorem dX0_callIn_17 : decode cX0_callIn 17 = .ok (.getfield 47, 3) := by decide +kernel
theorem dX0_callIn_20 : decode cX0_callIn 20 = .ok (.iload_n 2, 1) := by decide +kernel
theorem dX0_callIn_21 : decode cX0_callIn 21 = .ok (.baload, 1) := by decide +kernel
theorem dX0_callIn_22 : decode cX0_callIn 22 = .ok (.ifCond .eq 38, 3) := by decide +kernel
theorem dX0_callIn_25 : decode cX0_callIn 25 = .ok (.aload_n 0, 1) := by decide +kernel
theorem dX0_callIn_26 : decode cX0_callIn 26 = .ok (.getfield 41, 3) := by decide +kernel
theorem dX0_callIn_29 : decode cX0_callIn 29 = .ok (.iload_n 2, 1) := by decide +kernel
theorem dX0_callIn_30 : decode cX0_callIn 30 = .ok (.iaload, 1) := by decide +kernel
theorem dX0_callIn_31 : decode cX0_callIn 31 = .ok (.iload_n 1, 1) := by decide +kernel
theorem dX0_callIn_32 : decode cX0_callIn 32 = .ok (.if_icmp .ne 28, 3) := by decide +kernel
theorem dX0_callIn_35 : decode cX0_callIn 35 = .ok (.aload_n 0, 1) := by decide +kernel
theorem dX0_callIn_36 : decode cX0_callIn 36 = .ok (.aload_n 0, 1) := by decide +kernel
theorem dX0_callIn_37 : decode cX0_callIn 37 = .ok (.getfield 38, 3) := by decide +kernel
theorem dX0_callIn_40 : decode cX0_callIn 40 = .ok (.iload_n 2, 1) := by decide +kernel
theorem dX0_callIn_41 : decode cX0_callIn 41 = .ok (.iaload, 1) := by decide +kernel
theorem dX0_callIn_42 : decode cX0_callIn 42 = .ok (.invokevirtual 140, 3) := by decide +kernel
theorem dX0_callIn_45 : decode cX0_callIn 45 = .ok (.ifCond .ne 15, 3) := by decide +kernel
theorem dX0_callIn_48 : decode cX0_callIn 48 = .ok (.aload_n 0, 1) := by decide +kernel
theorem dX0_callIn_49 : decode cX0_callIn 49 = .ok (.iload_n 2, 1) := by decide +kernel
theorem dX0_callIn_50 : decode cX0_callIn 50 = .ok (.invokevirtual 145, 3) := by decide +kernel
theorem dX0_callIn_53 : decode cX0_callIn 53 = .ok (.aload_n 0, 1) := by decide +kernel
theorem dX0_callIn_54 : decode cX0_callIn 54 = .ok (.getfield 38, 3) := by decide +kernel
theorem dX0_callIn_57 : decode cX0_callIn 57 = .ok (.iload_n 2, 1) := by decide +kernel
theorem dX0_callIn_58 : decode cX0_callIn 58 = .ok (.iaload, 1) := by decide +kernel
theorem dX0_callIn_59 : decode cX0_callIn 59 = .ok (.ireturn, 1) := by decide +kernel
theorem dX0_callIn_60 : decode cX0_callIn 60 = .ok (.iinc 2 1, 3) := by decide +kernel
theorem dX0_callIn_63 : decode cX0_callIn 63 = .ok (.goto (-61), 3) := by decide +kernel
theorem dX0_callIn_66 : decode cX0_callIn 66 = .ok (.iconst (-1), 1) := by decide +kernel
theorem dX0_callIn_67 : decode cX0_callIn 67 = .ok (.ireturn, 1) := by decide +kernel
set_option maxRecDepth 20000 in
theorem ggX0_borrow_X0_countBorrowed : GoodIn wsX0_borrow wsX0_countBorrowed := goodIn_r _ [15, 6, 16, 39, 40, 41, 42, 43, 44, 45, 46, 47, 48, 49, 50, 51, 52, 53, 54, 55, 56, 57] (by decide +kernel) (by decide +kernel)
set_option maxRecDepth 20000 in
theorem gX0_borrow_X0_countBorrowed : GoodIn wsX0_borrow (wsV RX0 159 RX0 yX0_countBorrowed wsX0_countBorrowed) := goodIn_app (goodIn_of _ (by decide +kernel)) ggX0_borrow_X0_countBorrowed
set_option maxRecDepth 20000 in
theorem ggX0_borrow_X0_richestLender : GoodIn wsX0_borrow wsX0_richestLender := goodIn_r _ [20, 3, 21, 22, 23, 14, 24, 16, 6, 25, 26, 27, 28, 29, 30, 31, 32, 39, 40, 41, 42, 43, 44, 45, 46, 47, 48, 49, 50, 51, 52, 53, 54, 55, 56, 57] (by decide +kernel) (by decide +kernel)
set_option maxRecDepth 20000 in
theorem gX0_borrow_X0_richestLender : GoodIn wsX0_borrow (wsV RX0 176 RX0 yX0_richestLender wsX0_richestLender) := goodIn_app (goodIn_of _ (by decide +kernel)) ggX0_borrow_X0_richestLender
set_option maxRecDepth 20000 in
theorem ggX0_borrow_X0_isProcess : GoodIn wsX0_borrow wsX0_isProcess := goodIn_r _ [35] (by decide +kernel) (by decide +kernel)
set_option maxRecDepth 20000 in
theorem gX0_borrow_X0_isProcess : GoodIn wsX0_borrow (va_wsS RX0 75 yX0_isProcess wsX0_isProcess) := goodIn_app (goodIn_of _ (by decide +kernel)) ggX0_borrow_X0_isProcess
set_option maxRecDepth 20000 in
theorem ggX0_borrow_X0_frameToLend : GoodIn wsX0_borrow wsX0_frameToLend := goodIn_r _ [24, 16, 6, 25, 26, 27, 28, 14, 29, 30, 31, 32, 39, 40, 41, 42, 43, 44, 45, 46, 47, 48, 49, 50, 51, 52, 53, 54, 55, 56, 57] (by decide +kernel) (by decide +kernel)
set_option maxRecDepth 20000 in
theorem gX0_borrow_X0_frameToLend : GoodIn wsX0_borrow (wsV RX0 179 RX0 yX0_frameToLend wsX0_frameToLend) := goodIn_app (goodIn_of _ (by decide +kernel)) ggX0_borrow_X0_frameToLend
set_option maxRecDepth 20000 in
theorem ggX0_borrow_X0_isFrame : GoodIn wsX0_borrow wsX0_isFrame := goodIn_r _ [38] (by decide +kernel) (by decide +kernel)
set_option maxRecDepth 20000 in
theorem gX0_borrow_X0_isFrame : GoodIn wsX0_borrow (va_wsS RX0 102 yX0_isFrame wsX0_isFrame) := goodIn_app (goodIn_of _ (by decide +kernel)) ggX0_borrow_X0_isFrame
theorem dX0_borrow_0 : decode cX0_borrow 0 = .ok (.aload_n 0, 1) := by decide +kernel
theorem dX0_borrow_1 : decode cX0_borrow 1 = .ok (.getfield 13, 3) := by decide +kernel
theorem dX0_borrow_4 : decode cX0_borrow 4 = .ok (.iload_n 1, 1) := by decide +kernel
theorem dX0_borrow_5 : decode cX0_borrow 5 = .ok (.iaload, 1) := by decide +kernel
theorem dX0_borrow_6 : decode cX0_borrow 6 = .ok (.aload_n 0, 1) := by decide +kernel
theorem dX0_borrow_7 : decode cX0_borrow 7 = .ok (.getfield 57, 3) := by decide +kernel
theorem dX0_borrow_10 : decode cX0_borrow 10 = .ok (.if_icmp .lt 12, 3) := by decide +kernel
theorem dX0_borrow_13 : decode cX0_borrow 13 = .ok (.aload_n 0, 1) := by decide +kernel
theorem dX0_borrow_14 : decode cX0_borrow 14 = .ok (.iload_n 1, 1) := by decide +kernel
theorem dX0_borrow_15 : decode cX0_borrow 15 = .ok (.invokevirtual 159, 3) := by decide +kernel
theorem dX0_borrow_18 : decode cX0_borrow 18 = .ok (.iconst 3, 1) := by decide +kernel
theorem dX0_borrow_19 : decode cX0_borrow 19 = .ok (.if_icmp .lt 5, 3) := by decide +kernel
theorem dX0_borrow_22 : decode cX0_borrow 22 = .ok (.iconst (-1), 1) := by decide +kernel
theorem dX0_borrow_23 : decode cX0_borrow 23 = .ok (.ireturn, 1) := by decide +kernel
theorem dX0_borrow_24 : decode cX0_borrow 24 = .ok (.aload_n 0, 1) := by decide +kernel
theorem dX0_borrow_25 : decode cX0_borrow 25 = .ok (.iload_n 1, 1) := by decide +kernel
theorem dX0_borrow_26 : decode cX0_borrow 26 = .ok (.invokevirtual 176, 3) := by decide +kernel
theorem dX0_borrow_29 : decode cX0_borrow 29 = .ok (.istore_n 2, 1) := by decide +kernel
theorem dX0_borrow_30 : decode cX0_borrow 30 = .ok (.iload_n 2, 1) := by decide +kernel
theorem dX0_borrow_31 : decode cX0_borrow 31 = .ok (.invokestatic 75, 3) := by decide +kernel
theorem dX0_borrow_34 : decode cX0_borrow 34 = .ok (.ifCond .eq 11, 3) := by decide +kernel
theorem dX0_borrow_37 : decode cX0_borrow 37 = .ok (.aload_n 0, 1) := by decide +kernel
theorem dX0_borrow_38 : decode cX0_borrow 38 = .ok (.iload_n 2, 1) := by decide +kernel
theorem dX0_borrow_39 : decode cX0_borrow 39 = .ok (.invokevirtual 179, 3) := by decide +kernel
theorem dX0_borrow_42 : decode cX0_borrow 42 = .ok (.goto 4, 3) := by decide +kernel
theorem dX0_borrow_45 : decode cX0_borrow 45 = .ok (.iconst (-1), 1) := by decide +kernel
theorem dX0_borrow_46 : decode cX0_borrow 46 = .ok (.istore_n 3, 1) := by decide +kernel
theorem dX0_borrow_47 : decode cX0_borrow 47 = .ok (.iload_n 3, 1) := by decide +kernel
theorem dX0_borrow_48 : decode cX0_borrow 48 = .ok (.invokestatic 102, 3) := by decide +kernel
theorem dX0_borrow_51 : decode cX0_borrow 51 = .ok (.ifCond .ne 5, 3) := by decide +kernel
theorem dX0_borrow_54 : decode cX0_borrow 54 = .ok (.iconst (-1), 1) := by decide +kernel
theorem dX0_borrow_55 : decode cX0_borrow 55 = .ok (.ireturn, 1) := by decide +kernel
theorem dX0_borrow_56 : decode cX0_borrow 56 = .ok (.aload_n 0, 1) := by decide +kernel
theorem dX0_borrow_57 : decode cX0_borrow 57 = .ok (.getfield 53, 3) := by decide +kernel
theorem dX0_borrow_60 : decode cX0_borrow 60 = .ok (.bipush 60, 2) := by decide +kernel
theorem dX0_borrow_62 : decode cX0_borrow 62 = .ok (.if_icmp .lt 13, 3) := by decide +kernel
theorem dX0_borrow_65 : decode cX0_borrow 65 = .ok (.new 93, 3) := by decide +kernel
theorem dX0_borrow_68 : decode cX0_borrow 68 = .ok (.dup, 1) := by decide +kernel
theorem dX0_borrow_69 : decode cX0_borrow 69 = .ok (.ldc 182, 2) := by decide +kernel
theorem dX0_borrow_71 : decode cX0_borrow 71 = .ok (.invokespecial 97, 3) := by decide +kernel
theorem dX0_borrow_74 : decode cX0_borrow 74 = .ok (.athrow, 1) := by decide +kernel
theorem dX0_borrow_75 : decode cX0_borrow 75 = .ok (.aload_n 0, 1) := by decide +kernel
theorem dX0_borrow_76 : decode cX0_borrow 76 = .ok (.getfield 25, 3) := by decide +kernel
theorem dX0_borrow_79 : decode cX0_borrow 79 = .ok (.iload_n 3, 1) := by decide +kernel
theorem dX0_borrow_80 : decode cX0_borrow 80 = .ok (.iload_n 1, 1) := by decide +kernel
theorem dX0_borrow_81 : decode cX0_borrow 81 = .ok (.iastore, 1) := by decide +kernel
theorem dX0_borrow_82 : decode cX0_borrow 82 = .ok (.aload_n 0, 1) := by decide +kernel
theorem dX0_borrow_83 : decode cX0_borrow 83 = .ok (.getfield 38, 3) := by decide +kernel
theorem dX0_borrow_86 : decode cX0_borrow 86 = .ok (.aload_n 0, 1) := by decide +kernel
theorem dX0_borrow_87 : decode cX0_borrow 87 = .ok (.getfield 53, 3) := by decide +kernel
theorem dX0_borrow_90 : decode cX0_borrow 90 = .ok (.iload_n 3, 1) := by decide +kernel
theorem dX0_borrow_91 : decode cX0_borrow 91 = .ok (.iastore, 1) := by decide +kernel
theorem dX0_borrow_92 : decode cX0_borrow 92 = .ok (.aload_n 0, 1) := by decide +kernel
theorem dX0_borrow_93 : decode cX0_borrow 93 = .ok (.getfield 41, 3) := by decide +kernel
theorem dX0_borrow_96 : decode cX0_borrow 96 = .ok (.aload_n 0, 1) := by decide +kernel
theorem dX0_borrow_97 : decode cX0_borrow 97 = .ok (.getfield 53, 3) := by decide +kernel
theorem dX0_borrow_100 : decode cX0_borrow 100 = .ok (.iload_n 2, 1) := by decide +kernel
theorem dX0_borrow_101 : decode cX0_borrow 101 = .ok (.iastore, 1) := by decide +kernel
theorem dX0_borrow_102 : decode cX0_borrow 102 = .ok (.aload_n 0, 1) := by decide +kernel
theorem dX0_borrow_103 : decode cX0_borrow 103 = .ok (.getfield 44, 3) := by decide +kernel
theorem dX0_borrow_106 : decode cX0_borrow 106 = .ok (.aload_n 0, 1) := by decide +kernel
theorem dX0_borrow_107 : decode cX0_borrow 107 = .ok (.getfield 53, 3) := by decide +kernel
theorem dX0_borrow_110 : decode cX0_borrow 110 = .ok (.iload_n 1, 1) := by decide +kernel
theorem dX0_borrow_111 : decode cX0_borrow 111 = .ok (.iastore, 1) := by decide +kernel
theorem dX0_borrow_112 : decode cX0_borrow 112 = .ok (.aload_n 0, 1) := by decide +kernel
theorem dX0_borrow_113 : decode cX0_borrow 113 = .ok (.getfield 47, 3) := by decide +kernel
theorem dX0_borrow_116 : decode cX0_borrow 116 = .ok (.aload_n 0, 1) := by decide +kernel
theorem dX0_borrow_117 : decode cX0_borrow 117 = .ok (.getfield 53, 3) := by decide +kernel
theorem dX0_borrow_120 : decode cX0_borrow 120 = .ok (.iconst 1, 1) := by decide +kernel
theorem dX0_borrow_121 : decode cX0_borrow 121 = .ok (.bastore, 1) := by decide +kernel
theorem dX0_borrow_122 : decode cX0_borrow 122 = .ok (.aload_n 0, 1) := by decide +kernel
theorem dX0_borrow_123 : decode cX0_borrow 123 = .ok (.dup, 1) := by decide +kernel
theorem dX0_borrow_124 : decode cX0_borrow 124 = .ok (.getfield 53, 3) := by decide +kernel
theorem dX0_borrow_127 : decode cX0_borrow 127 = .ok (.iconst 1, 1) := by decide +kernel
theorem dX0_borrow_128 : decode cX0_borrow 128 = .ok (.iadd, 1) := by decide +kernel
theorem dX0_borrow_129 : decode cX0_borrow 129 = .ok (.putfield 53, 3) := by decide +kernel
theorem dX0_borrow_132 : decode cX0_borrow 132 = .ok (.iload_n 3, 1) := by decide +kernel
theorem dX0_borrow_133 : decode cX0_borrow 133 = .ok (.ireturn, 1) := by decide +kernel
set_option maxRecDepth 20000 in
theorem ggX0_richestLender_X0_frameToLend : GoodIn wsX0_richestLender wsX0_frameToLend := goodIn_r _ [6, 7, 8, 9, 10, 11, 12, 5, 13, 14, 15, 16, 17, 18, 19, 20, 21, 22, 23, 24, 25, 26, 27, 28, 29, 30, 31, 32, 33, 34, 35] (by decide +kernel) (by decide +kernel)
set_option maxRecDepth 20000 in
theorem gX0_richestLender_X0_frameToLend : GoodIn wsX0_richestLender (wsV RX0 179 RX0 yX0_frameToLend wsX0_frameToLend) := goodIn_app (goodIn_of _ (by decide +kernel)) ggX0_richestLender_X0_frameToLend
theorem dX0_richestLender_0 : decode cX0_richestLender 0 = .ok (.iconst (-1), 1) := by decide +kernel
theorem dX0_richestLender_1 : decode cX0_richestLender 1 = .ok (.istore_n 2, 1) := by decide +kernel
theorem dX0_richestLender_2 : decode cX0_richestLender 2 = .ok (.iconst (-1), 1) := by decide +kernel
theorem dX0_richestLender_3 : decode cX0_richestLender 3 = .ok (.istore_n 3, 1) := by decide +kernel
theorem dX0_richestLender_4 : decode cX0_richestLender 4 = .ok (.iconst 0, 1) := by decide +kernel
theorem dX0_richestLender_5 : decode cX0_richestLender 5 = .ok (.istore 4, 2) := by decide +kernel
theorem dX0_richestLender_7 : decode cX0_richestLender 7 = .ok (.iload 4, 2) := by decide +kernel
theorem dX0_richestLender_9 : decode cX0_richestLender 9 = .ok (.iconst 5, 1) := by decide +kernel
theorem dX0_richestLender_10 : decode cX0_richestLender 10 = .ok (.if_icmp .ge 47, 3) := by decide +kernel
theorem dX0_richestLender_13 : decode cX0_richestLender 13 = .ok (.iload 4, 2) := by decide +kernel
theorem dX0_richestLender_15 : decode cX0_richestLender 15 = .ok (.iload_n 1, 1) := by decide +kernel
theorem dX0_richestLender_16 : decode cX0_richestLender 16 = .ok (.if_icmp .eq 35, 3) := by decide +kernel
theorem dX0_richestLender_19 : decode cX0_richestLender 19 = .ok (.aload_n 0, 1) := by decide +kernel
theorem dX0_richestLender_20 : decode cX0_richestLender 20 = .ok (.getfield 13, 3) := by decide +kernel
theorem dX0_richestLender_23 : decode cX0_richestLender 23 = .ok (.iload 4, 2) := by decide +kernel
theorem dX0_richestLender_25 : decode cX0_richestLender 25 = .ok (.iaload, 1) := by decide +kernel
theorem dX0_richestLender_26 : decode cX0_richestLender 26 = .ok (.iload_n 3, 1) := by decide +kernel
theorem dX0_richestLender_27 : decode cX0_richestLender 27 = .ok (.if_icmp .le 24, 3) := by decide +kernel
theorem dX0_richestLender_30 : decode cX0_richestLender 30 = .ok (.aload_n 0, 1) := by decide +kernel
theorem dX0_richestLender_31 : decode cX0_richestLender 31 = .ok (.iload 4, 2) := by decide +kernel
theorem dX0_richestLender_33 : decode cX0_richestLender 33 = .ok (.invokevirtual 179, 3) := by decide +kernel
theorem dX0_richestLender_36 : decode cX0_richestLender 36 = .ok (.iconst (-1), 1) := by decide +kernel
theorem dX0_richestLender_37 : decode cX0_richestLender 37 = .ok (.if_icmp .eq 14, 3) := by decide +kernel
theorem dX0_richestLender_40 : decode cX0_richestLender 40 = .ok (.iload 4, 2) := by decide +kernel
theorem dX0_richestLender_42 : decode cX0_richestLender 42 = .ok (.istore_n 2, 1) := by decide +kernel
theorem dX0_richestLender_43 : decode cX0_richestLender 43 = .ok (.aload_n 0, 1) := by decide +kernel
theorem dX0_richestLender_44 : decode cX0_richestLender 44 = .ok (.getfield 13, 3) := by decide +kernel
theorem dX0_richestLender_47 : decode cX0_richestLender 47 = .ok (.iload 4, 2) := by decide +kernel
theorem dX0_richestLender_49 : decode cX0_richestLender 49 = .ok (.iaload, 1) := by decide +kernel
theorem dX0_richestLender_50 : decode cX0_richestLender 50 = .ok (.istore_n 3, 1) := by decide +kernel
theorem dX0_richestLender_51 : decode cX0_richestLender 51 = .ok (.iinc 4 1, 3) := by decide +kernel
theorem dX0_richestLender_54 : decode cX0_richestLender 54 = .ok (.goto (-47), 3) := by decide +kernel
theorem dX0_richestLender_57 : decode cX0_richestLender 57 = .ok (.iload_n 2, 1) := by decide +kernel
theorem dX0_richestLender_58 : decode cX0_richestLender 58 = .ok (.ireturn, 1) := by decide +kernel
set_option maxRecDepth 20000 in
theorem ggX0_frameToLend_X0_ageOf : GoodIn wsX0_frameToLend wsX0_ageOf := goodIn_r _ [8, 9, 10, 11, 12, 13, 14, 15, 16, 17, 18, 19, 20, 21, 22, 23, 24, 25, 26, 27, 28, 29, 30] (by decide +kernel) (by decide +kernel)
set_option maxRecDepth 20000 in
theorem gX0_frameToLend_X0_ageOf : GoodIn wsX0_frameToLend (wsV RX0 156 RX0 yX0_ageOf wsX0_ageOf) := goodIn_app (goodIn_of _ (by decide +kernel)) ggX0_frameToLend_X0_ageOf
theorem dX0_frameToLend_0 : decode cX0_frameToLend 0 = .ok (.iconst (-1), 1) := by decide +kernel
theorem dX0_frameToLend_1 : decode cX0_frameToLend 1 = .ok (.istore_n 2, 1) := by decide +kernel
theorem dX0_frameToLend_2 : decode cX0_frameToLend 2 = .ok (.iconst 4, 1) := by decide +kernel
theorem dX0_frameToLend_3 : decode cX0_frameToLend 3 = .ok (.istore_n 3, 1) := by decide +kernel
theorem dX0_frameToLend_4 : decode cX0_frameToLend 4 = .ok (.iconst 0, 1) := by decide +kernel
theorem dX0_frameToLend_5 : decode cX0_frameToLend 5 = .ok (.istore 4, 2) := by decide +kernel
theorem dX0_frameToLend_7 : decode cX0_frameToLend 7 = .ok (.iload 4, 2) := by decide +kernel
theorem dX0_frameToLend_9 : decode cX0_frameToLend 9 = .ok (.bipush 12, 2) := by decide +kernel
theorem dX0_frameToLend_11 : decode cX0_frameToLend 11 = .ok (.if_icmp .ge 65, 3) := by decide +kernel
theorem dX0_frameToLend_14 : decode cX0_frameToLend 14 = .ok (.aload_n 0, 1) := by decide +kernel
theorem dX0_frameToLend_15 : decode cX0_frameToLend 15 = .ok (.getfield 22, 3) := by decide +kernel
theorem dX0_frameToLend_18 : decode cX0_frameToLend 18 = .ok (.iload 4, 2) := by decide +kernel
theorem dX0_frameToLend_20 : decode cX0_frameToLend 20 = .ok (.iaload, 1) := by decide +kernel
theorem dX0_frameToLend_21 : decode cX0_frameToLend 21 = .ok (.iload_n 1, 1) := by decide +kernel
theorem dX0_frameToLend_22 : decode cX0_frameToLend 22 = .ok (.if_icmp .ne 48, 3) := by decide +kernel
theorem dX0_frameToLend_25 : decode cX0_frameToLend 25 = .ok (.aload_n 0, 1) := by decide +kernel
theorem dX0_frameToLend_26 : decode cX0_frameToLend 26 = .ok (.getfield 25, 3) := by decide +kernel
theorem dX0_frameToLend_29 : decode cX0_frameToLend 29 = .ok (.iload 4, 2) := by decide +kernel
theorem dX0_frameToLend_31 : decode cX0_frameToLend 31 = .ok (.iaload, 1) := by decide +kernel
theorem dX0_frameToLend_32 : decode cX0_frameToLend 32 = .ok (.iload_n 1, 1) := by decide +kernel
theorem dX0_frameToLend_33 : decode cX0_frameToLend 33 = .ok (.if_icmp .ne 37, 3) := by decide +kernel
theorem dX0_frameToLend_36 : decode cX0_frameToLend 36 = .ok (.aload_n 0, 1) := by decide +kernel
theorem dX0_frameToLend_37 : decode cX0_frameToLend 37 = .ok (.getfield 28, 3) := by decide +kernel
theorem dX0_frameToLend_40 : decode cX0_frameToLend 40 = .ok (.iload 4, 2) := by decide +kernel
theorem dX0_frameToLend_42 : decode cX0_frameToLend 42 = .ok (.iaload, 1) := by decide +kernel
theorem dX0_frameToLend_43 : decode cX0_frameToLend 43 = .ok (.iconst (-1), 1) := by decide +kernel
theorem dX0_frameToLend_44 : decode cX0_frameToLend 44 = .ok (.if_icmp .ne 6, 3) := by decide +kernel
theorem dX0_frameToLend_47 : decode cX0_frameToLend 47 = .ok (.iload 4, 2) := by decide +kernel
theorem dX0_frameToLend_49 : decode cX0_frameToLend 49 = .ok (.ireturn, 1) := by decide +kernel
theorem dX0_frameToLend_50 : decode cX0_frameToLend 50 = .ok (.aload_n 0, 1) := by decide +kernel
theorem dX0_frameToLend_51 : decode cX0_frameToLend 51 = .ok (.iload 4, 2) := by decide +kernel
theorem dX0_frameToLend_53 : decode cX0_frameToLend 53 = .ok (.invokevirtual 156, 3) := by decide +kernel
theorem dX0_frameToLend_56 : decode cX0_frameToLend 56 = .ok (.iload_n 3, 1) := by decide +kernel
theorem dX0_frameToLend_57 : decode cX0_frameToLend 57 = .ok (.if_icmp .le 13, 3) := by decide +kernel
theorem dX0_frameToLend_60 : decode cX0_frameToLend 60 = .ok (.iload 4, 2) := by decide +kernel
theorem dX0_frameToLend_62 : decode cX0_frameToLend 62 = .ok (.istore_n 2, 1) := by decide +kernel
theorem dX0_frameToLend_63 : decode cX0_frameToLend 63 = .ok (.aload_n 0, 1) := by decide +kernel
theorem dX0_frameToLend_64 : decode cX0_frameToLend 64 = .ok (.iload 4, 2) := by decide +kernel
theorem dX0_frameToLend_66 : decode cX0_frameToLend 66 = .ok (.invokevirtual 156, 3) := by decide +kernel
theorem dX0_frameToLend_69 : decode cX0_frameToLend 69 = .ok (.istore_n 3, 1) := by decide +kernel
theorem dX0_frameToLend_70 : decode cX0_frameToLend 70 = .ok (.iinc 4 1, 3) := by decide +kernel
theorem dX0_frameToLend_73 : decode cX0_frameToLend 73 = .ok (.goto (-66), 3) := by decide +kernel
theorem dX0_frameToLend_76 : decode cX0_frameToLend 76 = .ok (.iload_n 2, 1) := by decide +kernel
theorem dX0_frameToLend_77 : decode cX0_frameToLend 77 = .ok (.ireturn, 1) := by decide +kernel
theorem dX0_countBorrowed_0 : decode cX0_countBorrowed 0 = .ok (.iconst 0, 1) := by decide +kernel
theorem dX0_countBorrowed_1 : decode cX0_countBorrowed 1 = .ok (.istore_n 2, 1) := by decide +kernel
theorem dX0_countBorrowed_2 : decode cX0_countBorrowed 2 = .ok (.iconst 0, 1) := by decide +kernel
theorem dX0_countBorrowed_3 : decode cX0_countBorrowed 3 = .ok (.istore_n 3, 1) := by decide +kernel
theorem dX0_countBorrowed_4 : decode cX0_countBorrowed 4 = .ok (.iload_n 3, 1) := by decide +kernel
theorem dX0_countBorrowed_5 : decode cX0_countBorrowed 5 = .ok (.bipush 12, 2) := by decide +kernel
theorem dX0_countBorrowed_7 : decode cX0_countBorrowed 7 = .ok (.if_icmp .ge 32, 3) := by decide +kernel
theorem dX0_countBorrowed_10 : decode cX0_countBorrowed 10 = .ok (.aload_n 0, 1) := by decide +kernel
theorem dX0_countBorrowed_11 : decode cX0_countBorrowed 11 = .ok (.getfield 25, 3) := by decide +kernel
theorem dX0_countBorrowed_14 : decode cX0_countBorrowed 14 = .ok (.iload_n 3, 1) := by decide +kernel
theorem dX0_countBorrowed_15 : decode cX0_countBorrowed 15 = .ok (.iaload, 1) := by decide +kernel
theorem dX0_countBorrowed_16 : decode cX0_countBorrowed 16 = .ok (.iload_n 1, 1) := by decide +kernel
theorem dX0_countBorrowed_17 : decode cX0_countBorrowed 17 = .ok (.if_icmp .ne 16, 3) := by decide +kernel
theorem dX0_countBorrowed_20 : decode cX0_countBorrowed 20 = .ok (.aload_n 0, 1) := by decide +kernel
theorem dX0_countBorrowed_21 : decode cX0_countBorrowed 21 = .ok (.getfield 22, 3) := by decide +kernel
theorem dX0_countBorrowed_24 : decode cX0_countBorrowed 24 = .ok (.iload_n 3, 1) := by decide +kernel
theorem dX0_countBorrowed_25 : decode cX0_countBorrowed 25 = .ok (.iaload, 1) := by decide +kernel
theorem dX0_countBorrowed_26 : decode cX0_countBorrowed 26 = .ok (.iload_n 1, 1) := by decide +kernel
theorem dX0_countBorrowed_27 : decode cX0_countBorrowed 27 = .ok (.if_icmp .eq 6, 3) := by decide +kernel
theorem dX0_countBorrowed_30 : decode cX0_countBorrowed 30 = .ok (.iinc 2 1, 3) := by decide +kernel
theorem dX0_countBorrowed_33 : decode cX0_countBorrowed 33 = .ok (.iinc 3 1, 3) := by decide +kernel
theorem dX0_countBorrowed_36 : decode cX0_countBorrowed 36 = .ok (.goto (-32), 3) := by decide +kernel
theorem dX0_countBorrowed_39 : decode cX0_countBorrowed 39 = .ok (.iload_n 2, 1) := by decide +kernel
theorem dX0_countBorrowed_40 : decode cX0_countBorrowed 40 = .ok (.ireturn, 1) := by decide +kernel
set_option maxRecDepth 20000 in
theorem ggX0_endLoan_X0_isFrame : GoodIn wsX0_endLoan wsX0_isFrame := goodIn_r _ [8] (by decide +kernel) (by decide +kernel)
set_option maxRecDepth 20000 in
theorem gX0_endLoan_X0_isFrame : GoodIn wsX0_endLoan (va_wsS RX0 102 yX0_isFrame wsX0_isFrame) := goodIn_app (goodIn_of _ (by decide +kernel)) ggX0_endLoan_X0_isFrame
set_option maxRecDepth 20000 in
theorem ggX0_endLoan_X0_dropPage : GoodIn wsX0_endLoan wsX0_dropPage := goodIn_r _ [12, 13, 14, 15, 16, 17, 18, 19, 20, 21, 22, 23, 24, 25, 26, 27, 28, 29, 30, 31, 32, 33, 34] (by decide +kernel) (by decide +kernel)
set_option maxRecDepth 20000 in
theorem gX0_endLoan_X0_dropPage : GoodIn wsX0_endLoan (wsV RX0 115 RX0 yX0_dropPage wsX0_dropPage) := goodIn_app (goodIn_of _ (by decide +kernel)) ggX0_endLoan_X0_dropPage
theorem dX0_endLoan_0 : decode cX0_endLoan 0 = .ok (.aload_n 0, 1) := by decide +kernel
theorem dX0_endLoan_1 : decode cX0_endLoan 1 = .ok (.getfield 47, 3) := by decide +kernel
theorem dX0_endLoan_4 : decode cX0_endLoan 4 = .ok (.iload_n 1, 1) := by decide +kernel
theorem dX0_endLoan_5 : decode cX0_endLoan 5 = .ok (.iconst 0, 1) := by decide +kernel
theorem dX0_endLoan_6 : decode cX0_endLoan 6 = .ok (.bastore, 1) := by decide +kernel
theorem dX0_endLoan_7 : decode cX0_endLoan 7 = .ok (.aload_n 0, 1) := by decide +kernel
theorem dX0_endLoan_8 : decode cX0_endLoan 8 = .ok (.getfield 38, 3) := by decide +kernel
theorem dX0_endLoan_11 : decode cX0_endLoan 11 = .ok (.iload_n 1, 1) := by decide +kernel
theorem dX0_endLoan_12 : decode cX0_endLoan 12 = .ok (.iaload, 1) := by decide +kernel
theorem dX0_endLoan_13 : decode cX0_endLoan 13 = .ok (.istore_n 2, 1) := by decide +kernel
theorem dX0_endLoan_14 : decode cX0_endLoan 14 = .ok (.iload_n 2, 1) := by decide +kernel
theorem dX0_endLoan_15 : decode cX0_endLoan 15 = .ok (.invokestatic 102, 3) := by decide +kernel
theorem dX0_endLoan_18 : decode cX0_endLoan 18 = .ok (.ifCond .eq 20, 3) := by decide +kernel
theorem dX0_endLoan_21 : decode cX0_endLoan 21 = .ok (.aload_n 0, 1) := by decide +kernel
theorem dX0_endLoan_22 : decode cX0_endLoan 22 = .ok (.iload_n 2, 1) := by decide +kernel
theorem dX0_endLoan_23 : decode cX0_endLoan 23 = .ok (.invokevirtual 115, 3) := by decide +kernel
theorem dX0_endLoan_26 : decode cX0_endLoan 26 = .ok (.aload_n 0, 1) := by decide +kernel
theorem dX0_endLoan_27 : decode cX0_endLoan 27 = .ok (.getfield 25, 3) := by decide +kernel
theorem dX0_endLoan_30 : decode cX0_endLoan 30 = .ok (.iload_n 2, 1) := by decide +kernel
theorem dX0_endLoan_31 : decode cX0_endLoan 31 = .ok (.aload_n 0, 1) := by decide +kernel
theorem dX0_endLoan_32 : decode cX0_endLoan 32 = .ok (.getfield 22, 3) := by decide +kernel
theorem dX0_endLoan_35 : decode cX0_endLoan 35 = .ok (.iload_n 2, 1) := by decide +kernel
theorem dX0_endLoan_36 : decode cX0_endLoan 36 = .ok (.iaload, 1) := by decide +kernel
theorem dX0_endLoan_37 : decode cX0_endLoan 37 = .ok (.iastore, 1) := by decide +kernel
theorem dX0_endLoan_38 : decode cX0_endLoan 38 = .ok (.return_, 1) := by decide +kernel
set_option maxRecDepth 20000 in
theorem ggX0_passTick_X0_payWages : GoodIn wsX0_passTick wsX0_payWages := goodIn_r _ [6, 7, 8, 9, 82, 83, 84, 85, 86, 87, 88, 89, 90, 91, 92, 93, 94, 95, 96, 97, 98, 99, 100] (by decide +kernel) (by decide +kernel)
set_option maxRecDepth 20000 in
theorem gX0_passTick_X0_payWages : GoodIn wsX0_passTick (wsV RX0 184 RX0 yX0_payWages wsX0_payWages) := goodIn_app (goodIn_of _ (by decide +kernel)) ggX0_passTick_X0_payWages
set_option maxRecDepth 20000 in
theorem ggX0_passTick_X0_chargeLoans : GoodIn wsX0_passTick wsX0_chargeLoans := goodIn_r _ [13, 14, 15, 16, 17, 18, 5, 19, 20, 21, 8, 22, 23, 24, 25, 26, 27, 28, 29, 30, 31, 7, 32, 33, 34, 35, 36, 37, 38, 39, 40, 41, 42, 43, 44, 45, 46, 47, 48, 49, 50, 51, 82, 83, 84, 85, 86, 87, 88, 89, 90, 91, 92, 93, 94, 95, 96, 97, 98, 99, 100] (by decide +kernel) (by decide +kernel)
set_option maxRecDepth 20000 in
theorem gX0_passTick_X0_chargeLoans : GoodIn wsX0_passTick (wsV RX0 187 RX0 yX0_chargeLoans wsX0_chargeLoans) := goodIn_app (goodIn_of _ (by decide +kernel)) ggX0_passTick_X0_chargeLoans
set_option maxRecDepth 20000 in
theorem ggX0_passTick_X0_giveAlms : GoodIn wsX0_passTick wsX0_giveAlms := goodIn_r _ [55, 7, 8, 56, 57, 58, 5, 59, 24, 25, 26, 82, 83, 84, 85, 86, 87, 88, 89, 90, 91, 92, 93, 94, 95, 96, 97, 98, 99, 100] (by decide +kernel) (by decide +kernel)
set_option maxRecDepth 20000 in
theorem gX0_passTick_X0_giveAlms : GoodIn wsX0_passTick (wsV RX0 190 RX0 yX0_giveAlms wsX0_giveAlms) := goodIn_app (goodIn_of _ (by decide +kernel)) ggX0_passTick_X0_giveAlms
set_option maxRecDepth 20000 in
theorem ggX0_passTick_X0_moveDisk : GoodIn wsX0_passTick wsX0_moveDisk := goodIn_r _ [63, 45, 64, 65, 66, 67, 5, 68, 69, 70, 71, 72, 32, 33, 34, 35, 36, 37, 38, 39, 40, 73, 74, 75, 76, 31, 77, 78, 79, 80, 81, 1, 7, 24, 25, 26, 82, 83, 84, 85, 86, 87, 88, 89, 90, 91, 92, 93, 94, 95, 96, 97, 98, 99, 100] (by decide +kernel) (by decide +kernel)
set_option maxRecDepth 20000 in
theorem gX0_passTick_X0_moveDisk : GoodIn wsX0_passTick (wsV RX0 193 RX0 yX0_moveDisk wsX0_moveDisk) := goodIn_app (goodIn_of _ (by decide +kernel)) ggX0_passTick_X0_moveDisk
theorem dX0_passTick_0 : decode cX0_passTick 0 = .ok (.aload_n 0, 1) := by decide +kernel
theorem dX0_passTick_1 : decode cX0_passTick 1 = .ok (.invokevirtual 184, 3) := by decide +kernel
theorem dX0_passTick_4 : decode cX0_passTick 4 = .ok (.aload_n 0, 1) := by decide +kernel
theorem dX0_passTick_5 : decode cX0_passTick 5 = .ok (.invokevirtual 187, 3) := by decide +kernel
theorem dX0_passTick_8 : decode cX0_passTick 8 = .ok (.aload_n 0, 1) := by decide +kernel
theorem dX0_passTick_9 : decode cX0_passTick 9 = .ok (.invokevirtual 190, 3) := by decide +kernel
theorem dX0_passTick_12 : decode cX0_passTick 12 = .ok (.aload_n 0, 1) := by decide +kernel
theorem dX0_passTick_13 : decode cX0_passTick 13 = .ok (.invokevirtual 193, 3) := by decide +kernel
theorem dX0_passTick_16 : decode cX0_passTick 16 = .ok (.aload_n 0, 1) := by decide +kernel
theorem dX0_passTick_17 : decode cX0_passTick 17 = .ok (.dup, 1) := by decide +kernel
theorem dX0_passTick_18 : decode cX0_passTick 18 = .ok (.getfield 60, 3) := by decide +kernel
theorem dX0_passTick_21 : decode cX0_passTick 21 = .ok (.iconst 1, 1) := by decide +kernel
theorem dX0_passTick_22 : decode cX0_passTick 22 = .ok (.iadd, 1) := by decide +kernel
theorem dX0_passTick_23 : decode cX0_passTick 23 = .ok (.putfield 60, 3) := by decide +kernel
theorem dX0_passTick_26 : decode cX0_passTick 26 = .ok (.return_, 1) := by decide +kernel
theorem dX0_payWages_0 : decode cX0_payWages 0 = .ok (.iconst 0, 1) := by decide +kernel
theorem dX0_payWages_1 : decode cX0_payWages 1 = .ok (.istore_n 1, 1) := by decide +kernel
theorem dX0_payWages_2 : decode cX0_payWages 2 = .ok (.iload_n 1, 1) := by decide +kernel
theorem dX0_payWages_3 : decode cX0_payWages 3 = .ok (.iconst 5, 1) := by decide +kernel
theorem dX0_payWages_4 : decode cX0_payWages 4 = .ok (.if_icmp .ge 34, 3) := by decide +kernel
theorem dX0_payWages_7 : decode cX0_payWages 7 = .ok (.aload_n 0, 1) := by decide +kernel
theorem dX0_payWages_8 : decode cX0_payWages 8 = .ok (.getfield 16, 3) := by decide +kernel
theorem dX0_payWages_11 : decode cX0_payWages 11 = .ok (.iload_n 1, 1) := by decide +kernel
theorem dX0_payWages_12 : decode cX0_payWages 12 = .ok (.iaload, 1) := by decide +kernel
theorem dX0_payWages_13 : decode cX0_payWages 13 = .ok (.iconst 2, 1) := by decide +kernel
theorem dX0_payWages_14 : decode cX0_payWages 14 = .ok (.if_icmp .eq 18, 3) := by decide +kernel
theorem dX0_payWages_17 : decode cX0_payWages 17 = .ok (.aload_n 0, 1) := by decide +kernel
theorem dX0_payWages_18 : decode cX0_payWages 18 = .ok (.getfield 13, 3) := by decide +kernel
theorem dX0_payWages_21 : decode cX0_payWages 21 = .ok (.iload_n 1, 1) := by decide +kernel
theorem dX0_payWages_22 : decode cX0_payWages 22 = .ok (.dup2, 1) := by decide +kernel
theorem dX0_payWages_23 : decode cX0_payWages 23 = .ok (.iaload, 1) := by decide +kernel
theorem dX0_payWages_24 : decode cX0_payWages 24 = .ok (.aload_n 0, 1) := by decide +kernel
theorem dX0_payWages_25 : decode cX0_payWages 25 = .ok (.getfield 9, 3) := by decide +kernel
theorem dX0_payWages_28 : decode cX0_payWages 28 = .ok (.iload_n 1, 1) := by decide +kernel
theorem dX0_payWages_29 : decode cX0_payWages 29 = .ok (.iaload, 1) := by decide +kernel
theorem dX0_payWages_30 : decode cX0_payWages 30 = .ok (.iadd, 1) := by decide +kernel
theorem dX0_payWages_31 : decode cX0_payWages 31 = .ok (.iastore, 1) := by decide +kernel
theorem dX0_payWages_32 : decode cX0_payWages 32 = .ok (.iinc 1 1, 3) := by decide +kernel
theorem dX0_payWages_35 : decode cX0_payWages 35 = .ok (.goto (-33), 3) := by decide +kernel
theorem dX0_payWages_38 : decode cX0_payWages 38 = .ok (.return_, 1) := by decide +kernel
set_option maxRecDepth 20000 in
theorem ggX0_chargeLoans_X0_charge : GoodIn wsX0_chargeLoans wsX0_charge := goodIn_r _ [7, 8, 9, 10, 11, 12, 13, 14, 6, 15, 16, 17, 18, 19, 20, 1, 2, 21, 22, 23, 24, 25, 26, 27, 28, 29, 30, 31, 32, 33, 34, 35, 36, 37, 38, 39, 40, 41, 42, 43, 44, 45, 46, 47, 48, 49, 50, 51, 52, 53, 54, 55, 56, 57, 58, 59, 60] (by decide +kernel) (by decide +kernel)
set_option maxRecDepth 20000 in
theorem gX0_chargeLoans_X0_charge : GoodIn wsX0_chargeLoans (wsV RX0 196 RX0 yX0_charge wsX0_charge) := goodIn_app (goodIn_of _ (by decide +kernel)) ggX0_chargeLoans_X0_charge
theorem dX0_chargeLoans_0 : decode cX0_chargeLoans 0 = .ok (.iconst 0, 1) := by decide +kernel
theorem dX0_chargeLoans_1 : decode cX0_chargeLoans 1 = .ok (.istore_n 1, 1) := by decide +kernel
theorem dX0_chargeLoans_2 : decode cX0_chargeLoans 2 = .ok (.iload_n 1, 1) := by decide +kernel
theorem dX0_chargeLoans_3 : decode cX0_chargeLoans 3 = .ok (.bipush 60, 2) := by decide +kernel
theorem dX0_chargeLoans_5 : decode cX0_chargeLoans 5 = .ok (.if_icmp .ge 31, 3) := by decide +kernel
theorem dX0_chargeLoans_8 : decode cX0_chargeLoans 8 = .ok (.iload_n 1, 1) := by decide +kernel
theorem dX0_chargeLoans_9 : decode cX0_chargeLoans 9 = .ok (.aload_n 0, 1) := by decide +kernel
theorem dX0_chargeLoans_10 : decode cX0_chargeLoans 10 = .ok (.getfield 53, 3) := by decide +kernel
theorem dX0_chargeLoans_13 : decode cX0_chargeLoans 13 = .ok (.if_icmp .ge 23, 3) := by decide +kernel
theorem dX0_chargeLoans_16 : decode cX0_chargeLoans 16 = .ok (.aload_n 0, 1) := by decide +kernel
theorem dX0_chargeLoans_17 : decode cX0_chargeLoans 17 = .ok (.getfield 47, 3) := by decide +kernel
theorem dX0_chargeLoans_20 : decode cX0_chargeLoans 20 = .ok (.iload_n 1, 1) := by decide +kernel
theorem dX0_chargeLoans_21 : decode cX0_chargeLoans 21 = .ok (.baload, 1) := by decide +kernel
theorem dX0_chargeLoans_22 : decode cX0_chargeLoans 22 = .ok (.ifCond .eq 8, 3) := by decide +kernel
theorem dX0_chargeLoans_25 : decode cX0_chargeLoans 25 = .ok (.aload_n 0, 1) := by decide +kernel
theorem dX0_chargeLoans_26 : decode cX0_chargeLoans 26 = .ok (.iload_n 1, 1) := by decide +kernel
theorem dX0_chargeLoans_27 : decode cX0_chargeLoans 27 = .ok (.invokevirtual 196, 3) := by decide +kernel
theorem dX0_chargeLoans_30 : decode cX0_chargeLoans 30 = .ok (.iinc 1 1, 3) := by decide +kernel
theorem dX0_chargeLoans_33 : decode cX0_chargeLoans 33 = .ok (.goto (-31), 3) := by decide +kernel
theorem dX0_chargeLoans_36 : decode cX0_chargeLoans 36 = .ok (.return_, 1) := by decide +kernel
set_option maxRecDepth 20000 in
theorem ggX0_charge_X0_isProcess : GoodIn wsX0_charge wsX0_isProcess := goodIn_r _ [9] (by decide +kernel) (by decide +kernel)
set_option maxRecDepth 20000 in
theorem gX0_charge_X0_isProcess : GoodIn wsX0_charge (va_wsS RX0 75 yX0_isProcess wsX0_isProcess) := goodIn_app (goodIn_of _ (by decide +kernel)) ggX0_charge_X0_isProcess
set_option maxRecDepth 20000 in
theorem ggX0_charge_X0_putToSleep : GoodIn wsX0_charge wsX0_putToSleep := goodIn_r _ [13, 14, 15, 16, 1, 17, 18, 19, 20, 8, 21, 22, 23, 24, 25, 26, 27, 28, 29, 30, 31, 32, 33, 34, 35, 36, 37, 38, 39, 40, 41, 42, 43, 44, 45, 46, 47, 48, 49, 50, 51, 52, 53, 54, 55, 56] (by decide +kernel) (by decide +kernel)
set_option maxRecDepth 20000 in
theorem gX0_charge_X0_putToSleep : GoodIn wsX0_charge (wsV RX0 199 RX0 yX0_putToSleep wsX0_putToSleep) := goodIn_app (goodIn_of _ (by decide +kernel)) ggX0_charge_X0_putToSleep
theorem dX0_charge_0 : decode cX0_charge 0 = .ok (.aload_n 0, 1) := by decide +kernel
theorem dX0_charge_1 : decode cX0_charge 1 = .ok (.getfield 44, 3) := by decide +kernel
theorem dX0_charge_4 : decode cX0_charge 4 = .ok (.iload_n 1, 1) := by decide +kernel
theorem dX0_charge_5 : decode cX0_charge 5 = .ok (.iaload, 1) := by decide +kernel
theorem dX0_charge_6 : decode cX0_charge 6 = .ok (.istore_n 2, 1) := by decide +kernel
theorem dX0_charge_7 : decode cX0_charge 7 = .ok (.aload_n 0, 1) := by decide +kernel
theorem dX0_charge_8 : decode cX0_charge 8 = .ok (.getfield 41, 3) := by decide +kernel
theorem dX0_charge_11 : decode cX0_charge 11 = .ok (.iload_n 1, 1) := by decide +kernel
theorem dX0_charge_12 : decode cX0_charge 12 = .ok (.iaload, 1) := by decide +kernel
theorem dX0_charge_13 : decode cX0_charge 13 = .ok (.istore_n 3, 1) := by decide +kernel
theorem dX0_charge_14 : decode cX0_charge 14 = .ok (.iload_n 2, 1) := by decide +kernel
theorem dX0_charge_15 : decode cX0_charge 15 = .ok (.invokestatic 75, 3) := by decide +kernel
theorem dX0_charge_18 : decode cX0_charge 18 = .ok (.ifCond .eq 10, 3) := by decide +kernel
theorem dX0_charge_21 : decode cX0_charge 21 = .ok (.iload_n 3, 1) := by decide +kernel
theorem dX0_charge_22 : decode cX0_charge 22 = .ok (.invokestatic 75, 3) := by decide +kernel
theorem dX0_charge_25 : decode cX0_charge 25 = .ok (.ifCond .ne 4, 3) := by decide +kernel
theorem dX0_charge_28 : decode cX0_charge 28 = .ok (.return_, 1) := by decide +kernel
theorem dX0_charge_29 : decode cX0_charge 29 = .ok (.aload_n 0, 1) := by decide +kernel
theorem dX0_charge_30 : decode cX0_charge 30 = .ok (.getfield 13, 3) := by decide +kernel
theorem dX0_charge_33 : decode cX0_charge 33 = .ok (.iload_n 2, 1) := by decide +kernel
theorem dX0_charge_34 : decode cX0_charge 34 = .ok (.iaload, 1) := by decide +kernel
theorem dX0_charge_35 : decode cX0_charge 35 = .ok (.aload_n 0, 1) := by decide +kernel
theorem dX0_charge_36 : decode cX0_charge 36 = .ok (.getfield 57, 3) := by decide +kernel
theorem dX0_charge_39 : decode cX0_charge 39 = .ok (.if_icmp .ge 9, 3) := by decide +kernel
theorem dX0_charge_42 : decode cX0_charge 42 = .ok (.aload_n 0, 1) := by decide +kernel
theorem dX0_charge_43 : decode cX0_charge 43 = .ok (.iload_n 2, 1) := by decide +kernel
theorem dX0_charge_44 : decode cX0_charge 44 = .ok (.invokevirtual 199, 3) := by decide +kernel
theorem dX0_charge_47 : decode cX0_charge 47 = .ok (.return_, 1) := by decide +kernel
theorem dX0_charge_48 : decode cX0_charge 48 = .ok (.aload_n 0, 1) := by decide +kernel
theorem dX0_charge_49 : decode cX0_charge 49 = .ok (.getfield 13, 3) := by decide +kernel
theorem dX0_charge_52 : decode cX0_charge 52 = .ok (.iload_n 2, 1) := by decide +kernel
theorem dX0_charge_53 : decode cX0_charge 53 = .ok (.dup2, 1) := by decide +kernel
theorem dX0_charge_54 : decode cX0_charge 54 = .ok (.iaload, 1) := by decide +kernel
theorem dX0_charge_55 : decode cX0_charge 55 = .ok (.aload_n 0, 1) := by decide +kernel
theorem dX0_charge_56 : decode cX0_charge 56 = .ok (.getfield 57, 3) := by decide +kernel
theorem dX0_charge_59 : decode cX0_charge 59 = .ok (.isub, 1) := by decide +kernel
theorem dX0_charge_60 : decode cX0_charge 60 = .ok (.iastore, 1) := by decide +kernel
theorem dX0_charge_61 : decode cX0_charge 61 = .ok (.aload_n 0, 1) := by decide +kernel
theorem dX0_charge_62 : decode cX0_charge 62 = .ok (.getfield 13, 3) := by decide +kernel
theorem dX0_charge_65 : decode cX0_charge 65 = .ok (.iload_n 3, 1) := by decide +kernel
theorem dX0_charge_66 : decode cX0_charge 66 = .ok (.dup2, 1) := by decide +kernel
theorem dX0_charge_67 : decode cX0_charge 67 = .ok (.iaload, 1) := by decide +kernel
theorem dX0_charge_68 : decode cX0_charge 68 = .ok (.aload_n 0, 1) := by decide +kernel
theorem dX0_charge_69 : decode cX0_charge 69 = .ok (.getfield 57, 3) := by decide +kernel
theorem dX0_charge_72 : decode cX0_charge 72 = .ok (.iadd, 1) := by decide +kernel
theorem dX0_charge_73 : decode cX0_charge 73 = .ok (.iastore, 1) := by decide +kernel
theorem dX0_charge_74 : decode cX0_charge 74 = .ok (.aload_n 0, 1) := by decide +kernel
theorem dX0_charge_75 : decode cX0_charge 75 = .ok (.getfield 50, 3) := by decide +kernel
theorem dX0_charge_78 : decode cX0_charge 78 = .ok (.iload_n 1, 1) := by decide +kernel
theorem dX0_charge_79 : decode cX0_charge 79 = .ok (.dup2, 1) := by decide +kernel
theorem dX0_charge_80 : decode cX0_charge 80 = .ok (.iaload, 1) := by decide +kernel
theorem dX0_charge_81 : decode cX0_charge 81 = .ok (.aload_n 0, 1) := by decide +kernel
theorem dX0_charge_82 : decode cX0_charge 82 = .ok (.getfield 57, 3) := by decide +kernel
theorem dX0_charge_85 : decode cX0_charge 85 = .ok (.iadd, 1) := by decide +kernel
theorem dX0_charge_86 : decode cX0_charge 86 = .ok (.iastore, 1) := by decide +kernel
theorem dX0_charge_87 : decode cX0_charge 87 = .ok (.return_, 1) := by decide +kernel
set_option maxRecDepth 20000 in
theorem ggX0_putToSleep_X0_isComing : GoodIn wsX0_putToSleep wsX0_isComing := goodIn_r _ [10, 11, 12, 13, 14, 9, 15, 27, 28, 29, 30, 31, 32, 33, 34, 35, 36, 37, 38, 39, 40, 41, 42, 43, 44, 45] (by decide +kernel) (by decide +kernel)
set_option maxRecDepth 20000 in
theorem gX0_putToSleep_X0_isComing : GoodIn wsX0_putToSleep (wsV RX0 140 RX0 yX0_isComing wsX0_isComing) := goodIn_app (goodIn_of _ (by decide +kernel)) ggX0_putToSleep_X0_isComing
set_option maxRecDepth 20000 in
theorem ggX0_putToSleep_X0_dropPage : GoodIn wsX0_putToSleep wsX0_dropPage := goodIn_r _ [19, 11, 12, 20, 27, 28, 29, 30, 31, 32, 33, 34, 35, 36, 37, 38, 39, 40, 41, 42, 43, 44, 45] (by decide +kernel) (by decide +kernel)
set_option maxRecDepth 20000 in
theorem gX0_putToSleep_X0_dropPage : GoodIn wsX0_putToSleep (wsV RX0 115 RX0 yX0_dropPage wsX0_dropPage) := goodIn_app (goodIn_of _ (by decide +kernel)) ggX0_putToSleep_X0_dropPage
set_option maxRecDepth 20000 in
theorem ggX0_putToSleep_X0_endLoan : GoodIn wsX0_putToSleep wsX0_endLoan := goodIn_r _ [24, 3, 25, 1, 26, 13, 14, 9, 15, 16, 17, 18, 19, 11, 12, 20, 27, 28, 29, 30, 31, 32, 33, 34, 35, 36, 37, 38, 39, 40, 41, 42, 43, 44, 45] (by decide +kernel) (by decide +kernel)
set_option maxRecDepth 20000 in
theorem gX0_putToSleep_X0_endLoan : GoodIn wsX0_putToSleep (wsV RX0 145 RX0 yX0_endLoan wsX0_endLoan) := goodIn_app (goodIn_of _ (by decide +kernel)) ggX0_putToSleep_X0_endLoan
theorem dX0_putToSleep_0 : decode cX0_putToSleep 0 = .ok (.iconst 0, 1) := by decide +kernel
theorem dX0_putToSleep_1 : decode cX0_putToSleep 1 = .ok (.istore_n 2, 1) := by decide +kernel
theorem dX0_putToSleep_2 : decode cX0_putToSleep 2 = .ok (.iload_n 2, 1) := by decide +kernel
theorem dX0_putToSleep_3 : decode cX0_putToSleep 3 = .ok (.bipush 12, 2) := by decide +kernel
theorem dX0_putToSleep_5 : decode cX0_putToSleep 5 = .ok (.if_icmp .ge 32, 3) := by decide +kernel
theorem dX0_putToSleep_8 : decode cX0_putToSleep 8 = .ok (.aload_n 0, 1) := by decide +kernel
theorem dX0_putToSleep_9 : decode cX0_putToSleep 9 = .ok (.getfield 25, 3) := by decide +kernel
theorem dX0_putToSleep_12 : decode cX0_putToSleep 12 = .ok (.iload_n 2, 1) := by decide +kernel
theorem dX0_putToSleep_13 : decode cX0_putToSleep 13 = .ok (.iaload, 1) := by decide +kernel
theorem dX0_putToSleep_14 : decode cX0_putToSleep 14 = .ok (.iload_n 1, 1) := by decide +kernel
theorem dX0_putToSleep_15 : decode cX0_putToSleep 15 = .ok (.if_icmp .ne 16, 3) := by decide +kernel
theorem dX0_putToSleep_18 : decode cX0_putToSleep 18 = .ok (.aload_n 0, 1) := by decide +kernel
theorem dX0_putToSleep_19 : decode cX0_putToSleep 19 = .ok (.iload_n 2, 1) := by decide +kernel
theorem dX0_putToSleep_20 : decode cX0_putToSleep 20 = .ok (.invokevirtual 140, 3) := by decide +kernel
theorem dX0_putToSleep_23 : decode cX0_putToSleep 23 = .ok (.ifCond .eq 8, 3) := by decide +kernel
theorem dX0_putToSleep_26 : decode cX0_putToSleep 26 = .ok (.aload_n 0, 1) := by decide +kernel
theorem dX0_putToSleep_27 : decode cX0_putToSleep 27 = .ok (.iload_n 2, 1) := by decide +kernel
theorem dX0_putToSleep_28 : decode cX0_putToSleep 28 = .ok (.invokevirtual 115, 3) := by decide +kernel
theorem dX0_putToSleep_31 : decode cX0_putToSleep 31 = .ok (.iinc 2 1, 3) := by decide +kernel
theorem dX0_putToSleep_34 : decode cX0_putToSleep 34 = .ok (.goto (-32), 3) := by decide +kernel
theorem dX0_putToSleep_37 : decode cX0_putToSleep 37 = .ok (.iconst 0, 1) := by decide +kernel
theorem dX0_putToSleep_38 : decode cX0_putToSleep 38 = .ok (.istore_n 2, 1) := by decide +kernel
theorem dX0_putToSleep_39 : decode cX0_putToSleep 39 = .ok (.iload_n 2, 1) := by decide +kernel
theorem dX0_putToSleep_40 : decode cX0_putToSleep 40 = .ok (.bipush 60, 2) := by decide +kernel
theorem dX0_putToSleep_42 : decode cX0_putToSleep 42 = .ok (.if_icmp .ge 41, 3) := by decide +kernel
theorem dX0_putToSleep_45 : decode cX0_putToSleep 45 = .ok (.iload_n 2, 1) := by decide +kernel
theorem dX0_putToSleep_46 : decode cX0_putToSleep 46 = .ok (.aload_n 0, 1) := by decide +kernel
theorem dX0_putToSleep_47 : decode cX0_putToSleep 47 = .ok (.getfield 53, 3) := by decide +kernel
theorem dX0_putToSleep_50 : decode cX0_putToSleep 50 = .ok (.if_icmp .ge 33, 3) := by decide +kernel
theorem dX0_putToSleep_53 : decode cX0_putToSleep 53 = .ok (.aload_n 0, 1) := by decide +kernel
theorem dX0_putToSleep_54 : decode cX0_putToSleep 54 = .ok (.getfield 47, 3) := by decide +kernel
theorem dX0_putToSleep_57 : decode cX0_putToSleep 57 = .ok (.iload_n 2, 1) := by decide +kernel
theorem dX0_putToSleep_58 : decode cX0_putToSleep 58 = .ok (.baload, 1) := by decide +kernel
theorem dX0_putToSleep_59 : decode cX0_putToSleep 59 = .ok (.ifCond .eq 18, 3) := by decide +kernel
theorem dX0_putToSleep_62 : decode cX0_putToSleep 62 = .ok (.aload_n 0, 1) := by decide +kernel
theorem dX0_putToSleep_63 : decode cX0_putToSleep 63 = .ok (.getfield 44, 3) := by decide +kernel
theorem dX0_putToSleep_66 : decode cX0_putToSleep 66 = .ok (.iload_n 2, 1) := by decide +kernel
theorem dX0_putToSleep_67 : decode cX0_putToSleep 67 = .ok (.iaload, 1) := by decide +kernel
theorem dX0_putToSleep_68 : decode cX0_putToSleep 68 = .ok (.iload_n 1, 1) := by decide +kernel
theorem dX0_putToSleep_69 : decode cX0_putToSleep 69 = .ok (.if_icmp .ne 8, 3) := by decide +kernel
theorem dX0_putToSleep_72 : decode cX0_putToSleep 72 = .ok (.aload_n 0, 1) := by decide +kernel
theorem dX0_putToSleep_73 : decode cX0_putToSleep 73 = .ok (.iload_n 2, 1) := by decide +kernel
theorem dX0_putToSleep_74 : decode cX0_putToSleep 74 = .ok (.invokevirtual 145, 3) := by decide +kernel
theorem dX0_putToSleep_77 : decode cX0_putToSleep 77 = .ok (.iinc 2 1, 3) := by decide +kernel
theorem dX0_putToSleep_80 : decode cX0_putToSleep 80 = .ok (.goto (-41), 3) := by decide +kernel
theorem dX0_putToSleep_83 : decode cX0_putToSleep 83 = .ok (.aload_n 0, 1) := by decide +kernel
theorem dX0_putToSleep_84 : decode cX0_putToSleep 84 = .ok (.getfield 16, 3) := by decide +kernel
theorem dX0_putToSleep_87 : decode cX0_putToSleep 87 = .ok (.iload_n 1, 1) := by decide +kernel
theorem dX0_putToSleep_88 : decode cX0_putToSleep 88 = .ok (.iconst 2, 1) := by decide +kernel
theorem dX0_putToSleep_89 : decode cX0_putToSleep 89 = .ok (.iastore, 1) := by decide +kernel
theorem dX0_putToSleep_90 : decode cX0_putToSleep 90 = .ok (.return_, 1) := by decide +kernel
set_option maxRecDepth 20000 in
theorem ggX0_giveAlms_X0_richestGiver : GoodIn wsX0_giveAlms wsX0_richestGiver := goodIn_r _ [7, 1, 2, 11, 12, 13, 14, 15, 16, 17, 18, 19, 20, 21, 22, 23, 24, 25, 26, 27, 28, 29] (by decide +kernel) (by decide +kernel)
set_option maxRecDepth 20000 in
theorem gX0_giveAlms_X0_richestGiver : GoodIn wsX0_giveAlms (wsV RX0 202 RX0 yX0_richestGiver wsX0_richestGiver) := goodIn_app (goodIn_of _ (by decide +kernel)) ggX0_giveAlms_X0_richestGiver
set_option maxRecDepth 20000 in
theorem ggX0_giveAlms_X0_isProcess : GoodIn wsX0_giveAlms wsX0_isProcess := goodIn_r _ [10] (by decide +kernel) (by decide +kernel)
set_option maxRecDepth 20000 in
theorem gX0_giveAlms_X0_isProcess : GoodIn wsX0_giveAlms (va_wsS RX0 75 yX0_isProcess wsX0_isProcess) := goodIn_app (goodIn_of _ (by decide +kernel)) ggX0_giveAlms_X0_isProcess
theorem dX0_giveAlms_0 : decode cX0_giveAlms 0 = .ok (.iconst 0, 1) := by decide +kernel
theorem dX0_giveAlms_1 : decode cX0_giveAlms 1 = .ok (.istore_n 1, 1) := by decide +kernel
theorem dX0_giveAlms_2 : decode cX0_giveAlms 2 = .ok (.iload_n 1, 1) := by decide +kernel
theorem dX0_giveAlms_3 : decode cX0_giveAlms 3 = .ok (.iconst 5, 1) := by decide +kernel
theorem dX0_giveAlms_4 : decode cX0_giveAlms 4 = .ok (.if_icmp .ge 68, 3) := by decide +kernel
theorem dX0_giveAlms_7 : decode cX0_giveAlms 7 = .ok (.aload_n 0, 1) := by decide +kernel
theorem dX0_giveAlms_8 : decode cX0_giveAlms 8 = .ok (.getfield 16, 3) := by decide +kernel
theorem dX0_giveAlms_11 : decode cX0_giveAlms 11 = .ok (.iload_n 1, 1) := by decide +kernel
theorem dX0_giveAlms_12 : decode cX0_giveAlms 12 = .ok (.iaload, 1) := by decide +kernel
theorem dX0_giveAlms_13 : decode cX0_giveAlms 13 = .ok (.iconst 2, 1) := by decide +kernel
theorem dX0_giveAlms_14 : decode cX0_giveAlms 14 = .ok (.if_icmp .ne 52, 3) := by decide +kernel
theorem dX0_giveAlms_17 : decode cX0_giveAlms 17 = .ok (.aload_n 0, 1) := by decide +kernel
theorem dX0_giveAlms_18 : decode cX0_giveAlms 18 = .ok (.invokevirtual 202, 3) := by decide +kernel
theorem dX0_giveAlms_21 : decode cX0_giveAlms 21 = .ok (.istore_n 2, 1) := by decide +kernel
theorem dX0_giveAlms_22 : decode cX0_giveAlms 22 = .ok (.iload_n 2, 1) := by decide +kernel
theorem dX0_giveAlms_23 : decode cX0_giveAlms 23 = .ok (.invokestatic 75, 3) := by decide +kernel
theorem dX0_giveAlms_26 : decode cX0_giveAlms 26 = .ok (.ifCond .eq 23, 3) := by decide +kernel
theorem dX0_giveAlms_29 : decode cX0_giveAlms 29 = .ok (.aload_n 0, 1) := by decide +kernel
theorem dX0_giveAlms_30 : decode cX0_giveAlms 30 = .ok (.getfield 13, 3) := by decide +kernel
theorem dX0_giveAlms_33 : decode cX0_giveAlms 33 = .ok (.iload_n 2, 1) := by decide +kernel
theorem dX0_giveAlms_34 : decode cX0_giveAlms 34 = .ok (.dup2, 1) := by decide +kernel
theorem dX0_giveAlms_35 : decode cX0_giveAlms 35 = .ok (.iaload, 1) := by decide +kernel
theorem dX0_giveAlms_36 : decode cX0_giveAlms 36 = .ok (.iconst 1, 1) := by decide +kernel
theorem dX0_giveAlms_37 : decode cX0_giveAlms 37 = .ok (.isub, 1) := by decide +kernel
theorem dX0_giveAlms_38 : decode cX0_giveAlms 38 = .ok (.iastore, 1) := by decide +kernel
theorem dX0_giveAlms_39 : decode cX0_giveAlms 39 = .ok (.aload_n 0, 1) := by decide +kernel
theorem dX0_giveAlms_40 : decode cX0_giveAlms 40 = .ok (.getfield 13, 3) := by decide +kernel
theorem dX0_giveAlms_43 : decode cX0_giveAlms 43 = .ok (.iload_n 1, 1) := by decide +kernel
theorem dX0_giveAlms_44 : decode cX0_giveAlms 44 = .ok (.dup2, 1) := by decide +kernel
theorem dX0_giveAlms_45 : decode cX0_giveAlms 45 = .ok (.iaload, 1) := by decide +kernel
theorem dX0_giveAlms_46 : decode cX0_giveAlms 46 = .ok (.iconst 1, 1) := by decide +kernel
theorem dX0_giveAlms_47 : decode cX0_giveAlms 47 = .ok (.iadd, 1) := by decide +kernel
theorem dX0_giveAlms_48 : decode cX0_giveAlms 48 = .ok (.iastore, 1) := by decide +kernel
theorem dX0_giveAlms_49 : decode cX0_giveAlms 49 = .ok (.aload_n 0, 1) := by decide +kernel
theorem dX0_giveAlms_50 : decode cX0_giveAlms 50 = .ok (.getfield 13, 3) := by decide +kernel
theorem dX0_giveAlms_53 : decode cX0_giveAlms 53 = .ok (.iload_n 1, 1) := by decide +kernel
theorem dX0_giveAlms_54 : decode cX0_giveAlms 54 = .ok (.iaload, 1) := by decide +kernel
theorem dX0_giveAlms_55 : decode cX0_giveAlms 55 = .ok (.iconst 5, 1) := by decide +kernel
theorem dX0_giveAlms_56 : decode cX0_giveAlms 56 = .ok (.if_icmp .lt 10, 3) := by decide +kernel
theorem dX0_giveAlms_59 : decode cX0_giveAlms 59 = .ok (.aload_n 0, 1) := by decide +kernel
theorem dX0_giveAlms_60 : decode cX0_giveAlms 60 = .ok (.getfield 16, 3) := by decide +kernel
theorem dX0_giveAlms_63 : decode cX0_giveAlms 63 = .ok (.iload_n 1, 1) := by decide +kernel
theorem dX0_giveAlms_64 : decode cX0_giveAlms 64 = .ok (.iconst 0, 1) := by decide +kernel
theorem dX0_giveAlms_65 : decode cX0_giveAlms 65 = .ok (.iastore, 1) := by decide +kernel
theorem dX0_giveAlms_66 : decode cX0_giveAlms 66 = .ok (.iinc 1 1, 3) := by decide +kernel
theorem dX0_giveAlms_69 : decode cX0_giveAlms 69 = .ok (.goto (-67), 3) := by decide +kernel
theorem dX0_giveAlms_72 : decode cX0_giveAlms 72 = .ok (.return_, 1) := by decide +kernel
theorem dX0_richestGiver_0 : decode cX0_richestGiver 0 = .ok (.iconst (-1), 1) := by decide +kernel
theorem dX0_richestGiver_1 : decode cX0_richestGiver 1 = .ok (.istore_n 1, 1) := by decide +kernel
theorem dX0_richestGiver_2 : decode cX0_richestGiver 2 = .ok (.bipush 19, 2) := by decide +kernel
theorem dX0_richestGiver_4 : decode cX0_richestGiver 4 = .ok (.istore_n 2, 1) := by decide +kernel
theorem dX0_richestGiver_5 : decode cX0_richestGiver 5 = .ok (.iconst 0, 1) := by decide +kernel
theorem dX0_richestGiver_6 : decode cX0_richestGiver 6 = .ok (.istore_n 3, 1) := by decide +kernel
theorem dX0_richestGiver_7 : decode cX0_richestGiver 7 = .ok (.iload_n 3, 1) := by decide +kernel
theorem dX0_richestGiver_8 : decode cX0_richestGiver 8 = .ok (.iconst 5, 1) := by decide +kernel
theorem dX0_richestGiver_9 : decode cX0_richestGiver 9 = .ok (.if_icmp .ge 38, 3) := by decide +kernel
theorem dX0_richestGiver_12 : decode cX0_richestGiver 12 = .ok (.aload_n 0, 1) := by decide +kernel
theorem dX0_richestGiver_13 : decode cX0_richestGiver 13 = .ok (.getfield 16, 3) := by decide +kernel
theorem dX0_richestGiver_16 : decode cX0_richestGiver 16 = .ok (.iload_n 3, 1) := by decide +kernel
theorem dX0_richestGiver_17 : decode cX0_richestGiver 17 = .ok (.iaload, 1) := by decide +kernel
theorem dX0_richestGiver_18 : decode cX0_richestGiver 18 = .ok (.iconst 2, 1) := by decide +kernel
theorem dX0_richestGiver_19 : decode cX0_richestGiver 19 = .ok (.if_icmp .eq 22, 3) := by decide +kernel
theorem dX0_richestGiver_22 : decode cX0_richestGiver 22 = .ok (.aload_n 0, 1) := by decide +kernel
theorem dX0_richestGiver_23 : decode cX0_richestGiver 23 = .ok (.getfield 13, 3) := by decide +kernel
theorem dX0_richestGiver_26 : decode cX0_richestGiver 26 = .ok (.iload_n 3, 1) := by decide +kernel
theorem dX0_richestGiver_27 : decode cX0_richestGiver 27 = .ok (.iaload, 1) := by decide +kernel
theorem dX0_richestGiver_28 : decode cX0_richestGiver 28 = .ok (.iload_n 2, 1) := by decide +kernel
theorem dX0_richestGiver_29 : decode cX0_richestGiver 29 = .ok (.if_icmp .le 12, 3) := by decide +kernel
theorem dX0_richestGiver_32 : decode cX0_richestGiver 32 = .ok (.iload_n 3, 1) := by decide +kernel
theorem dX0_richestGiver_33 : decode cX0_richestGiver 33 = .ok (.istore_n 1, 1) := by decide +kernel
theorem dX0_richestGiver_34 : decode cX0_richestGiver 34 = .ok (.aload_n 0, 1) := by decide +kernel
theorem dX0_richestGiver_35 : decode cX0_richestGiver 35 = .ok (.getfield 13, 3) := by decide +kernel
theorem dX0_richestGiver_38 : decode cX0_richestGiver 38 = .ok (.iload_n 3, 1) := by decide +kernel
theorem dX0_richestGiver_39 : decode cX0_richestGiver 39 = .ok (.iaload, 1) := by decide +kernel
theorem dX0_richestGiver_40 : decode cX0_richestGiver 40 = .ok (.istore_n 2, 1) := by decide +kernel
theorem dX0_richestGiver_41 : decode cX0_richestGiver 41 = .ok (.iinc 3 1, 3) := by decide +kernel
theorem dX0_richestGiver_44 : decode cX0_richestGiver 44 = .ok (.goto (-37), 3) := by decide +kernel
theorem dX0_richestGiver_47 : decode cX0_richestGiver 47 = .ok (.iload_n 1, 1) := by decide +kernel
theorem dX0_richestGiver_48 : decode cX0_richestGiver 48 = .ok (.ireturn, 1) := by decide +kernel
theorem dX0_trackOf_0 : decode cX0_trackOf 0 = .ok (.bipush 8, 2) := by decide +kernel
theorem dX0_trackOf_2 : decode cX0_trackOf 2 = .ok (.aload_n 0, 1) := by decide +kernel
theorem dX0_trackOf_3 : decode cX0_trackOf 3 = .ok (.getfield 25, 3) := by decide +kernel
theorem dX0_trackOf_6 : decode cX0_trackOf 6 = .ok (.iload_n 1, 1) := by decide +kernel
theorem dX0_trackOf_7 : decode cX0_trackOf 7 = .ok (.iaload, 1) := by decide +kernel
theorem dX0_trackOf_8 : decode cX0_trackOf 8 = .ok (.imul, 1) := by decide +kernel
theorem dX0_trackOf_9 : decode cX0_trackOf 9 = .ok (.aload_n 0, 1) := by decide +kernel
theorem dX0_trackOf_10 : decode cX0_trackOf 10 = .ok (.getfield 28, 3) := by decide +kernel
theorem dX0_trackOf_13 : decode cX0_trackOf 13 = .ok (.iload_n 1, 1) := by decide +kernel
theorem dX0_trackOf_14 : decode cX0_trackOf 14 = .ok (.iaload, 1) := by decide +kernel
theorem dX0_trackOf_15 : decode cX0_trackOf 15 = .ok (.iadd, 1) := by decide +kernel
theorem dX0_trackOf_16 : decode cX0_trackOf 16 = .ok (.ireturn, 1) := by decide +kernel
set_option maxRecDepth 20000 in
theorem ggX0_isRequested_X0_isComing : GoodIn wsX0_isRequested wsX0_isComing := goodIn_r _ [5, 6, 7, 8, 9, 4, 10, 16, 17, 18, 19, 20, 21, 22, 23, 24, 25, 26, 27, 28, 29, 30, 31, 32, 33, 34] (by decide +kernel) (by decide +kernel)
set_option maxRecDepth 20000 in
theorem gX0_isRequested_X0_isComing : GoodIn wsX0_isRequested (wsV RX0 140 RX0 yX0_isComing wsX0_isComing) := goodIn_app (goodIn_of _ (by decide +kernel)) ggX0_isRequested_X0_isComing
set_option maxRecDepth 20000 in
theorem ggX0_isRequested_X0_trackOf : GoodIn wsX0_isRequested wsX0_trackOf := goodIn_r _ [14, 15, 6, 16, 17, 18, 19, 20, 21, 22, 23, 24, 25, 26, 27, 28, 29, 30, 31, 32, 33, 34] (by decide +kernel) (by decide +kernel)
set_option maxRecDepth 20000 in
theorem gX0_isRequested_X0_trackOf : GoodIn wsX0_isRequested (wsV RX0 206 RX0 yX0_trackOf wsX0_trackOf) := goodIn_app (goodIn_of _ (by decide +kernel)) ggX0_isRequested_X0_trackOf
theorem dX0_isRequested_0 : decode cX0_isRequested 0 = .ok (.iconst 0, 1) := by decide +kernel
theorem dX0_isRequested_1 : decode cX0_isRequested 1 = .ok (.istore_n 2, 1) := by decide +kernel
theorem dX0_isRequested_2 : decode cX0_isRequested 2 = .ok (.iload_n 2, 1) := by decide +kernel
theorem dX0_isRequested_3 : decode cX0_isRequested 3 = .ok (.bipush 12, 2) := by decide +kernel
theorem dX0_isRequested_5 : decode cX0_isRequested 5 = .ok (.if_icmp .ge 28, 3) := by decide +kernel
theorem dX0_isRequested_8 : decode cX0_isRequested 8 = .ok (.aload_n 0, 1) := by decide +kernel
theorem dX0_isRequested_9 : decode cX0_isRequested 9 = .ok (.iload_n 2, 1) := by decide +kernel
theorem dX0_isRequested_10 : decode cX0_isRequested 10 = .ok (.invokevirtual 140, 3) := by decide +kernel
theorem dX0_isRequested_13 : decode cX0_isRequested 13 = .ok (.ifCond .eq 14, 3) := by decide +kernel
theorem dX0_isRequested_16 : decode cX0_isRequested 16 = .ok (.aload_n 0, 1) := by decide +kernel
theorem dX0_isRequested_17 : decode cX0_isRequested 17 = .ok (.iload_n 2, 1) := by decide +kernel
theorem dX0_isRequested_18 : decode cX0_isRequested 18 = .ok (.invokevirtual 206, 3) := by decide +kernel
theorem dX0_isRequested_21 : decode cX0_isRequested 21 = .ok (.iload_n 1, 1) := by decide +kernel
theorem dX0_isRequested_22 : decode cX0_isRequested 22 = .ok (.if_icmp .ne 5, 3) := by decide +kernel
theorem dX0_isRequested_25 : decode cX0_isRequested 25 = .ok (.iconst 1, 1) := by decide +kernel
theorem dX0_isRequested_26 : decode cX0_isRequested 26 = .ok (.ireturn, 1) := by decide +kernel
theorem dX0_isRequested_27 : decode cX0_isRequested 27 = .ok (.iinc 2 1, 3) := by decide +kernel
theorem dX0_isRequested_30 : decode cX0_isRequested 30 = .ok (.goto (-28), 3) := by decide +kernel
theorem dX0_isRequested_33 : decode cX0_isRequested 33 = .ok (.iconst 0, 1) := by decide +kernel
theorem dX0_isRequested_34 : decode cX0_isRequested 34 = .ok (.ireturn, 1) := by decide +kernel
set_option maxRecDepth 20000 in
theorem ggX0_moveDisk_X0_nearestRequest : GoodIn wsX0_moveDisk wsX0_nearestRequest := goodIn_r _ [7, 2, 8, 9, 10, 11, 12, 13, 14, 6, 15, 16, 17, 18, 19, 20, 21, 22, 23, 24, 25, 36, 37, 38, 39, 40, 41, 42, 43, 44, 45, 46, 47, 48, 49, 50, 51, 52, 53, 54] (by decide +kernel) (by decide +kernel)
set_option maxRecDepth 20000 in
theorem gX0_moveDisk_X0_nearestRequest : GoodIn wsX0_moveDisk (wsV RX0 209 RX0 yX0_nearestRequest wsX0_nearestRequest) := goodIn_app (goodIn_of _ (by decide +kernel)) ggX0_moveDisk_X0_nearestRequest
set_option maxRecDepth 20000 in
theorem ggX0_moveDisk_X0_isFrame : GoodIn wsX0_moveDisk wsX0_isFrame := goodIn_r _ [20] (by decide +kernel) (by decide +kernel)
set_option maxRecDepth 20000 in
theorem gX0_moveDisk_X0_isFrame : GoodIn wsX0_moveDisk (va_wsS RX0 102 yX0_isFrame wsX0_isFrame) := goodIn_app (goodIn_of _ (by decide +kernel)) ggX0_moveDisk_X0_isFrame
set_option maxRecDepth 20000 in
theorem ggX0_moveDisk_X0_trackOf : GoodIn wsX0_moveDisk wsX0_trackOf := goodIn_r _ [24, 25, 16, 36, 37, 38, 39, 40, 41, 42, 43, 44, 45, 46, 47, 48, 49, 50, 51, 52, 53, 54] (by decide +kernel) (by decide +kernel)
set_option maxRecDepth 20000 in
theorem gX0_moveDisk_X0_trackOf : GoodIn wsX0_moveDisk (wsV RX0 206 RX0 yX0_trackOf wsX0_trackOf) := goodIn_app (goodIn_of _ (by decide +kernel)) ggX0_moveDisk_X0_trackOf
set_option maxRecDepth 20000 in
theorem ggX0_moveDisk_X0_finishRequest : GoodIn wsX0_moveDisk wsX0_finishRequest := goodIn_r _ [29, 1, 17, 30, 31, 25, 32, 33, 34, 6, 35, 36, 37, 38, 39, 40, 41, 42, 43, 44, 45, 46, 47, 48, 49, 50, 51, 52, 53, 54] (by decide +kernel) (by decide +kernel)
set_option maxRecDepth 20000 in
theorem gX0_moveDisk_X0_finishRequest : GoodIn wsX0_moveDisk (wsV RX0 212 RX0 yX0_finishRequest wsX0_finishRequest) := goodIn_app (goodIn_of _ (by decide +kernel)) ggX0_moveDisk_X0_finishRequest
theorem dX0_moveDisk_0 : decode cX0_moveDisk 0 = .ok (.aload_n 0, 1) := by decide +kernel
theorem dX0_moveDisk_1 : decode cX0_moveDisk 1 = .ok (.getfield 66, 3) := by decide +kernel
theorem dX0_moveDisk_4 : decode cX0_moveDisk 4 = .ok (.iconst (-1), 1) := by decide +kernel
theorem dX0_moveDisk_5 : decode cX0_moveDisk 5 = .ok (.if_icmp .ne 11, 3) := by decide +kernel
theorem dX0_moveDisk_8 : decode cX0_moveDisk 8 = .ok (.aload_n 0, 1) := by decide +kernel
theorem dX0_moveDisk_9 : decode cX0_moveDisk 9 = .ok (.aload_n 0, 1) := by decide +kernel
theorem dX0_moveDisk_10 : decode cX0_moveDisk 10 = .ok (.invokevirtual 209, 3) := by decide +kernel
theorem dX0_moveDisk_13 : decode cX0_moveDisk 13 = .ok (.putfield 66, 3) := by decide +kernel
theorem dX0_moveDisk_16 : decode cX0_moveDisk 16 = .ok (.aload_n 0, 1) := by decide +kernel
theorem dX0_moveDisk_17 : decode cX0_moveDisk 17 = .ok (.getfield 66, 3) := by decide +kernel
theorem dX0_moveDisk_20 : decode cX0_moveDisk 20 = .ok (.invokestatic 102, 3) := by decide +kernel
theorem dX0_moveDisk_23 : decode cX0_moveDisk 23 = .ok (.ifCond .ne 4, 3) := by decide +kernel
theorem dX0_moveDisk_26 : decode cX0_moveDisk 26 = .ok (.return_, 1) := by decide +kernel
theorem dX0_moveDisk_27 : decode cX0_moveDisk 27 = .ok (.aload_n 0, 1) := by decide +kernel
theorem dX0_moveDisk_28 : decode cX0_moveDisk 28 = .ok (.aload_n 0, 1) := by decide +kernel
theorem dX0_moveDisk_29 : decode cX0_moveDisk 29 = .ok (.getfield 66, 3) := by decide +kernel
theorem dX0_moveDisk_32 : decode cX0_moveDisk 32 = .ok (.invokevirtual 206, 3) := by decide +kernel
theorem dX0_moveDisk_35 : decode cX0_moveDisk 35 = .ok (.istore_n 1, 1) := by decide +kernel
theorem dX0_moveDisk_36 : decode cX0_moveDisk 36 = .ok (.aload_n 0, 1) := by decide +kernel
theorem dX0_moveDisk_37 : decode cX0_moveDisk 37 = .ok (.getfield 63, 3) := by decide +kernel
theorem dX0_moveDisk_40 : decode cX0_moveDisk 40 = .ok (.iload_n 1, 1) := by decide +kernel
theorem dX0_moveDisk_41 : decode cX0_moveDisk 41 = .ok (.if_icmp .ge 16, 3) := by decide +kernel
theorem dX0_moveDisk_44 : decode cX0_moveDisk 44 = .ok (.aload_n 0, 1) := by decide +kernel
theorem dX0_moveDisk_45 : decode cX0_moveDisk 45 = .ok (.dup, 1) := by decide +kernel
theorem dX0_moveDisk_46 : decode cX0_moveDisk 46 = .ok (.getfield 63, 3) := by decide +kernel
theorem dX0_moveDisk_49 : decode cX0_moveDisk 49 = .ok (.iconst 1, 1) := by decide +kernel
theorem dX0_moveDisk_50 : decode cX0_moveDisk 50 = .ok (.iadd, 1) := by decide +kernel
theorem dX0_moveDisk_51 : decode cX0_moveDisk 51 = .ok (.putfield 63, 3) := by decide +kernel
theorem dX0_moveDisk_54 : decode cX0_moveDisk 54 = .ok (.goto 21, 3) := by decide +kernel
theorem dX0_moveDisk_57 : decode cX0_moveDisk 57 = .ok (.aload_n 0, 1) := by decide +kernel
theorem dX0_moveDisk_58 : decode cX0_moveDisk 58 = .ok (.getfield 63, 3) := by decide +kernel
theorem dX0_moveDisk_61 : decode cX0_moveDisk 61 = .ok (.iload_n 1, 1) := by decide +kernel
theorem dX0_moveDisk_62 : decode cX0_moveDisk 62 = .ok (.if_icmp .le 13, 3) := by decide +kernel
theorem dX0_moveDisk_65 : decode cX0_moveDisk 65 = .ok (.aload_n 0, 1) := by decide +kernel
theorem dX0_moveDisk_66 : decode cX0_moveDisk 66 = .ok (.dup, 1) := by decide +kernel
theorem dX0_moveDisk_67 : decode cX0_moveDisk 67 = .ok (.getfield 63, 3) := by decide +kernel
theorem dX0_moveDisk_70 : decode cX0_moveDisk 70 = .ok (.iconst 1, 1) := by decide +kernel
theorem dX0_moveDisk_71 : decode cX0_moveDisk 71 = .ok (.isub, 1) := by decide +kernel
theorem dX0_moveDisk_72 : decode cX0_moveDisk 72 = .ok (.putfield 63, 3) := by decide +kernel
theorem dX0_moveDisk_75 : decode cX0_moveDisk 75 = .ok (.aload_n 0, 1) := by decide +kernel
theorem dX0_moveDisk_76 : decode cX0_moveDisk 76 = .ok (.getfield 63, 3) := by decide +kernel
theorem dX0_moveDisk_79 : decode cX0_moveDisk 79 = .ok (.iload_n 1, 1) := by decide +kernel
theorem dX0_moveDisk_80 : decode cX0_moveDisk 80 = .ok (.if_icmp .ne 11, 3) := by decide +kernel
theorem dX0_moveDisk_83 : decode cX0_moveDisk 83 = .ok (.aload_n 0, 1) := by decide +kernel
theorem dX0_moveDisk_84 : decode cX0_moveDisk 84 = .ok (.aload_n 0, 1) := by decide +kernel
theorem dX0_moveDisk_85 : decode cX0_moveDisk 85 = .ok (.getfield 66, 3) := by decide +kernel
theorem dX0_moveDisk_88 : decode cX0_moveDisk 88 = .ok (.invokevirtual 212, 3) := by decide +kernel
theorem dX0_moveDisk_91 : decode cX0_moveDisk 91 = .ok (.return_, 1) := by decide +kernel
set_option maxRecDepth 20000 in
theorem ggX0_nearestRequest_X0_isComing : GoodIn wsX0_nearestRequest wsX0_isComing := goodIn_r _ [10, 11, 12, 13, 14, 9, 15, 21, 22, 23, 24, 25, 26, 27, 28, 29, 30, 31, 32, 33, 34, 35, 36, 37, 38, 39] (by decide +kernel) (by decide +kernel)
set_option maxRecDepth 20000 in
theorem gX0_nearestRequest_X0_isComing : GoodIn wsX0_nearestRequest (wsV RX0 140 RX0 yX0_isComing wsX0_isComing) := goodIn_app (goodIn_of _ (by decide +kernel)) ggX0_nearestRequest_X0_isComing
set_option maxRecDepth 20000 in
theorem ggX0_nearestRequest_X0_trackOf : GoodIn wsX0_nearestRequest wsX0_trackOf := goodIn_r _ [19, 20, 11, 21, 22, 23, 24, 25, 26, 27, 28, 29, 30, 31, 32, 33, 34, 35, 36, 37, 38, 39] (by decide +kernel) (by decide +kernel)
set_option maxRecDepth 20000 in
theorem gX0_nearestRequest_X0_trackOf : GoodIn wsX0_nearestRequest (wsV RX0 206 RX0 yX0_trackOf wsX0_trackOf) := goodIn_app (goodIn_of _ (by decide +kernel)) ggX0_nearestRequest_X0_trackOf
theorem dX0_nearestRequest_0 : decode cX0_nearestRequest 0 = .ok (.iconst (-1), 1) := by decide +kernel
theorem dX0_nearestRequest_1 : decode cX0_nearestRequest 1 = .ok (.istore_n 1, 1) := by decide +kernel
theorem dX0_nearestRequest_2 : decode cX0_nearestRequest 2 = .ok (.iconst (-1), 1) := by decide +kernel
theorem dX0_nearestRequest_3 : decode cX0_nearestRequest 3 = .ok (.istore_n 2, 1) := by decide +kernel
theorem dX0_nearestRequest_4 : decode cX0_nearestRequest 4 = .ok (.bipush 40, 2) := by decide +kernel
theorem dX0_nearestRequest_6 : decode cX0_nearestRequest 6 = .ok (.istore_n 3, 1) := by decide +kernel
theorem dX0_nearestRequest_7 : decode cX0_nearestRequest 7 = .ok (.iconst 0, 1) := by decide +kernel
theorem dX0_nearestRequest_8 : decode cX0_nearestRequest 8 = .ok (.istore 4, 2) := by decide +kernel
theorem dX0_nearestRequest_10 : decode cX0_nearestRequest 10 = .ok (.iload 4, 2) := by decide +kernel
theorem dX0_nearestRequest_12 : decode cX0_nearestRequest 12 = .ok (.bipush 12, 2) := by decide +kernel
theorem dX0_nearestRequest_14 : decode cX0_nearestRequest 14 = .ok (.if_icmp .ge 65, 3) := by decide +kernel
theorem dX0_nearestRequest_17 : decode cX0_nearestRequest 17 = .ok (.aload_n 0, 1) := by decide +kernel
theorem dX0_nearestRequest_18 : decode cX0_nearestRequest 18 = .ok (.iload 4, 2) := by decide +kernel
theorem dX0_nearestRequest_20 : decode cX0_nearestRequest 20 = .ok (.invokevirtual 140, 3) := by decide +kernel
theorem dX0_nearestRequest_23 : decode cX0_nearestRequest 23 = .ok (.ifCond .eq 50, 3) := by decide +kernel
theorem dX0_nearestRequest_26 : decode cX0_nearestRequest 26 = .ok (.aload_n 0, 1) := by decide +kernel
theorem dX0_nearestRequest_27 : decode cX0_nearestRequest 27 = .ok (.iload 4, 2) := by decide +kernel
theorem dX0_nearestRequest_29 : decode cX0_nearestRequest 29 = .ok (.invokevirtual 206, 3) := by decide +kernel
theorem dX0_nearestRequest_32 : decode cX0_nearestRequest 32 = .ok (.istore 5, 2) := by decide +kernel
theorem dX0_nearestRequest_34 : decode cX0_nearestRequest 34 = .ok (.iload 5, 2) := by decide +kernel
theorem dX0_nearestRequest_36 : decode cX0_nearestRequest 36 = .ok (.aload_n 0, 1) := by decide +kernel
theorem dX0_nearestRequest_37 : decode cX0_nearestRequest 37 = .ok (.getfield 63, 3) := by decide +kernel
theorem dX0_nearestRequest_40 : decode cX0_nearestRequest 40 = .ok (.isub, 1) := by decide +kernel
theorem dX0_nearestRequest_41 : decode cX0_nearestRequest 41 = .ok (.invokestatic 215, 3) := by decide +kernel
theorem dX0_nearestRequest_44 : decode cX0_nearestRequest 44 = .ok (.istore 6, 2) := by decide +kernel
theorem dX0_nearestRequest_46 : decode cX0_nearestRequest 46 = .ok (.iload 6, 2) := by decide +kernel
theorem dX0_nearestRequest_48 : decode cX0_nearestRequest 48 = .ok (.iload_n 3, 1) := by decide +kernel
theorem dX0_nearestRequest_49 : decode cX0_nearestRequest 49 = .ok (.if_icmp .lt 15, 3) := by decide +kernel
theorem dX0_nearestRequest_52 : decode cX0_nearestRequest 52 = .ok (.iload 6, 2) := by decide +kernel
theorem dX0_nearestRequest_54 : decode cX0_nearestRequest 54 = .ok (.iload_n 3, 1) := by decide +kernel
theorem dX0_nearestRequest_55 : decode cX0_nearestRequest 55 = .ok (.if_icmp .ne 18, 3) := by decide +kernel
theorem dX0_nearestRequest_58 : decode cX0_nearestRequest 58 = .ok (.iload 5, 2) := by decide +kernel
theorem dX0_nearestRequest_60 : decode cX0_nearestRequest 60 = .ok (.iload_n 2, 1) := by decide +kernel
theorem dX0_nearestRequest_61 : decode cX0_nearestRequest 61 = .ok (.if_icmp .ge 12, 3) := by decide +kernel
theorem dX0_nearestRequest_64 : decode cX0_nearestRequest 64 = .ok (.iload 4, 2) := by decide +kernel
theorem dX0_nearestRequest_66 : decode cX0_nearestRequest 66 = .ok (.istore_n 1, 1) := by decide +kernel
theorem dX0_nearestRequest_67 : decode cX0_nearestRequest 67 = .ok (.iload 5, 2) := by decide +kernel
theorem dX0_nearestRequest_69 : decode cX0_nearestRequest 69 = .ok (.istore_n 2, 1) := by decide +kernel
theorem dX0_nearestRequest_70 : decode cX0_nearestRequest 70 = .ok (.iload 6, 2) := by decide +kernel
theorem dX0_nearestRequest_72 : decode cX0_nearestRequest 72 = .ok (.istore_n 3, 1) := by decide +kernel
theorem dX0_nearestRequest_73 : decode cX0_nearestRequest 73 = .ok (.iinc 4 1, 3) := by decide +kernel
theorem dX0_nearestRequest_76 : decode cX0_nearestRequest 76 = .ok (.goto (-66), 3) := by decide +kernel
theorem dX0_nearestRequest_79 : decode cX0_nearestRequest 79 = .ok (.iload_n 1, 1) := by decide +kernel
theorem dX0_nearestRequest_80 : decode cX0_nearestRequest 80 = .ok (.ireturn, 1) := by decide +kernel
set_option maxRecDepth 20000 in
theorem ggX0_finishRequest_X0_isProcess : GoodIn wsX0_finishRequest wsX0_isProcess := goodIn_r _ [10] (by decide +kernel) (by decide +kernel)
set_option maxRecDepth 20000 in
theorem gX0_finishRequest_X0_isProcess : GoodIn wsX0_finishRequest (va_wsS RX0 75 yX0_isProcess wsX0_isProcess) := goodIn_app (goodIn_of _ (by decide +kernel)) ggX0_finishRequest_X0_isProcess
theorem dX0_finishRequest_0 : decode cX0_finishRequest 0 = .ok (.aload_n 0, 1) := by decide +kernel
theorem dX0_finishRequest_1 : decode cX0_finishRequest 1 = .ok (.iconst (-1), 1) := by decide +kernel
theorem dX0_finishRequest_2 : decode cX0_finishRequest 2 = .ok (.putfield 66, 3) := by decide +kernel
theorem dX0_finishRequest_5 : decode cX0_finishRequest 5 = .ok (.aload_n 0, 1) := by decide +kernel
theorem dX0_finishRequest_6 : decode cX0_finishRequest 6 = .ok (.getfield 31, 3) := by decide +kernel
theorem dX0_finishRequest_9 : decode cX0_finishRequest 9 = .ok (.iload_n 1, 1) := by decide +kernel
theorem dX0_finishRequest_10 : decode cX0_finishRequest 10 = .ok (.iconst 1, 1) := by decide +kernel
theorem dX0_finishRequest_11 : decode cX0_finishRequest 11 = .ok (.bastore, 1) := by decide +kernel
theorem dX0_finishRequest_12 : decode cX0_finishRequest 12 = .ok (.aload_n 0, 1) := by decide +kernel
theorem dX0_finishRequest_13 : decode cX0_finishRequest 13 = .ok (.getfield 35, 3) := by decide +kernel
theorem dX0_finishRequest_16 : decode cX0_finishRequest 16 = .ok (.iload_n 1, 1) := by decide +kernel
theorem dX0_finishRequest_17 : decode cX0_finishRequest 17 = .ok (.aload_n 0, 1) := by decide +kernel
theorem dX0_finishRequest_18 : decode cX0_finishRequest 18 = .ok (.getfield 60, 3) := by decide +kernel
theorem dX0_finishRequest_21 : decode cX0_finishRequest 21 = .ok (.iastore, 1) := by decide +kernel
theorem dX0_finishRequest_22 : decode cX0_finishRequest 22 = .ok (.aload_n 0, 1) := by decide +kernel
theorem dX0_finishRequest_23 : decode cX0_finishRequest 23 = .ok (.getfield 25, 3) := by decide +kernel
theorem dX0_finishRequest_26 : decode cX0_finishRequest 26 = .ok (.iload_n 1, 1) := by decide +kernel
theorem dX0_finishRequest_27 : decode cX0_finishRequest 27 = .ok (.iaload, 1) := by decide +kernel
theorem dX0_finishRequest_28 : decode cX0_finishRequest 28 = .ok (.istore_n 2, 1) := by decide +kernel
theorem dX0_finishRequest_29 : decode cX0_finishRequest 29 = .ok (.iload_n 2, 1) := by decide +kernel
theorem dX0_finishRequest_30 : decode cX0_finishRequest 30 = .ok (.invokestatic 75, 3) := by decide +kernel
theorem dX0_finishRequest_33 : decode cX0_finishRequest 33 = .ok (.ifCond .eq 10, 3) := by decide +kernel
theorem dX0_finishRequest_36 : decode cX0_finishRequest 36 = .ok (.aload_n 0, 1) := by decide +kernel
theorem dX0_finishRequest_37 : decode cX0_finishRequest 37 = .ok (.getfield 16, 3) := by decide +kernel
theorem dX0_finishRequest_40 : decode cX0_finishRequest 40 = .ok (.iload_n 2, 1) := by decide +kernel
theorem dX0_finishRequest_41 : decode cX0_finishRequest 41 = .ok (.iconst 0, 1) := by decide +kernel
theorem dX0_finishRequest_42 : decode cX0_finishRequest 42 = .ok (.iastore, 1) := by decide +kernel
theorem dX0_finishRequest_43 : decode cX0_finishRequest 43 = .ok (.return_, 1) := by decide +kernel
theorem dJ9_abs_0f7a4_0 : decode cJ9_abs_0f7a4 0 = .ok (.iload_n 0, 1) := by decide +kernel
theorem dJ9_abs_0f7a4_1 : decode cJ9_abs_0f7a4 1 = .ok (.ifCond .ge 8, 3) := by decide +kernel
theorem dJ9_abs_0f7a4_4 : decode cJ9_abs_0f7a4 4 = .ok (.iload_n 0, 1) := by decide +kernel
theorem dJ9_abs_0f7a4_5 : decode cJ9_abs_0f7a4 5 = .ok (.ineg, 1) := by decide +kernel
theorem dJ9_abs_0f7a4_6 : decode cJ9_abs_0f7a4 6 = .ok (.goto 4, 3) := by decide +kernel
theorem dJ9_abs_0f7a4_9 : decode cJ9_abs_0f7a4 9 = .ok (.iload_n 0, 1) := by decide +kernel
theorem dJ9_abs_0f7a4_10 : decode cJ9_abs_0f7a4 10 = .ok (.ireturn, 1) := by decide +kernel
theorem dJ7_fill_53178_0 : decode cJ7_fill_53178 0 = .ok (.iconst 0, 1) := by decide +kernel
theorem dJ7_fill_53178_1 : decode cJ7_fill_53178 1 = .ok (.istore_n 2, 1) := by decide +kernel
theorem dJ7_fill_53178_2 : decode cJ7_fill_53178 2 = .ok (.aload_n 0, 1) := by decide +kernel
theorem dJ7_fill_53178_3 : decode cJ7_fill_53178 3 = .ok (.arraylength, 1) := by decide +kernel
theorem dJ7_fill_53178_4 : decode cJ7_fill_53178 4 = .ok (.istore_n 3, 1) := by decide +kernel
theorem dJ7_fill_53178_5 : decode cJ7_fill_53178 5 = .ok (.iload_n 2, 1) := by decide +kernel
theorem dJ7_fill_53178_6 : decode cJ7_fill_53178 6 = .ok (.iload_n 3, 1) := by decide +kernel
theorem dJ7_fill_53178_7 : decode cJ7_fill_53178 7 = .ok (.if_icmp .ge 13, 3) := by decide +kernel
theorem dJ7_fill_53178_10 : decode cJ7_fill_53178 10 = .ok (.aload_n 0, 1) := by decide +kernel
theorem dJ7_fill_53178_11 : decode cJ7_fill_53178 11 = .ok (.iload_n 2, 1) := by decide +kernel
theorem dJ7_fill_53178_12 : decode cJ7_fill_53178 12 = .ok (.iload_n 1, 1) := by decide +kernel
theorem dJ7_fill_53178_13 : decode cJ7_fill_53178 13 = .ok (.iastore, 1) := by decide +kernel
theorem dJ7_fill_53178_14 : decode cJ7_fill_53178 14 = .ok (.iinc 2 1, 3) := by decide +kernel
theorem dJ7_fill_53178_17 : decode cJ7_fill_53178 17 = .ok (.goto (-12), 3) := by decide +kernel
theorem dJ7_fill_53178_20 : decode cJ7_fill_53178 20 = .ok (.return_, 1) := by decide +kernel
end
section
theorem dX1_init_0 : decode cX1_init 0 = .ok (.aload_n 0, 1) := by decide +kernel
theorem dX1_init_1 : decode cX1_init 1 = .ok (.invokespecial 1, 3) := by decide +kernel
theorem dX1_init_4 : decode cX1_init 4 = .ok (.aload_n 0, 1) := by decide +kernel
theorem dX1_init_5 : decode cX1_init 5 = .ok (.iconst 1, 1) := by decide +kernel
theorem dX1_init_6 : decode cX1_init 6 = .ok (.putfield 7, 3) := by decide +kernel
theorem dX1_init_9 : decode cX1_init 9 = .ok (.aload_n 0, 1) := by decide +kernel
theorem dX1_init_10 : decode cX1_init 10 = .ok (.bipush 12, 2) := by decide +kernel
theorem dX1_init_12 : decode cX1_init 12 = .ok (.newarray .int, 2) := by decide +kernel
theorem dX1_init_14 : decode cX1_init 14 = .ok (.putfield 13, 3) := by decide +kernel
theorem dX1_init_17 : decode cX1_init 17 = .ok (.aload_n 0, 1) := by decide +kernel
theorem dX1_init_18 : decode cX1_init 18 = .ok (.bipush 12, 2) := by decide +kernel
theorem dX1_init_20 : decode cX1_init 20 = .ok (.newarray .int, 2) := by decide +kernel
theorem dX1_init_22 : decode cX1_init 22 = .ok (.putfield 17, 3) := by decide +kernel
theorem dX1_init_25 : decode cX1_init 25 = .ok (.aload_n 0, 1) := by decide +kernel
theorem dX1_init_26 : decode cX1_init 26 = .ok (.bipush 12, 2) := by decide +kernel
theorem dX1_init_28 : decode cX1_init 28 = .ok (.newarray .boolean, 2) := by decide +kernel
theorem dX1_init_30 : decode cX1_init 30 = .ok (.putfield 20, 3) := by decide +kernel
theorem dX1_init_33 : decode cX1_init 33 = .ok (.aload_n 0, 1) := by decide +kernel
theorem dX1_init_34 : decode cX1_init 34 = .ok (.bipush 12, 2) := by decide +kernel
theorem dX1_init_36 : decode cX1_init 36 = .ok (.newarray .int, 2) := by decide +kernel
theorem dX1_init_38 : decode cX1_init 38 = .ok (.putfield 24, 3) := by decide +kernel
theorem dX1_init_41 : decode cX1_init 41 = .ok (.aload_n 0, 1) := by decide +kernel
theorem dX1_init_42 : decode cX1_init 42 = .ok (.bipush 12, 2) := by decide +kernel
theorem dX1_init_44 : decode cX1_init 44 = .ok (.newarray .int, 2) := by decide +kernel
theorem dX1_init_46 : decode cX1_init 46 = .ok (.putfield 27, 3) := by decide +kernel
theorem dX1_init_49 : decode cX1_init 49 = .ok (.aload_n 0, 1) := by decide +kernel
theorem dX1_init_50 : decode cX1_init 50 = .ok (.iconst 5, 1) := by decide +kernel
theorem dX1_init_51 : decode cX1_init 51 = .ok (.newarray .int, 2) := by decide +kernel
theorem dX1_init_53 : decode cX1_init 53 = .ok (.putfield 30, 3) := by decide +kernel
theorem dX1_init_56 : decode cX1_init 56 = .ok (.aload_n 0, 1) := by decide +kernel
theorem dX1_init_57 : decode cX1_init 57 = .ok (.iconst 5, 1) := by decide +kernel
theorem dX1_init_58 : decode cX1_init 58 = .ok (.newarray .int, 2) := by decide +kernel
theorem dX1_init_60 : decode cX1_init 60 = .ok (.putfield 33, 3) := by decide +kernel
theorem dX1_init_63 : decode cX1_init 63 = .ok (.aload_n 0, 1) := by decide +kernel
theorem dX1_init_64 : decode cX1_init 64 = .ok (.iconst 5, 1) := by decide +kernel
theorem dX1_init_65 : decode cX1_init 65 = .ok (.newarray .int, 2) := by decide +kernel
theorem dX1_init_67 : decode cX1_init 67 = .ok (.putfield 36, 3) := by decide +kernel
theorem dX1_init_70 : decode cX1_init 70 = .ok (.aload_n 0, 1) := by decide +kernel
theorem dX1_init_71 : decode cX1_init 71 = .ok (.iconst 5, 1) := by decide +kernel
theorem dX1_init_72 : decode cX1_init 72 = .ok (.newarray .int, 2) := by decide +kernel
theorem dX1_init_74 : decode cX1_init 74 = .ok (.putfield 39, 3) := by decide +kernel
theorem dX1_init_77 : decode cX1_init 77 = .ok (.aload_n 0, 1) := by decide +kernel
theorem dX1_init_78 : decode cX1_init 78 = .ok (.bipush 60, 2) := by decide +kernel
theorem dX1_init_80 : decode cX1_init 80 = .ok (.newarray .int, 2) := by decide +kernel
theorem dX1_init_82 : decode cX1_init 82 = .ok (.putfield 42, 3) := by decide +kernel
theorem dX1_init_85 : decode cX1_init 85 = .ok (.aload_n 0, 1) := by decide +kernel
theorem dX1_init_86 : decode cX1_init 86 = .ok (.bipush 60, 2) := by decide +kernel
theorem dX1_init_88 : decode cX1_init 88 = .ok (.newarray .int, 2) := by decide +kernel
theorem dX1_init_90 : decode cX1_init 90 = .ok (.putfield 45, 3) := by decide +kernel
theorem dX1_init_93 : decode cX1_init 93 = .ok (.aload_n 0, 1) := by decide +kernel
theorem dX1_init_94 : decode cX1_init 94 = .ok (.bipush 60, 2) := by decide +kernel
theorem dX1_init_96 : decode cX1_init 96 = .ok (.newarray .int, 2) := by decide +kernel
theorem dX1_init_98 : decode cX1_init 98 = .ok (.putfield 48, 3) := by decide +kernel
theorem dX1_init_101 : decode cX1_init 101 = .ok (.aload_n 0, 1) := by decide +kernel
theorem dX1_init_102 : decode cX1_init 102 = .ok (.bipush 60, 2) := by decide +kernel
theorem dX1_init_104 : decode cX1_init 104 = .ok (.newarray .int, 2) := by decide +kernel
theorem dX1_init_106 : decode cX1_init 106 = .ok (.putfield 51, 3) := by decide +kernel
theorem dX1_init_109 : decode cX1_init 109 = .ok (.aload_n 0, 1) := by decide +kernel
theorem dX1_init_110 : decode cX1_init 110 = .ok (.iconst (-1), 1) := by decide +kernel
theorem dX1_init_111 : decode cX1_init 111 = .ok (.putfield 54, 3) := by decide +kernel
theorem dX1_init_114 : decode cX1_init 114 = .ok (.iconst 0, 1) := by decide +kernel
theorem dX1_init_115 : decode cX1_init 115 = .ok (.istore_n 1, 1) := by decide +kernel
theorem dX1_init_116 : decode cX1_init 116 = .ok (.iload_n 1, 1) := by decide +kernel
theorem dX1_init_117 : decode cX1_init 117 = .ok (.bipush 12, 2) := by decide +kernel
theorem dX1_init_119 : decode cX1_init 119 = .ok (.if_icmp .ge 30, 3) := by decide +kernel
theorem dX1_init_122 : decode cX1_init 122 = .ok (.aload_n 0, 1) := by decide +kernel
theorem dX1_init_123 : decode cX1_init 123 = .ok (.getfield 13, 3) := by decide +kernel
theorem dX1_init_126 : decode cX1_init 126 = .ok (.iload_n 1, 1) := by decide +kernel
theorem dX1_init_127 : decode cX1_init 127 = .ok (.iconst (-1), 1) := by decide +kernel
theorem dX1_init_128 : decode cX1_init 128 = .ok (.iastore, 1) := by decide +kernel
theorem dX1_init_129 : decode cX1_init 129 = .ok (.aload_n 0, 1) := by decide +kernel
theorem dX1_init_130 : decode cX1_init 130 = .ok (.getfield 17, 3) := by decide +kernel
theorem dX1_init_133 : decode cX1_init 133 = .ok (.iload_n 1, 1) := by decide +kernel
theorem dX1_init_134 : decode cX1_init 134 = .ok (.iconst (-1), 1) := by decide +kernel
theorem dX1_init_135 : decode cX1_init 135 = .ok (.iastore, 1) := by decide +kernel
theorem dX1_init_136 : decode cX1_init 136 = .ok (.aload_n 0, 1) := by decide +kernel
theorem dX1_init_137 : decode cX1_init 137 = .ok (.getfield 27, 3) := by decide +kernel
theorem dX1_init_140 : decode cX1_init 140 = .ok (.iload_n 1, 1) := by decide +kernel
theorem dX1_init_141 : decode cX1_init 141 = .ok (.iconst (-1), 1) := by decide +kernel
theorem dX1_init_142 : decode cX1_init 142 = .ok (.iastore, 1) := by decide +kernel
theorem dX1_init_143 : decode cX1_init 143 = .ok (.iinc 1 1, 3) := by decide +kernel
theorem dX1_init_146 : decode cX1_init 146 = .ok (.goto (-30), 3) := by decide +kernel
theorem dX1_init_149 : decode cX1_init 149 = .ok (.iconst 0, 1) := by decide +kernel
theorem dX1_init_150 : decode cX1_init 150 = .ok (.istore_n 1, 1) := by decide +kernel
theorem dX1_init_151 : decode cX1_init 151 = .ok (.iload_n 1, 1) := by decide +kernel
theorem dX1_init_152 : decode cX1_init 152 = .ok (.iconst 5, 1) := by decide +kernel
theorem dX1_init_153 : decode cX1_init 153 = .ok (.if_icmp .ge 17, 3) := by decide +kernel
theorem dX1_init_156 : decode cX1_init 156 = .ok (.aload_n 0, 1) := by decide +kernel
theorem dX1_init_157 : decode cX1_init 157 = .ok (.getfield 33, 3) := by decide +kernel
theorem dX1_init_160 : decode cX1_init 160 = .ok (.iload_n 1, 1) := by decide +kernel
theorem dX1_init_161 : decode cX1_init 161 = .ok (.bipush 20, 2) := by decide +kernel
theorem dX1_init_163 : decode cX1_init 163 = .ok (.iastore, 1) := by decide +kernel
theorem dX1_init_164 : decode cX1_init 164 = .ok (.iinc 1 1, 3) := by decide +kernel
theorem dX1_init_167 : decode cX1_init 167 = .ok (.goto (-16), 3) := by decide +kernel
theorem dX1_init_170 : decode cX1_init 170 = .ok (.return_, 1) := by decide +kernel
theorem dX1_thrown_0 : decode cX1_thrown 0 = .ok (.aload_n 0, 1) := by decide +kernel
theorem dX1_thrown_1 : decode cX1_thrown 1 = .ok (.getfield 57, 3) := by decide +kernel
theorem dX1_thrown_4 : decode cX1_thrown 4 = .ok (.ireturn, 1) := by decide +kernel
theorem dX1_goes_0 : decode cX1_goes 0 = .ok (.aload_n 0, 1) := by decide +kernel
theorem dX1_goes_1 : decode cX1_goes 1 = .ok (.iload_n 1, 1) := by decide +kernel
theorem dX1_goes_2 : decode cX1_goes 2 = .ok (.putfield 57, 3) := by decide +kernel
theorem dX1_goes_5 : decode cX1_goes 5 = .ok (.iload_n 1, 1) := by decide +kernel
theorem dX1_goes_6 : decode cX1_goes 6 = .ok (.ifCond .ne 7, 3) := by decide +kernel
theorem dX1_goes_9 : decode cX1_goes 9 = .ok (.iconst 1, 1) := by decide +kernel
theorem dX1_goes_10 : decode cX1_goes 10 = .ok (.goto 4, 3) := by decide +kernel
theorem dX1_goes_13 : decode cX1_goes 13 = .ok (.iconst 0, 1) := by decide +kernel
theorem dX1_goes_14 : decode cX1_goes 14 = .ok (.ireturn, 1) := by decide +kernel
theorem dX1_isIn_0 : decode cX1_isIn 0 = .ok (.iload_n 0, 1) := by decide +kernel
theorem dX1_isIn_1 : decode cX1_isIn 1 = .ok (.iload_n 1, 1) := by decide +kernel
theorem dX1_isIn_2 : decode cX1_isIn 2 = .ok (.if_icmp .lt 12, 3) := by decide +kernel
theorem dX1_isIn_5 : decode cX1_isIn 5 = .ok (.iload_n 0, 1) := by decide +kernel
theorem dX1_isIn_6 : decode cX1_isIn 6 = .ok (.iload_n 2, 1) := by decide +kernel
theorem dX1_isIn_7 : decode cX1_isIn 7 = .ok (.if_icmp .gt 7, 3) := by decide +kernel
theorem dX1_isIn_10 : decode cX1_isIn 10 = .ok (.iconst 1, 1) := by decide +kernel
theorem dX1_isIn_11 : decode cX1_isIn 11 = .ok (.goto 4, 3) := by decide +kernel
theorem dX1_isIn_14 : decode cX1_isIn 14 = .ok (.iconst 0, 1) := by decide +kernel
theorem dX1_isIn_15 : decode cX1_isIn 15 = .ok (.ireturn, 1) := by decide +kernel
set_option maxRecDepth 20000 in
theorem ggX1_isProcess_X1_isIn : GoodIn wsX1_isProcess wsX1_isIn := goodIn_r _ [4] (by decide +kernel) (by decide +kernel)
set_option maxRecDepth 20000 in
theorem gX1_isProcess_X1_isIn : GoodIn wsX1_isProcess (va_wsS RX1 60 yX1_isIn wsX1_isIn) := goodIn_app (goodIn_of _ (by decide +kernel)) ggX1_isProcess_X1_isIn
theorem dX1_isProcess_0 : decode cX1_isProcess 0 = .ok (.iload_n 0, 1) := by decide +kernel
theorem dX1_isProcess_1 : decode cX1_isProcess 1 = .ok (.iconst 0, 1) := by decide +kernel
theorem dX1_isProcess_2 : decode cX1_isProcess 2 = .ok (.iconst 4, 1) := by decide +kernel
theorem dX1_isProcess_3 : decode cX1_isProcess 3 = .ok (.invokestatic 60, 3) := by decide +kernel
theorem dX1_isProcess_6 : decode cX1_isProcess 6 = .ok (.ireturn, 1) := by decide +kernel
set_option maxRecDepth 20000 in
theorem ggX1_isFrame_X1_isIn : GoodIn wsX1_isFrame wsX1_isIn := goodIn_r _ [4] (by decide +kernel) (by decide +kernel)
set_option maxRecDepth 20000 in
theorem gX1_isFrame_X1_isIn : GoodIn wsX1_isFrame (va_wsS RX1 60 yX1_isIn wsX1_isIn) := goodIn_app (goodIn_of _ (by decide +kernel)) ggX1_isFrame_X1_isIn
theorem dX1_isFrame_0 : decode cX1_isFrame 0 = .ok (.iload_n 0, 1) := by decide +kernel
theorem dX1_isFrame_1 : decode cX1_isFrame 1 = .ok (.iconst 0, 1) := by decide +kernel
theorem dX1_isFrame_2 : decode cX1_isFrame 2 = .ok (.bipush 11, 2) := by decide +kernel
theorem dX1_isFrame_4 : decode cX1_isFrame 4 = .ok (.invokestatic 60, 3) := by decide +kernel
theorem dX1_isFrame_7 : decode cX1_isFrame 7 = .ok (.ireturn, 1) := by decide +kernel
set_option maxRecDepth 20000 in
theorem ggX1_isLoan_X1_isIn : GoodIn wsX1_isLoan wsX1_isIn := goodIn_r _ [5] (by decide +kernel) (by decide +kernel)
set_option maxRecDepth 20000 in
theorem gX1_isLoan_X1_isIn : GoodIn wsX1_isLoan (va_wsS RX1 60 yX1_isIn wsX1_isIn) := goodIn_app (goodIn_of _ (by decide +kernel)) ggX1_isLoan_X1_isIn
theorem dX1_isLoan_0 : decode cX1_isLoan 0 = .ok (.iload_n 1, 1) := by decide +kernel
theorem dX1_isLoan_1 : decode cX1_isLoan 1 = .ok (.iconst 0, 1) := by decide +kernel
theorem dX1_isLoan_2 : decode cX1_isLoan 2 = .ok (.aload_n 0, 1) := by decide +kernel
theorem dX1_isLoan_3 : decode cX1_isLoan 3 = .ok (.getfield 64, 3) := by decide +kernel
theorem dX1_isLoan_6 : decode cX1_isLoan 6 = .ok (.iconst 1, 1) := by decide +kernel
theorem dX1_isLoan_7 : decode cX1_isLoan 7 = .ok (.isub, 1) := by decide +kernel
theorem dX1_isLoan_8 : decode cX1_isLoan 8 = .ok (.invokestatic 60, 3) := by decide +kernel
theorem dX1_isLoan_11 : decode cX1_isLoan 11 = .ok (.ireturn, 1) := by decide +kernel
theorem dX1_holderOf_0 : decode cX1_holderOf 0 = .ok (.aload_n 0, 1) := by decide +kernel
theorem dX1_holderOf_1 : decode cX1_holderOf 1 = .ok (.getfield 27, 3) := by decide +kernel
theorem dX1_holderOf_4 : decode cX1_holderOf 4 = .ok (.iload_n 1, 1) := by decide +kernel
theorem dX1_holderOf_5 : decode cX1_holderOf 5 = .ok (.iaload, 1) := by decide +kernel
theorem dX1_holderOf_6 : decode cX1_holderOf 6 = .ok (.iconst (-1), 1) := by decide +kernel
theorem dX1_holderOf_7 : decode cX1_holderOf 7 = .ok (.if_icmp .ne 12, 3) := by decide +kernel
theorem dX1_holderOf_10 : decode cX1_holderOf 10 = .ok (.aload_n 0, 1) := by decide +kernel
theorem dX1_holderOf_11 : decode cX1_holderOf 11 = .ok (.getfield 13, 3) := by decide +kernel
theorem dX1_holderOf_14 : decode cX1_holderOf 14 = .ok (.iload_n 1, 1) := by decide +kernel
theorem dX1_holderOf_15 : decode cX1_holderOf 15 = .ok (.iaload, 1) := by decide +kernel
theorem dX1_holderOf_16 : decode cX1_holderOf 16 = .ok (.goto 14, 3) := by decide +kernel
theorem dX1_holderOf_19 : decode cX1_holderOf 19 = .ok (.aload_n 0, 1) := by decide +kernel
theorem dX1_holderOf_20 : decode cX1_holderOf 20 = .ok (.getfield 48, 3) := by decide +kernel
theorem dX1_holderOf_23 : decode cX1_holderOf 23 = .ok (.aload_n 0, 1) := by decide +kernel
theorem dX1_holderOf_24 : decode cX1_holderOf 24 = .ok (.getfield 27, 3) := by decide +kernel
theorem dX1_holderOf_27 : decode cX1_holderOf 27 = .ok (.iload_n 1, 1) := by decide +kernel
theorem dX1_holderOf_28 : decode cX1_holderOf 28 = .ok (.iaload, 1) := by decide +kernel
theorem dX1_holderOf_29 : decode cX1_holderOf 29 = .ok (.iaload, 1) := by decide +kernel
theorem dX1_holderOf_30 : decode cX1_holderOf 30 = .ok (.ireturn, 1) := by decide +kernel
theorem dX1_isEmpty_0 : decode cX1_isEmpty 0 = .ok (.aload_n 0, 1) := by decide +kernel
theorem dX1_isEmpty_1 : decode cX1_isEmpty 1 = .ok (.getfield 17, 3) := by decide +kernel
theorem dX1_isEmpty_4 : decode cX1_isEmpty 4 = .ok (.iload_n 1, 1) := by decide +kernel
theorem dX1_isEmpty_5 : decode cX1_isEmpty 5 = .ok (.iaload, 1) := by decide +kernel
theorem dX1_isEmpty_6 : decode cX1_isEmpty 6 = .ok (.iconst (-1), 1) := by decide +kernel
theorem dX1_isEmpty_7 : decode cX1_isEmpty 7 = .ok (.if_icmp .ne 7, 3) := by decide +kernel
theorem dX1_isEmpty_10 : decode cX1_isEmpty 10 = .ok (.iconst 1, 1) := by decide +kernel
theorem dX1_isEmpty_11 : decode cX1_isEmpty 11 = .ok (.goto 4, 3) := by decide +kernel
theorem dX1_isEmpty_14 : decode cX1_isEmpty 14 = .ok (.iconst 0, 1) := by decide +kernel
theorem dX1_isEmpty_15 : decode cX1_isEmpty 15 = .ok (.ireturn, 1) := by decide +kernel
theorem dX1_isComing_0 : decode cX1_isComing 0 = .ok (.aload_n 0, 1) := by decide +kernel
theorem dX1_isComing_1 : decode cX1_isComing 1 = .ok (.getfield 17, 3) := by decide +kernel
theorem dX1_isComing_4 : decode cX1_isComing 4 = .ok (.iload_n 1, 1) := by decide +kernel
theorem dX1_isComing_5 : decode cX1_isComing 5 = .ok (.iaload, 1) := by decide +kernel
theorem dX1_isComing_6 : decode cX1_isComing 6 = .ok (.iconst (-1), 1) := by decide +kernel
theorem dX1_isComing_7 : decode cX1_isComing 7 = .ok (.if_icmp .eq 16, 3) := by decide +kernel
theorem dX1_isComing_10 : decode cX1_isComing 10 = .ok (.aload_n 0, 1) := by decide +kernel
theorem dX1_isComing_11 : decode cX1_isComing 11 = .ok (.getfield 20, 3) := by decide +kernel
theorem dX1_isComing_14 : decode cX1_isComing 14 = .ok (.iload_n 1, 1) := by decide +kernel
theorem dX1_isComing_15 : decode cX1_isComing 15 = .ok (.baload, 1) := by decide +kernel
theorem dX1_isComing_16 : decode cX1_isComing 16 = .ok (.ifCond .ne 7, 3) := by decide +kernel
theorem dX1_isComing_19 : decode cX1_isComing 19 = .ok (.iconst 1, 1) := by decide +kernel
theorem dX1_isComing_20 : decode cX1_isComing 20 = .ok (.goto 4, 3) := by decide +kernel
theorem dX1_isComing_23 : decode cX1_isComing 23 = .ok (.iconst 0, 1) := by decide +kernel
theorem dX1_isComing_24 : decode cX1_isComing 24 = .ok (.ireturn, 1) := by decide +kernel
theorem dX1_hasPage_0 : decode cX1_hasPage 0 = .ok (.aload_n 0, 1) := by decide +kernel
theorem dX1_hasPage_1 : decode cX1_hasPage 1 = .ok (.getfield 17, 3) := by decide +kernel
theorem dX1_hasPage_4 : decode cX1_hasPage 4 = .ok (.iload_n 1, 1) := by decide +kernel
theorem dX1_hasPage_5 : decode cX1_hasPage 5 = .ok (.iaload, 1) := by decide +kernel
theorem dX1_hasPage_6 : decode cX1_hasPage 6 = .ok (.iconst (-1), 1) := by decide +kernel
theorem dX1_hasPage_7 : decode cX1_hasPage 7 = .ok (.if_icmp .eq 16, 3) := by decide +kernel
theorem dX1_hasPage_10 : decode cX1_hasPage 10 = .ok (.aload_n 0, 1) := by decide +kernel
theorem dX1_hasPage_11 : decode cX1_hasPage 11 = .ok (.getfield 20, 3) := by decide +kernel
theorem dX1_hasPage_14 : decode cX1_hasPage 14 = .ok (.iload_n 1, 1) := by decide +kernel
theorem dX1_hasPage_15 : decode cX1_hasPage 15 = .ok (.baload, 1) := by decide +kernel
theorem dX1_hasPage_16 : decode cX1_hasPage 16 = .ok (.ifCond .eq 7, 3) := by decide +kernel
theorem dX1_hasPage_19 : decode cX1_hasPage 19 = .ok (.iconst 1, 1) := by decide +kernel
theorem dX1_hasPage_20 : decode cX1_hasPage 20 = .ok (.goto 4, 3) := by decide +kernel
theorem dX1_hasPage_23 : decode cX1_hasPage 23 = .ok (.iconst 0, 1) := by decide +kernel
theorem dX1_hasPage_24 : decode cX1_hasPage 24 = .ok (.ireturn, 1) := by decide +kernel
set_option maxRecDepth 20000 in
theorem ggX1_ageOf_X1_hasPage : GoodIn wsX1_ageOf wsX1_hasPage := goodIn_r _ [7, 8, 9, 10, 11, 12, 13, 14, 15, 16, 17, 18, 19, 20, 21, 22, 23, 24, 25, 26, 27, 28] (by decide +kernel) (by decide +kernel)
set_option maxRecDepth 20000 in
theorem gX1_ageOf_X1_hasPage : GoodIn wsX1_ageOf (wsV RX1 67 RX1 yX1_hasPage wsX1_hasPage) := goodIn_app (goodIn_of _ (by decide +kernel)) ggX1_ageOf_X1_hasPage
theorem dX1_ageOf_0 : decode cX1_ageOf 0 = .ok (.aload_n 0, 1) := by decide +kernel
theorem dX1_ageOf_1 : decode cX1_ageOf 1 = .ok (.iload_n 1, 1) := by decide +kernel
theorem dX1_ageOf_2 : decode cX1_ageOf 2 = .ok (.invokevirtual 67, 3) := by decide +kernel
theorem dX1_ageOf_5 : decode cX1_ageOf 5 = .ok (.ifCond .eq 17, 3) := by decide +kernel
theorem dX1_ageOf_8 : decode cX1_ageOf 8 = .ok (.aload_n 0, 1) := by decide +kernel
theorem dX1_ageOf_9 : decode cX1_ageOf 9 = .ok (.getfield 71, 3) := by decide +kernel
theorem dX1_ageOf_12 : decode cX1_ageOf 12 = .ok (.aload_n 0, 1) := by decide +kernel
theorem dX1_ageOf_13 : decode cX1_ageOf 13 = .ok (.getfield 24, 3) := by decide +kernel
theorem dX1_ageOf_16 : decode cX1_ageOf 16 = .ok (.iload_n 1, 1) := by decide +kernel
theorem dX1_ageOf_17 : decode cX1_ageOf 17 = .ok (.iaload, 1) := by decide +kernel
theorem dX1_ageOf_18 : decode cX1_ageOf 18 = .ok (.isub, 1) := by decide +kernel
theorem dX1_ageOf_19 : decode cX1_ageOf 19 = .ok (.goto 4, 3) := by decide +kernel
theorem dX1_ageOf_22 : decode cX1_ageOf 22 = .ok (.iconst (-1), 1) := by decide +kernel
theorem dX1_ageOf_23 : decode cX1_ageOf 23 = .ok (.ireturn, 1) := by decide +kernel
theorem dX1_doesLast_0 : decode cX1_doesLast 0 = .ok (.aload_n 0, 1) := by decide +kernel
theorem dX1_doesLast_1 : decode cX1_doesLast 1 = .ok (.getfield 27, 3) := by decide +kernel
theorem dX1_doesLast_4 : decode cX1_doesLast 4 = .ok (.aload_n 0, 1) := by decide +kernel
theorem dX1_doesLast_5 : decode cX1_doesLast 5 = .ok (.getfield 42, 3) := by decide +kernel
theorem dX1_doesLast_8 : decode cX1_doesLast 8 = .ok (.iload_n 1, 1) := by decide +kernel
theorem dX1_doesLast_9 : decode cX1_doesLast 9 = .ok (.iaload, 1) := by decide +kernel
theorem dX1_doesLast_10 : decode cX1_doesLast 10 = .ok (.iaload, 1) := by decide +kernel
theorem dX1_doesLast_11 : decode cX1_doesLast 11 = .ok (.iload_n 1, 1) := by decide +kernel
theorem dX1_doesLast_12 : decode cX1_doesLast 12 = .ok (.if_icmp .ne 7, 3) := by decide +kernel
theorem dX1_doesLast_15 : decode cX1_doesLast 15 = .ok (.iconst 1, 1) := by decide +kernel
theorem dX1_doesLast_16 : decode cX1_doesLast 16 = .ok (.goto 4, 3) := by decide +kernel
theorem dX1_doesLast_19 : decode cX1_doesLast 19 = .ok (.iconst 0, 1) := by decide +kernel
theorem dX1_doesLast_20 : decode cX1_doesLast 20 = .ok (.ireturn, 1) := by decide +kernel
set_option maxRecDepth 20000 in
theorem ggX1_setWage_X1_isProcess : GoodIn wsX1_setWage wsX1_isProcess := goodIn_r _ [5, 6, 7, 4, 8] (by decide +kernel) (by decide +kernel)
set_option maxRecDepth 20000 in
theorem gX1_setWage_X1_isProcess : GoodIn wsX1_setWage (va_wsS RX1 74 yX1_isProcess wsX1_isProcess) := goodIn_app (goodIn_of _ (by decide +kernel)) ggX1_setWage_X1_isProcess
set_option maxRecDepth 20000 in
theorem ggX1_setWage_X1_isIn : GoodIn wsX1_setWage wsX1_isIn := goodIn_r _ [8] (by decide +kernel) (by decide +kernel)
set_option maxRecDepth 20000 in
theorem gX1_setWage_X1_isIn : GoodIn wsX1_setWage (va_wsS RX1 60 yX1_isIn wsX1_isIn) := goodIn_app (goodIn_of _ (by decide +kernel)) ggX1_setWage_X1_isIn
set_option maxRecDepth 20000 in
theorem ggX1_setWage_X1_goes : GoodIn wsX1_setWage wsX1_goes := goodIn_r _ [12, 13, 14, 15, 16, 17, 18, 19, 20, 21, 22, 23, 24, 25, 26, 27, 28, 29, 30, 31, 32] (by decide +kernel) (by decide +kernel)
set_option maxRecDepth 20000 in
theorem gX1_setWage_X1_goes : GoodIn wsX1_setWage (wsV RX1 77 RX1 yX1_goes wsX1_goes) := goodIn_app (goodIn_of _ (by decide +kernel)) ggX1_setWage_X1_goes
theorem dX1_setWage_0 : decode cX1_setWage 0 = .ok (.aload_n 0, 1) := by decide +kernel
theorem dX1_setWage_1 : decode cX1_setWage 1 = .ok (.iload_n 1, 1) := by decide +kernel
theorem dX1_setWage_2 : decode cX1_setWage 2 = .ok (.invokestatic 74, 3) := by decide +kernel
theorem dX1_setWage_5 : decode cX1_setWage 5 = .ok (.ifCond .ne 7, 3) := by decide +kernel
theorem dX1_setWage_8 : decode cX1_setWage 8 = .ok (.iconst 1, 1) := by decide +kernel
theorem dX1_setWage_9 : decode cX1_setWage 9 = .ok (.goto 18, 3) := by decide +kernel
theorem dX1_setWage_12 : decode cX1_setWage 12 = .ok (.iload_n 2, 1) := by decide +kernel
theorem dX1_setWage_13 : decode cX1_setWage 13 = .ok (.iconst 0, 1) := by decide +kernel
theorem dX1_setWage_14 : decode cX1_setWage 14 = .ok (.bipush 9, 2) := by decide +kernel
theorem dX1_setWage_16 : decode cX1_setWage 16 = .ok (.invokestatic 60, 3) := by decide +kernel
theorem dX1_setWage_19 : decode cX1_setWage 19 = .ok (.ifCond .eq 7, 3) := by decide +kernel
theorem dX1_setWage_22 : decode cX1_setWage 22 = .ok (.iconst 0, 1) := by decide +kernel
theorem dX1_setWage_23 : decode cX1_setWage 23 = .ok (.goto 4, 3) := by decide +kernel
theorem dX1_setWage_26 : decode cX1_setWage 26 = .ok (.iconst 2, 1) := by decide +kernel
theorem dX1_setWage_27 : decode cX1_setWage 27 = .ok (.invokevirtual 77, 3) := by decide +kernel
theorem dX1_setWage_30 : decode cX1_setWage 30 = .ok (.ifCond .ne 5, 3) := by decide +kernel
theorem dX1_setWage_33 : decode cX1_setWage 33 = .ok (.iconst 0, 1) := by decide +kernel
theorem dX1_setWage_34 : decode cX1_setWage 34 = .ok (.ireturn, 1) := by decide +kernel
theorem dX1_setWage_35 : decode cX1_setWage 35 = .ok (.aload_n 0, 1) := by decide +kernel
theorem dX1_setWage_36 : decode cX1_setWage 36 = .ok (.getfield 30, 3) := by decide +kernel
theorem dX1_setWage_39 : decode cX1_setWage 39 = .ok (.iload_n 1, 1) := by decide +kernel
theorem dX1_setWage_40 : decode cX1_setWage 40 = .ok (.iaload, 1) := by decide +kernel
theorem dX1_setWage_41 : decode cX1_setWage 41 = .ok (.istore_n 3, 1) := by decide +kernel
theorem dX1_setWage_42 : decode cX1_setWage 42 = .ok (.aload_n 0, 1) := by decide +kernel
theorem dX1_setWage_43 : decode cX1_setWage 43 = .ok (.getfield 30, 3) := by decide +kernel
theorem dX1_setWage_46 : decode cX1_setWage 46 = .ok (.iload_n 1, 1) := by decide +kernel
theorem dX1_setWage_47 : decode cX1_setWage 47 = .ok (.iload_n 2, 1) := by decide +kernel
theorem dX1_setWage_48 : decode cX1_setWage 48 = .ok (.iastore, 1) := by decide +kernel
theorem dX1_setWage_49 : decode cX1_setWage 49 = .ok (.iload_n 3, 1) := by decide +kernel
theorem dX1_setWage_50 : decode cX1_setWage 50 = .ok (.ireturn, 1) := by decide +kernel
set_option maxRecDepth 20000 in
theorem ggX1_setRate_X1_isIn : GoodIn wsX1_setRate wsX1_isIn := goodIn_r _ [5] (by decide +kernel) (by decide +kernel)
set_option maxRecDepth 20000 in
theorem gX1_setRate_X1_isIn : GoodIn wsX1_setRate (va_wsS RX1 60 yX1_isIn wsX1_isIn) := goodIn_app (goodIn_of _ (by decide +kernel)) ggX1_setRate_X1_isIn
set_option maxRecDepth 20000 in
theorem ggX1_setRate_X1_goes : GoodIn wsX1_setRate wsX1_goes := goodIn_r _ [9, 10, 11, 12, 13, 14, 15, 16, 17, 18, 19, 20, 21, 22, 23, 24, 25, 26, 27, 28, 29] (by decide +kernel) (by decide +kernel)
set_option maxRecDepth 20000 in
theorem gX1_setRate_X1_goes : GoodIn wsX1_setRate (wsV RX1 77 RX1 yX1_goes wsX1_goes) := goodIn_app (goodIn_of _ (by decide +kernel)) ggX1_setRate_X1_goes
theorem dX1_setRate_0 : decode cX1_setRate 0 = .ok (.aload_n 0, 1) := by decide +kernel
theorem dX1_setRate_1 : decode cX1_setRate 1 = .ok (.iload_n 1, 1) := by decide +kernel
theorem dX1_setRate_2 : decode cX1_setRate 2 = .ok (.iconst 0, 1) := by decide +kernel
theorem dX1_setRate_3 : decode cX1_setRate 3 = .ok (.bipush 9, 2) := by decide +kernel
theorem dX1_setRate_5 : decode cX1_setRate 5 = .ok (.invokestatic 60, 3) := by decide +kernel
theorem dX1_setRate_8 : decode cX1_setRate 8 = .ok (.ifCond .eq 7, 3) := by decide +kernel
theorem dX1_setRate_11 : decode cX1_setRate 11 = .ok (.iconst 0, 1) := by decide +kernel
theorem dX1_setRate_12 : decode cX1_setRate 12 = .ok (.goto 4, 3) := by decide +kernel
theorem dX1_setRate_15 : decode cX1_setRate 15 = .ok (.iconst 1, 1) := by decide +kernel
theorem dX1_setRate_16 : decode cX1_setRate 16 = .ok (.invokevirtual 77, 3) := by decide +kernel
theorem dX1_setRate_19 : decode cX1_setRate 19 = .ok (.ifCond .ne 5, 3) := by decide +kernel
theorem dX1_setRate_22 : decode cX1_setRate 22 = .ok (.iconst 0, 1) := by decide +kernel
theorem dX1_setRate_23 : decode cX1_setRate 23 = .ok (.ireturn, 1) := by decide +kernel
theorem dX1_setRate_24 : decode cX1_setRate 24 = .ok (.aload_n 0, 1) := by decide +kernel
theorem dX1_setRate_25 : decode cX1_setRate 25 = .ok (.getfield 7, 3) := by decide +kernel
theorem dX1_setRate_28 : decode cX1_setRate 28 = .ok (.istore_n 2, 1) := by decide +kernel
theorem dX1_setRate_29 : decode cX1_setRate 29 = .ok (.aload_n 0, 1) := by decide +kernel
theorem dX1_setRate_30 : decode cX1_setRate 30 = .ok (.iload_n 1, 1) := by decide +kernel
theorem dX1_setRate_31 : decode cX1_setRate 31 = .ok (.putfield 7, 3) := by decide +kernel
theorem dX1_setRate_34 : decode cX1_setRate 34 = .ok (.iload_n 2, 1) := by decide +kernel
theorem dX1_setRate_35 : decode cX1_setRate 35 = .ok (.ireturn, 1) := by decide +kernel
theorem dX1_lowestFree_0 : decode cX1_lowestFree 0 = .ok (.iconst (-1), 1) := by decide +kernel
theorem dX1_lowestFree_1 : decode cX1_lowestFree 1 = .ok (.istore_n 1, 1) := by decide +kernel
theorem dX1_lowestFree_2 : decode cX1_lowestFree 2 = .ok (.bipush 11, 2) := by decide +kernel
theorem dX1_lowestFree_4 : decode cX1_lowestFree 4 = .ok (.istore_n 2, 1) := by decide +kernel
theorem dX1_lowestFree_5 : decode cX1_lowestFree 5 = .ok (.iload_n 2, 1) := by decide +kernel
theorem dX1_lowestFree_6 : decode cX1_lowestFree 6 = .ok (.ifCond .lt 25, 3) := by decide +kernel
theorem dX1_lowestFree_9 : decode cX1_lowestFree 9 = .ok (.aload_n 0, 1) := by decide +kernel
theorem dX1_lowestFree_10 : decode cX1_lowestFree 10 = .ok (.getfield 13, 3) := by decide +kernel
theorem dX1_lowestFree_13 : decode cX1_lowestFree 13 = .ok (.iload_n 2, 1) := by decide +kernel
theorem dX1_lowestFree_14 : decode cX1_lowestFree 14 = .ok (.iaload, 1) := by decide +kernel
theorem dX1_lowestFree_15 : decode cX1_lowestFree 15 = .ok (.iconst (-1), 1) := by decide +kernel
theorem dX1_lowestFree_16 : decode cX1_lowestFree 16 = .ok (.if_icmp .ne 7, 3) := by decide +kernel
theorem dX1_lowestFree_19 : decode cX1_lowestFree 19 = .ok (.iload_n 2, 1) := by decide +kernel
theorem dX1_lowestFree_20 : decode cX1_lowestFree 20 = .ok (.goto 4, 3) := by decide +kernel
theorem dX1_lowestFree_23 : decode cX1_lowestFree 23 = .ok (.iload_n 1, 1) := by decide +kernel
theorem dX1_lowestFree_24 : decode cX1_lowestFree 24 = .ok (.istore_n 1, 1) := by decide +kernel
theorem dX1_lowestFree_25 : decode cX1_lowestFree 25 = .ok (.iinc 2 (-1), 3) := by decide +kernel
theorem dX1_lowestFree_28 : decode cX1_lowestFree 28 = .ok (.goto (-23), 3) := by decide +kernel
theorem dX1_lowestFree_31 : decode cX1_lowestFree 31 = .ok (.iload_n 1, 1) := by decide +kernel
theorem dX1_lowestFree_32 : decode cX1_lowestFree 32 = .ok (.ireturn, 1) := by decide +kernel
set_option maxRecDepth 20000 in
theorem ggX1_buy_X1_lowestFree : GoodIn wsX1_buy wsX1_lowestFree := goodIn_r _ [8, 3, 20, 21, 22, 23, 24, 25, 26, 27, 28, 29, 30, 31, 32, 33, 34, 35, 36, 37, 38] (by decide +kernel) (by decide +kernel)
set_option maxRecDepth 20000 in
theorem gX1_buy_X1_lowestFree : GoodIn wsX1_buy (wsV RX1 80 RX1 yX1_lowestFree wsX1_lowestFree) := goodIn_app (goodIn_of _ (by decide +kernel)) ggX1_buy_X1_lowestFree
set_option maxRecDepth 20000 in
theorem ggX1_buy_X1_isProcess : GoodIn wsX1_buy wsX1_isProcess := goodIn_r _ [11, 12, 13, 7, 14] (by decide +kernel) (by decide +kernel)
set_option maxRecDepth 20000 in
theorem gX1_buy_X1_isProcess : GoodIn wsX1_buy (va_wsS RX1 74 yX1_isProcess wsX1_isProcess) := goodIn_app (goodIn_of _ (by decide +kernel)) ggX1_buy_X1_isProcess
set_option maxRecDepth 20000 in
theorem ggX1_buy_X1_goes : GoodIn wsX1_buy wsX1_goes := goodIn_r _ [18, 19, 20, 21, 22, 23, 24, 25, 26, 27, 28, 29, 30, 31, 32, 33, 34, 35, 36, 37, 38] (by decide +kernel) (by decide +kernel)
set_option maxRecDepth 20000 in
theorem gX1_buy_X1_goes : GoodIn wsX1_buy (wsV RX1 77 RX1 yX1_goes wsX1_goes) := goodIn_app (goodIn_of _ (by decide +kernel)) ggX1_buy_X1_goes
theorem dX1_buy_0 : decode cX1_buy 0 = .ok (.aload_n 0, 1) := by decide +kernel
theorem dX1_buy_1 : decode cX1_buy 1 = .ok (.invokevirtual 80, 3) := by decide +kernel
theorem dX1_buy_4 : decode cX1_buy 4 = .ok (.istore_n 2, 1) := by decide +kernel
theorem dX1_buy_5 : decode cX1_buy 5 = .ok (.aload_n 0, 1) := by decide +kernel
theorem dX1_buy_6 : decode cX1_buy 6 = .ok (.iload_n 1, 1) := by decide +kernel
theorem dX1_buy_7 : decode cX1_buy 7 = .ok (.invokestatic 74, 3) := by decide +kernel
theorem dX1_buy_10 : decode cX1_buy 10 = .ok (.ifCond .eq 7, 3) := by decide +kernel
theorem dX1_buy_13 : decode cX1_buy 13 = .ok (.iconst 0, 1) := by decide +kernel
theorem dX1_buy_14 : decode cX1_buy 14 = .ok (.goto 4, 3) := by decide +kernel
theorem dX1_buy_17 : decode cX1_buy 17 = .ok (.iconst 1, 1) := by decide +kernel
theorem dX1_buy_18 : decode cX1_buy 18 = .ok (.invokevirtual 77, 3) := by decide +kernel
theorem dX1_buy_21 : decode cX1_buy 21 = .ok (.ifCond .eq 41, 3) := by decide +kernel
theorem dX1_buy_24 : decode cX1_buy 24 = .ok (.aload_n 0, 1) := by decide +kernel
theorem dX1_buy_25 : decode cX1_buy 25 = .ok (.aload_n 0, 1) := by decide +kernel
theorem dX1_buy_26 : decode cX1_buy 26 = .ok (.getfield 36, 3) := by decide +kernel
theorem dX1_buy_29 : decode cX1_buy 29 = .ok (.iload_n 1, 1) := by decide +kernel
theorem dX1_buy_30 : decode cX1_buy 30 = .ok (.iaload, 1) := by decide +kernel
theorem dX1_buy_31 : decode cX1_buy 31 = .ok (.iconst 2, 1) := by decide +kernel
theorem dX1_buy_32 : decode cX1_buy 32 = .ok (.if_icmp .eq 19, 3) := by decide +kernel
theorem dX1_buy_35 : decode cX1_buy 35 = .ok (.iload_n 2, 1) := by decide +kernel
theorem dX1_buy_36 : decode cX1_buy 36 = .ok (.iconst (-1), 1) := by decide +kernel
theorem dX1_buy_37 : decode cX1_buy 37 = .ok (.if_icmp .eq 14, 3) := by decide +kernel
theorem dX1_buy_40 : decode cX1_buy 40 = .ok (.aload_n 0, 1) := by decide +kernel
theorem dX1_buy_41 : decode cX1_buy 41 = .ok (.getfield 33, 3) := by decide +kernel
theorem dX1_buy_44 : decode cX1_buy 44 = .ok (.iload_n 1, 1) := by decide +kernel
theorem dX1_buy_45 : decode cX1_buy 45 = .ok (.iaload, 1) := by decide +kernel
theorem dX1_buy_46 : decode cX1_buy 46 = .ok (.bipush 8, 2) := by decide +kernel
theorem dX1_buy_48 : decode cX1_buy 48 = .ok (.if_icmp .ge 7, 3) := by decide +kernel
theorem dX1_buy_51 : decode cX1_buy 51 = .ok (.iconst 2, 1) := by decide +kernel
theorem dX1_buy_52 : decode cX1_buy 52 = .ok (.goto 4, 3) := by decide +kernel
theorem dX1_buy_55 : decode cX1_buy 55 = .ok (.iconst 0, 1) := by decide +kernel
theorem dX1_buy_56 : decode cX1_buy 56 = .ok (.invokevirtual 77, 3) := by decide +kernel
theorem dX1_buy_59 : decode cX1_buy 59 = .ok (.ifCond .ne 5, 3) := by decide +kernel
theorem dX1_buy_62 : decode cX1_buy 62 = .ok (.iconst 0, 1) := by decide +kernel
theorem dX1_buy_63 : decode cX1_buy 63 = .ok (.ireturn, 1) := by decide +kernel
theorem dX1_buy_64 : decode cX1_buy 64 = .ok (.aload_n 0, 1) := by decide +kernel
theorem dX1_buy_65 : decode cX1_buy 65 = .ok (.getfield 33, 3) := by decide +kernel
theorem dX1_buy_68 : decode cX1_buy 68 = .ok (.iload_n 1, 1) := by decide +kernel
theorem dX1_buy_69 : decode cX1_buy 69 = .ok (.dup2, 1) := by decide +kernel
theorem dX1_buy_70 : decode cX1_buy 70 = .ok (.iaload, 1) := by decide +kernel
theorem dX1_buy_71 : decode cX1_buy 71 = .ok (.bipush 8, 2) := by decide +kernel
theorem dX1_buy_73 : decode cX1_buy 73 = .ok (.isub, 1) := by decide +kernel
theorem dX1_buy_74 : decode cX1_buy 74 = .ok (.iastore, 1) := by decide +kernel
theorem dX1_buy_75 : decode cX1_buy 75 = .ok (.aload_n 0, 1) := by decide +kernel
theorem dX1_buy_76 : decode cX1_buy 76 = .ok (.getfield 13, 3) := by decide +kernel
theorem dX1_buy_79 : decode cX1_buy 79 = .ok (.iload_n 2, 1) := by decide +kernel
theorem dX1_buy_80 : decode cX1_buy 80 = .ok (.iload_n 1, 1) := by decide +kernel
theorem dX1_buy_81 : decode cX1_buy 81 = .ok (.iastore, 1) := by decide +kernel
theorem dX1_buy_82 : decode cX1_buy 82 = .ok (.iload_n 2, 1) := by decide +kernel
theorem dX1_buy_83 : decode cX1_buy 83 = .ok (.ireturn, 1) := by decide +kernel
set_option maxRecDepth 20000 in
theorem ggX1_sell_X1_isFrame : GoodIn wsX1_sell wsX1_isFrame := goodIn_r _ [8, 9, 10, 7, 11] (by decide +kernel) (by decide +kernel)
set_option maxRecDepth 20000 in
theorem gX1_sell_X1_isFrame : GoodIn wsX1_sell (va_wsS RX1 84 yX1_isFrame wsX1_isFrame) := goodIn_app (goodIn_of _ (by decide +kernel)) ggX1_sell_X1_isFrame
set_option maxRecDepth 20000 in
theorem ggX1_sell_X1_goes : GoodIn wsX1_sell wsX1_goes := goodIn_r _ [15, 16, 22, 23, 24, 25, 26, 27, 28, 29, 30, 31, 32, 33, 34, 35, 36, 37, 38, 39, 40] (by decide +kernel) (by decide +kernel)
set_option maxRecDepth 20000 in
theorem gX1_sell_X1_goes : GoodIn wsX1_sell (wsV RX1 77 RX1 yX1_goes wsX1_goes) := goodIn_app (goodIn_of _ (by decide +kernel)) ggX1_sell_X1_goes
set_option maxRecDepth 20000 in
theorem ggX1_sell_X1_isEmpty : GoodIn wsX1_sell wsX1_isEmpty := goodIn_r _ [20, 21, 22, 23, 24, 25, 26, 27, 28, 29, 30, 31, 32, 33, 34, 35, 36, 37, 38, 39, 40] (by decide +kernel) (by decide +kernel)
set_option maxRecDepth 20000 in
theorem gX1_sell_X1_isEmpty : GoodIn wsX1_sell (wsV RX1 87 RX1 yX1_isEmpty wsX1_isEmpty) := goodIn_app (goodIn_of _ (by decide +kernel)) ggX1_sell_X1_isEmpty
theorem dX1_sell_0 : decode cX1_sell 0 = .ok (.aload_n 0, 1) := by decide +kernel
theorem dX1_sell_1 : decode cX1_sell 1 = .ok (.iload_n 1, 1) := by decide +kernel
theorem dX1_sell_2 : decode cX1_sell 2 = .ok (.invokestatic 84, 3) := by decide +kernel
theorem dX1_sell_5 : decode cX1_sell 5 = .ok (.ifCond .eq 7, 3) := by decide +kernel
theorem dX1_sell_8 : decode cX1_sell 8 = .ok (.iconst 0, 1) := by decide +kernel
theorem dX1_sell_9 : decode cX1_sell 9 = .ok (.goto 4, 3) := by decide +kernel
theorem dX1_sell_12 : decode cX1_sell 12 = .ok (.iconst 1, 1) := by decide +kernel
theorem dX1_sell_13 : decode cX1_sell 13 = .ok (.invokevirtual 77, 3) := by decide +kernel
theorem dX1_sell_16 : decode cX1_sell 16 = .ok (.ifCond .ne 5, 3) := by decide +kernel
theorem dX1_sell_19 : decode cX1_sell 19 = .ok (.iconst 0, 1) := by decide +kernel
theorem dX1_sell_20 : decode cX1_sell 20 = .ok (.ireturn, 1) := by decide +kernel
theorem dX1_sell_21 : decode cX1_sell 21 = .ok (.aload_n 0, 1) := by decide +kernel
theorem dX1_sell_22 : decode cX1_sell 22 = .ok (.getfield 13, 3) := by decide +kernel
theorem dX1_sell_25 : decode cX1_sell 25 = .ok (.iload_n 1, 1) := by decide +kernel
theorem dX1_sell_26 : decode cX1_sell 26 = .ok (.iaload, 1) := by decide +kernel
theorem dX1_sell_27 : decode cX1_sell 27 = .ok (.istore_n 2, 1) := by decide +kernel
theorem dX1_sell_28 : decode cX1_sell 28 = .ok (.aload_n 0, 1) := by decide +kernel
theorem dX1_sell_29 : decode cX1_sell 29 = .ok (.iload_n 2, 1) := by decide +kernel
theorem dX1_sell_30 : decode cX1_sell 30 = .ok (.iconst (-1), 1) := by decide +kernel
theorem dX1_sell_31 : decode cX1_sell 31 = .ok (.if_icmp .eq 31, 3) := by decide +kernel
theorem dX1_sell_34 : decode cX1_sell 34 = .ok (.aload_n 0, 1) := by decide +kernel
theorem dX1_sell_35 : decode cX1_sell 35 = .ok (.getfield 27, 3) := by decide +kernel
theorem dX1_sell_38 : decode cX1_sell 38 = .ok (.iload_n 1, 1) := by decide +kernel
theorem dX1_sell_39 : decode cX1_sell 39 = .ok (.iaload, 1) := by decide +kernel
theorem dX1_sell_40 : decode cX1_sell 40 = .ok (.iconst (-1), 1) := by decide +kernel
theorem dX1_sell_41 : decode cX1_sell 41 = .ok (.if_icmp .ne 21, 3) := by decide +kernel
theorem dX1_sell_44 : decode cX1_sell 44 = .ok (.aload_n 0, 1) := by decide +kernel
theorem dX1_sell_45 : decode cX1_sell 45 = .ok (.iload_n 1, 1) := by decide +kernel
theorem dX1_sell_46 : decode cX1_sell 46 = .ok (.invokevirtual 87, 3) := by decide +kernel
theorem dX1_sell_49 : decode cX1_sell 49 = .ok (.ifCond .eq 13, 3) := by decide +kernel
theorem dX1_sell_52 : decode cX1_sell 52 = .ok (.aload_n 0, 1) := by decide +kernel
theorem dX1_sell_53 : decode cX1_sell 53 = .ok (.getfield 36, 3) := by decide +kernel
theorem dX1_sell_56 : decode cX1_sell 56 = .ok (.iload_n 2, 1) := by decide +kernel
theorem dX1_sell_57 : decode cX1_sell 57 = .ok (.iaload, 1) := by decide +kernel
theorem dX1_sell_58 : decode cX1_sell 58 = .ok (.iconst 2, 1) := by decide +kernel
theorem dX1_sell_59 : decode cX1_sell 59 = .ok (.if_icmp .ne 7, 3) := by decide +kernel
theorem dX1_sell_62 : decode cX1_sell 62 = .ok (.iconst 2, 1) := by decide +kernel
theorem dX1_sell_63 : decode cX1_sell 63 = .ok (.goto 4, 3) := by decide +kernel
theorem dX1_sell_66 : decode cX1_sell 66 = .ok (.iconst 0, 1) := by decide +kernel
theorem dX1_sell_67 : decode cX1_sell 67 = .ok (.invokevirtual 77, 3) := by decide +kernel
theorem dX1_sell_70 : decode cX1_sell 70 = .ok (.ifCond .ne 5, 3) := by decide +kernel
theorem dX1_sell_73 : decode cX1_sell 73 = .ok (.iconst 0, 1) := by decide +kernel
theorem dX1_sell_74 : decode cX1_sell 74 = .ok (.ireturn, 1) := by decide +kernel
theorem dX1_sell_75 : decode cX1_sell 75 = .ok (.aload_n 0, 1) := by decide +kernel
theorem dX1_sell_76 : decode cX1_sell 76 = .ok (.getfield 33, 3) := by decide +kernel
theorem dX1_sell_79 : decode cX1_sell 79 = .ok (.iload_n 2, 1) := by decide +kernel
theorem dX1_sell_80 : decode cX1_sell 80 = .ok (.dup2, 1) := by decide +kernel
theorem dX1_sell_81 : decode cX1_sell 81 = .ok (.iaload, 1) := by decide +kernel
theorem dX1_sell_82 : decode cX1_sell 82 = .ok (.iconst 4, 1) := by decide +kernel
theorem dX1_sell_83 : decode cX1_sell 83 = .ok (.iadd, 1) := by decide +kernel
theorem dX1_sell_84 : decode cX1_sell 84 = .ok (.iastore, 1) := by decide +kernel
theorem dX1_sell_85 : decode cX1_sell 85 = .ok (.aload_n 0, 1) := by decide +kernel
theorem dX1_sell_86 : decode cX1_sell 86 = .ok (.getfield 13, 3) := by decide +kernel
theorem dX1_sell_89 : decode cX1_sell 89 = .ok (.iload_n 1, 1) := by decide +kernel
theorem dX1_sell_90 : decode cX1_sell 90 = .ok (.iconst (-1), 1) := by decide +kernel
theorem dX1_sell_91 : decode cX1_sell 91 = .ok (.iastore, 1) := by decide +kernel
theorem dX1_sell_92 : decode cX1_sell 92 = .ok (.aload_n 0, 1) := by decide +kernel
theorem dX1_sell_93 : decode cX1_sell 93 = .ok (.getfield 33, 3) := by decide +kernel
theorem dX1_sell_96 : decode cX1_sell 96 = .ok (.iload_n 2, 1) := by decide +kernel
theorem dX1_sell_97 : decode cX1_sell 97 = .ok (.iaload, 1) := by decide +kernel
theorem dX1_sell_98 : decode cX1_sell 98 = .ok (.ireturn, 1) := by decide +kernel
set_option maxRecDepth 20000 in
theorem ggX1_drop_X1_isFrame : GoodIn wsX1_drop wsX1_isFrame := goodIn_r _ [5, 6, 7, 4, 8] (by decide +kernel) (by decide +kernel)
set_option maxRecDepth 20000 in
theorem gX1_drop_X1_isFrame : GoodIn wsX1_drop (va_wsS RX1 84 yX1_isFrame wsX1_isFrame) := goodIn_app (goodIn_of _ (by decide +kernel)) ggX1_drop_X1_isFrame
set_option maxRecDepth 20000 in
theorem ggX1_drop_X1_hasPage : GoodIn wsX1_drop wsX1_hasPage := goodIn_r _ [12, 1, 13, 19, 20, 21, 22, 23, 24, 25, 26, 27, 28, 29, 30, 31, 32, 33, 34, 35, 36, 37] (by decide +kernel) (by decide +kernel)
set_option maxRecDepth 20000 in
theorem gX1_drop_X1_hasPage : GoodIn wsX1_drop (wsV RX1 67 RX1 yX1_hasPage wsX1_hasPage) := goodIn_app (goodIn_of _ (by decide +kernel)) ggX1_drop_X1_hasPage
set_option maxRecDepth 20000 in
theorem ggX1_drop_X1_goes : GoodIn wsX1_drop wsX1_goes := goodIn_r _ [17, 18, 19, 20, 21, 22, 23, 24, 25, 26, 27, 28, 29, 30, 31, 32, 33, 34, 35, 36, 37] (by decide +kernel) (by decide +kernel)
set_option maxRecDepth 20000 in
theorem gX1_drop_X1_goes : GoodIn wsX1_drop (wsV RX1 77 RX1 yX1_goes wsX1_goes) := goodIn_app (goodIn_of _ (by decide +kernel)) ggX1_drop_X1_goes
theorem dX1_drop_0 : decode cX1_drop 0 = .ok (.aload_n 0, 1) := by decide +kernel
theorem dX1_drop_1 : decode cX1_drop 1 = .ok (.iload_n 1, 1) := by decide +kernel
theorem dX1_drop_2 : decode cX1_drop 2 = .ok (.invokestatic 84, 3) := by decide +kernel
theorem dX1_drop_5 : decode cX1_drop 5 = .ok (.ifCond .ne 7, 3) := by decide +kernel
theorem dX1_drop_8 : decode cX1_drop 8 = .ok (.iconst 1, 1) := by decide +kernel
theorem dX1_drop_9 : decode cX1_drop 9 = .ok (.goto 16, 3) := by decide +kernel
theorem dX1_drop_12 : decode cX1_drop 12 = .ok (.aload_n 0, 1) := by decide +kernel
theorem dX1_drop_13 : decode cX1_drop 13 = .ok (.iload_n 1, 1) := by decide +kernel
theorem dX1_drop_14 : decode cX1_drop 14 = .ok (.invokevirtual 67, 3) := by decide +kernel
theorem dX1_drop_17 : decode cX1_drop 17 = .ok (.ifCond .eq 7, 3) := by decide +kernel
theorem dX1_drop_20 : decode cX1_drop 20 = .ok (.iconst 0, 1) := by decide +kernel
theorem dX1_drop_21 : decode cX1_drop 21 = .ok (.goto 4, 3) := by decide +kernel
theorem dX1_drop_24 : decode cX1_drop 24 = .ok (.iconst 2, 1) := by decide +kernel
theorem dX1_drop_25 : decode cX1_drop 25 = .ok (.invokevirtual 77, 3) := by decide +kernel
theorem dX1_drop_28 : decode cX1_drop 28 = .ok (.ifCond .ne 5, 3) := by decide +kernel
theorem dX1_drop_31 : decode cX1_drop 31 = .ok (.iconst 0, 1) := by decide +kernel
theorem dX1_drop_32 : decode cX1_drop 32 = .ok (.ireturn, 1) := by decide +kernel
theorem dX1_drop_33 : decode cX1_drop 33 = .ok (.aload_n 0, 1) := by decide +kernel
theorem dX1_drop_34 : decode cX1_drop 34 = .ok (.getfield 17, 3) := by decide +kernel
theorem dX1_drop_37 : decode cX1_drop 37 = .ok (.iload_n 1, 1) := by decide +kernel
theorem dX1_drop_38 : decode cX1_drop 38 = .ok (.iaload, 1) := by decide +kernel
theorem dX1_drop_39 : decode cX1_drop 39 = .ok (.istore_n 2, 1) := by decide +kernel
theorem dX1_drop_40 : decode cX1_drop 40 = .ok (.aload_n 0, 1) := by decide +kernel
theorem dX1_drop_41 : decode cX1_drop 41 = .ok (.getfield 17, 3) := by decide +kernel
theorem dX1_drop_44 : decode cX1_drop 44 = .ok (.iload_n 1, 1) := by decide +kernel
theorem dX1_drop_45 : decode cX1_drop 45 = .ok (.iconst (-1), 1) := by decide +kernel
theorem dX1_drop_46 : decode cX1_drop 46 = .ok (.iastore, 1) := by decide +kernel
theorem dX1_drop_47 : decode cX1_drop 47 = .ok (.iload_n 2, 1) := by decide +kernel
theorem dX1_drop_48 : decode cX1_drop 48 = .ok (.ireturn, 1) := by decide +kernel
set_option maxRecDepth 20000 in
theorem ggX1_frameWith_X1_holderOf : GoodIn wsX1_frameWith wsX1_holderOf := goodIn_r _ [6, 7, 8, 9, 10, 11, 12, 13, 14, 15, 16, 17, 18, 19, 20, 21, 22, 23, 24, 25, 26, 27, 28] (by decide +kernel) (by decide +kernel)
set_option maxRecDepth 20000 in
theorem gX1_frameWith_X1_holderOf : GoodIn wsX1_frameWith (wsV RX1 90 RX1 yX1_holderOf wsX1_holderOf) := goodIn_app (goodIn_of _ (by decide +kernel)) ggX1_frameWith_X1_holderOf
theorem dX1_frameWith_0 : decode cX1_frameWith 0 = .ok (.iconst (-1), 1) := by decide +kernel
theorem dX1_frameWith_1 : decode cX1_frameWith 1 = .ok (.istore_n 3, 1) := by decide +kernel
theorem dX1_frameWith_2 : decode cX1_frameWith 2 = .ok (.iconst 0, 1) := by decide +kernel
theorem dX1_frameWith_3 : decode cX1_frameWith 3 = .ok (.istore 4, 2) := by decide +kernel
theorem dX1_frameWith_5 : decode cX1_frameWith 5 = .ok (.iload 4, 2) := by decide +kernel
theorem dX1_frameWith_7 : decode cX1_frameWith 7 = .ok (.bipush 12, 2) := by decide +kernel
theorem dX1_frameWith_9 : decode cX1_frameWith 9 = .ok (.if_icmp .ge 37, 3) := by decide +kernel
theorem dX1_frameWith_12 : decode cX1_frameWith 12 = .ok (.aload_n 0, 1) := by decide +kernel
theorem dX1_frameWith_13 : decode cX1_frameWith 13 = .ok (.getfield 17, 3) := by decide +kernel
theorem dX1_frameWith_16 : decode cX1_frameWith 16 = .ok (.iload 4, 2) := by decide +kernel
theorem dX1_frameWith_18 : decode cX1_frameWith 18 = .ok (.iaload, 1) := by decide +kernel
theorem dX1_frameWith_19 : decode cX1_frameWith 19 = .ok (.iload_n 2, 1) := by decide +kernel
theorem dX1_frameWith_20 : decode cX1_frameWith 20 = .ok (.if_icmp .ne 18, 3) := by decide +kernel
theorem dX1_frameWith_23 : decode cX1_frameWith 23 = .ok (.aload_n 0, 1) := by decide +kernel
theorem dX1_frameWith_24 : decode cX1_frameWith 24 = .ok (.iload 4, 2) := by decide +kernel
theorem dX1_frameWith_26 : decode cX1_frameWith 26 = .ok (.invokevirtual 90, 3) := by decide +kernel
theorem dX1_frameWith_29 : decode cX1_frameWith 29 = .ok (.iload_n 1, 1) := by decide +kernel
theorem dX1_frameWith_30 : decode cX1_frameWith 30 = .ok (.if_icmp .ne 8, 3) := by decide +kernel
theorem dX1_frameWith_33 : decode cX1_frameWith 33 = .ok (.iload 4, 2) := by decide +kernel
theorem dX1_frameWith_35 : decode cX1_frameWith 35 = .ok (.goto 4, 3) := by decide +kernel
theorem dX1_frameWith_38 : decode cX1_frameWith 38 = .ok (.iload_n 3, 1) := by decide +kernel
theorem dX1_frameWith_39 : decode cX1_frameWith 39 = .ok (.istore_n 3, 1) := by decide +kernel
theorem dX1_frameWith_40 : decode cX1_frameWith 40 = .ok (.iinc 4 1, 3) := by decide +kernel
theorem dX1_frameWith_43 : decode cX1_frameWith 43 = .ok (.goto (-38), 3) := by decide +kernel
theorem dX1_frameWith_46 : decode cX1_frameWith 46 = .ok (.iload_n 3, 1) := by decide +kernel
theorem dX1_frameWith_47 : decode cX1_frameWith 47 = .ok (.ireturn, 1) := by decide +kernel
set_option maxRecDepth 20000 in
theorem ggX1_emptyOf_X1_holderOf : GoodIn wsX1_emptyOf wsX1_holderOf := goodIn_r _ [5, 6, 7, 8, 14, 15, 16, 17, 18, 19, 20, 21, 22, 23, 24, 25, 26, 27, 28, 29, 30, 31, 32] (by decide +kernel) (by decide +kernel)
set_option maxRecDepth 20000 in
theorem gX1_emptyOf_X1_holderOf : GoodIn wsX1_emptyOf (wsV RX1 90 RX1 yX1_holderOf wsX1_holderOf) := goodIn_app (goodIn_of _ (by decide +kernel)) ggX1_emptyOf_X1_holderOf
set_option maxRecDepth 20000 in
theorem ggX1_emptyOf_X1_isEmpty : GoodIn wsX1_emptyOf wsX1_isEmpty := goodIn_r _ [12, 13, 14, 15, 16, 17, 18, 19, 20, 21, 22, 23, 24, 25, 26, 27, 28, 29, 30, 31, 32] (by decide +kernel) (by decide +kernel)
set_option maxRecDepth 20000 in
theorem gX1_emptyOf_X1_isEmpty : GoodIn wsX1_emptyOf (wsV RX1 87 RX1 yX1_isEmpty wsX1_isEmpty) := goodIn_app (goodIn_of _ (by decide +kernel)) ggX1_emptyOf_X1_isEmpty
theorem dX1_emptyOf_0 : decode cX1_emptyOf 0 = .ok (.iconst (-1), 1) := by decide +kernel
theorem dX1_emptyOf_1 : decode cX1_emptyOf 1 = .ok (.istore_n 2, 1) := by decide +kernel
theorem dX1_emptyOf_2 : decode cX1_emptyOf 2 = .ok (.bipush 11, 2) := by decide +kernel
theorem dX1_emptyOf_4 : decode cX1_emptyOf 4 = .ok (.istore_n 3, 1) := by decide +kernel
theorem dX1_emptyOf_5 : decode cX1_emptyOf 5 = .ok (.iload_n 3, 1) := by decide +kernel
theorem dX1_emptyOf_6 : decode cX1_emptyOf 6 = .ok (.ifCond .lt 32, 3) := by decide +kernel
theorem dX1_emptyOf_9 : decode cX1_emptyOf 9 = .ok (.aload_n 0, 1) := by decide +kernel
theorem dX1_emptyOf_10 : decode cX1_emptyOf 10 = .ok (.iload_n 3, 1) := by decide +kernel
theorem dX1_emptyOf_11 : decode cX1_emptyOf 11 = .ok (.invokevirtual 90, 3) := by decide +kernel
theorem dX1_emptyOf_14 : decode cX1_emptyOf 14 = .ok (.iload_n 1, 1) := by decide +kernel
theorem dX1_emptyOf_15 : decode cX1_emptyOf 15 = .ok (.if_icmp .ne 15, 3) := by decide +kernel
theorem dX1_emptyOf_18 : decode cX1_emptyOf 18 = .ok (.aload_n 0, 1) := by decide +kernel
theorem dX1_emptyOf_19 : decode cX1_emptyOf 19 = .ok (.iload_n 3, 1) := by decide +kernel
theorem dX1_emptyOf_20 : decode cX1_emptyOf 20 = .ok (.invokevirtual 87, 3) := by decide +kernel
theorem dX1_emptyOf_23 : decode cX1_emptyOf 23 = .ok (.ifCond .eq 7, 3) := by decide +kernel
theorem dX1_emptyOf_26 : decode cX1_emptyOf 26 = .ok (.iload_n 3, 1) := by decide +kernel
theorem dX1_emptyOf_27 : decode cX1_emptyOf 27 = .ok (.goto 4, 3) := by decide +kernel
theorem dX1_emptyOf_30 : decode cX1_emptyOf 30 = .ok (.iload_n 2, 1) := by decide +kernel
theorem dX1_emptyOf_31 : decode cX1_emptyOf 31 = .ok (.istore_n 2, 1) := by decide +kernel
theorem dX1_emptyOf_32 : decode cX1_emptyOf 32 = .ok (.iinc 3 (-1), 3) := by decide +kernel
theorem dX1_emptyOf_35 : decode cX1_emptyOf 35 = .ok (.goto (-30), 3) := by decide +kernel
theorem dX1_emptyOf_38 : decode cX1_emptyOf 38 = .ok (.iload_n 2, 1) := by decide +kernel
theorem dX1_emptyOf_39 : decode cX1_emptyOf 39 = .ok (.ireturn, 1) := by decide +kernel
set_option maxRecDepth 20000 in
theorem ggX1_calledIn_X1_doesLast : GoodIn wsX1_calledIn wsX1_doesLast := goodIn_r _ [8, 9, 3, 16, 17, 18, 19, 20, 21, 22, 23, 24, 25, 26, 27, 28, 29, 30, 31, 32, 33, 34] (by decide +kernel) (by decide +kernel)
set_option maxRecDepth 20000 in
theorem gX1_calledIn_X1_doesLast : GoodIn wsX1_calledIn (wsV RX1 94 RX1 yX1_doesLast wsX1_doesLast) := goodIn_app (goodIn_of _ (by decide +kernel)) ggX1_calledIn_X1_doesLast
set_option maxRecDepth 20000 in
theorem ggX1_calledIn_X1_isComing : GoodIn wsX1_calledIn wsX1_isComing := goodIn_r _ [13, 14, 15, 16, 17, 18, 19, 20, 21, 22, 23, 24, 25, 26, 27, 28, 29, 30, 31, 32, 33, 34] (by decide +kernel) (by decide +kernel)
set_option maxRecDepth 20000 in
theorem gX1_calledIn_X1_isComing : GoodIn wsX1_calledIn (wsV RX1 97 RX1 yX1_isComing wsX1_isComing) := goodIn_app (goodIn_of _ (by decide +kernel)) ggX1_calledIn_X1_isComing
theorem dX1_calledIn_0 : decode cX1_calledIn 0 = .ok (.iconst (-1), 1) := by decide +kernel
theorem dX1_calledIn_1 : decode cX1_calledIn 1 = .ok (.istore_n 2, 1) := by decide +kernel
theorem dX1_calledIn_2 : decode cX1_calledIn 2 = .ok (.aload_n 0, 1) := by decide +kernel
theorem dX1_calledIn_3 : decode cX1_calledIn 3 = .ok (.getfield 64, 3) := by decide +kernel
theorem dX1_calledIn_6 : decode cX1_calledIn 6 = .ok (.iconst 1, 1) := by decide +kernel
theorem dX1_calledIn_7 : decode cX1_calledIn 7 = .ok (.isub, 1) := by decide +kernel
theorem dX1_calledIn_8 : decode cX1_calledIn 8 = .ok (.istore_n 3, 1) := by decide +kernel
theorem dX1_calledIn_9 : decode cX1_calledIn 9 = .ok (.iload_n 3, 1) := by decide +kernel
theorem dX1_calledIn_10 : decode cX1_calledIn 10 = .ok (.ifCond .lt 46, 3) := by decide +kernel
theorem dX1_calledIn_13 : decode cX1_calledIn 13 = .ok (.aload_n 0, 1) := by decide +kernel
theorem dX1_calledIn_14 : decode cX1_calledIn 14 = .ok (.getfield 45, 3) := by decide +kernel
theorem dX1_calledIn_17 : decode cX1_calledIn 17 = .ok (.iload_n 3, 1) := by decide +kernel
theorem dX1_calledIn_18 : decode cX1_calledIn 18 = .ok (.iaload, 1) := by decide +kernel
theorem dX1_calledIn_19 : decode cX1_calledIn 19 = .ok (.iload_n 1, 1) := by decide +kernel
theorem dX1_calledIn_20 : decode cX1_calledIn 20 = .ok (.if_icmp .ne 28, 3) := by decide +kernel
theorem dX1_calledIn_23 : decode cX1_calledIn 23 = .ok (.aload_n 0, 1) := by decide +kernel
theorem dX1_calledIn_24 : decode cX1_calledIn 24 = .ok (.iload_n 3, 1) := by decide +kernel
theorem dX1_calledIn_25 : decode cX1_calledIn 25 = .ok (.invokevirtual 94, 3) := by decide +kernel
theorem dX1_calledIn_28 : decode cX1_calledIn 28 = .ok (.ifCond .eq 20, 3) := by decide +kernel
theorem dX1_calledIn_31 : decode cX1_calledIn 31 = .ok (.aload_n 0, 1) := by decide +kernel
theorem dX1_calledIn_32 : decode cX1_calledIn 32 = .ok (.aload_n 0, 1) := by decide +kernel
theorem dX1_calledIn_33 : decode cX1_calledIn 33 = .ok (.getfield 42, 3) := by decide +kernel
theorem dX1_calledIn_36 : decode cX1_calledIn 36 = .ok (.iload_n 3, 1) := by decide +kernel
theorem dX1_calledIn_37 : decode cX1_calledIn 37 = .ok (.iaload, 1) := by decide +kernel
theorem dX1_calledIn_38 : decode cX1_calledIn 38 = .ok (.invokevirtual 97, 3) := by decide +kernel
theorem dX1_calledIn_41 : decode cX1_calledIn 41 = .ok (.ifCond .ne 7, 3) := by decide +kernel
theorem dX1_calledIn_44 : decode cX1_calledIn 44 = .ok (.iload_n 3, 1) := by decide +kernel
theorem dX1_calledIn_45 : decode cX1_calledIn 45 = .ok (.goto 4, 3) := by decide +kernel
theorem dX1_calledIn_48 : decode cX1_calledIn 48 = .ok (.iload_n 2, 1) := by decide +kernel
theorem dX1_calledIn_49 : decode cX1_calledIn 49 = .ok (.istore_n 2, 1) := by decide +kernel
theorem dX1_calledIn_50 : decode cX1_calledIn 50 = .ok (.iinc 3 (-1), 3) := by decide +kernel
theorem dX1_calledIn_53 : decode cX1_calledIn 53 = .ok (.goto (-44), 3) := by decide +kernel
theorem dX1_calledIn_56 : decode cX1_calledIn 56 = .ok (.iload_n 2, 1) := by decide +kernel
theorem dX1_calledIn_57 : decode cX1_calledIn 57 = .ok (.ireturn, 1) := by decide +kernel
theorem dX1_borrowedBy_0 : decode cX1_borrowedBy 0 = .ok (.iconst 0, 1) := by decide +kernel
theorem dX1_borrowedBy_1 : decode cX1_borrowedBy 1 = .ok (.istore_n 2, 1) := by decide +kernel
theorem dX1_borrowedBy_2 : decode cX1_borrowedBy 2 = .ok (.iconst 0, 1) := by decide +kernel
theorem dX1_borrowedBy_3 : decode cX1_borrowedBy 3 = .ok (.istore_n 3, 1) := by decide +kernel
theorem dX1_borrowedBy_4 : decode cX1_borrowedBy 4 = .ok (.iload_n 3, 1) := by decide +kernel
theorem dX1_borrowedBy_5 : decode cX1_borrowedBy 5 = .ok (.bipush 12, 2) := by decide +kernel
theorem dX1_borrowedBy_7 : decode cX1_borrowedBy 7 = .ok (.if_icmp .ge 42, 3) := by decide +kernel
theorem dX1_borrowedBy_10 : decode cX1_borrowedBy 10 = .ok (.iload_n 2, 1) := by decide +kernel
theorem dX1_borrowedBy_11 : decode cX1_borrowedBy 11 = .ok (.aload_n 0, 1) := by decide +kernel
theorem dX1_borrowedBy_12 : decode cX1_borrowedBy 12 = .ok (.getfield 27, 3) := by decide +kernel
theorem dX1_borrowedBy_15 : decode cX1_borrowedBy 15 = .ok (.iload_n 3, 1) := by decide +kernel
theorem dX1_borrowedBy_16 : decode cX1_borrowedBy 16 = .ok (.iaload, 1) := by decide +kernel
theorem dX1_borrowedBy_17 : decode cX1_borrowedBy 17 = .ok (.iconst (-1), 1) := by decide +kernel
theorem dX1_borrowedBy_18 : decode cX1_borrowedBy 18 = .ok (.if_icmp .eq 22, 3) := by decide +kernel
theorem dX1_borrowedBy_21 : decode cX1_borrowedBy 21 = .ok (.aload_n 0, 1) := by decide +kernel
theorem dX1_borrowedBy_22 : decode cX1_borrowedBy 22 = .ok (.getfield 48, 3) := by decide +kernel
theorem dX1_borrowedBy_25 : decode cX1_borrowedBy 25 = .ok (.aload_n 0, 1) := by decide +kernel
theorem dX1_borrowedBy_26 : decode cX1_borrowedBy 26 = .ok (.getfield 27, 3) := by decide +kernel
theorem dX1_borrowedBy_29 : decode cX1_borrowedBy 29 = .ok (.iload_n 3, 1) := by decide +kernel
theorem dX1_borrowedBy_30 : decode cX1_borrowedBy 30 = .ok (.iaload, 1) := by decide +kernel
theorem dX1_borrowedBy_31 : decode cX1_borrowedBy 31 = .ok (.iaload, 1) := by decide +kernel
theorem dX1_borrowedBy_32 : decode cX1_borrowedBy 32 = .ok (.iload_n 1, 1) := by decide +kernel
theorem dX1_borrowedBy_33 : decode cX1_borrowedBy 33 = .ok (.if_icmp .ne 7, 3) := by decide +kernel
theorem dX1_borrowedBy_36 : decode cX1_borrowedBy 36 = .ok (.iconst 1, 1) := by decide +kernel
theorem dX1_borrowedBy_37 : decode cX1_borrowedBy 37 = .ok (.goto 4, 3) := by decide +kernel
theorem dX1_borrowedBy_40 : decode cX1_borrowedBy 40 = .ok (.iconst 0, 1) := by decide +kernel
theorem dX1_borrowedBy_41 : decode cX1_borrowedBy 41 = .ok (.iadd, 1) := by decide +kernel
theorem dX1_borrowedBy_42 : decode cX1_borrowedBy 42 = .ok (.istore_n 2, 1) := by decide +kernel
theorem dX1_borrowedBy_43 : decode cX1_borrowedBy 43 = .ok (.iinc 3 1, 3) := by decide +kernel
theorem dX1_borrowedBy_46 : decode cX1_borrowedBy 46 = .ok (.goto (-42), 3) := by decide +kernel
theorem dX1_borrowedBy_49 : decode cX1_borrowedBy 49 = .ok (.iload_n 2, 1) := by decide +kernel
theorem dX1_borrowedBy_50 : decode cX1_borrowedBy 50 = .ok (.ireturn, 1) := by decide +kernel
set_option maxRecDepth 20000 in
theorem ggX1_canLend_X1_isEmpty : GoodIn wsX1_canLend wsX1_isEmpty := goodIn_r _ [7, 8, 20, 21, 22, 23, 24, 25, 26, 27, 28, 29, 30, 31, 32, 33, 34, 35, 36, 37, 38] (by decide +kernel) (by decide +kernel)
set_option maxRecDepth 20000 in
theorem gX1_canLend_X1_isEmpty : GoodIn wsX1_canLend (wsV RX1 87 RX1 yX1_isEmpty wsX1_isEmpty) := goodIn_app (goodIn_of _ (by decide +kernel)) ggX1_canLend_X1_isEmpty
set_option maxRecDepth 20000 in
theorem ggX1_canLend_X1_ageOf : GoodIn wsX1_canLend wsX1_ageOf := goodIn_r _ [12, 13, 14, 15, 16, 17, 6, 18, 8, 19, 20, 21, 22, 23, 24, 25, 26, 27, 28, 29, 30, 31, 32, 33, 34, 35, 36, 37, 38] (by decide +kernel) (by decide +kernel)
set_option maxRecDepth 20000 in
theorem gX1_canLend_X1_ageOf : GoodIn wsX1_canLend (wsV RX1 100 RX1 yX1_ageOf wsX1_ageOf) := goodIn_app (goodIn_of _ (by decide +kernel)) ggX1_canLend_X1_ageOf
theorem dX1_canLend_0 : decode cX1_canLend 0 = .ok (.aload_n 0, 1) := by decide +kernel
theorem dX1_canLend_1 : decode cX1_canLend 1 = .ok (.getfield 13, 3) := by decide +kernel
theorem dX1_canLend_4 : decode cX1_canLend 4 = .ok (.iload_n 1, 1) := by decide +kernel
theorem dX1_canLend_5 : decode cX1_canLend 5 = .ok (.iaload, 1) := by decide +kernel
theorem dX1_canLend_6 : decode cX1_canLend 6 = .ok (.iload_n 2, 1) := by decide +kernel
theorem dX1_canLend_7 : decode cX1_canLend 7 = .ok (.if_icmp .ne 17, 3) := by decide +kernel
theorem dX1_canLend_10 : decode cX1_canLend 10 = .ok (.aload_n 0, 1) := by decide +kernel
theorem dX1_canLend_11 : decode cX1_canLend 11 = .ok (.getfield 27, 3) := by decide +kernel
theorem dX1_canLend_14 : decode cX1_canLend 14 = .ok (.iload_n 1, 1) := by decide +kernel
theorem dX1_canLend_15 : decode cX1_canLend 15 = .ok (.iaload, 1) := by decide +kernel
theorem dX1_canLend_16 : decode cX1_canLend 16 = .ok (.iconst (-1), 1) := by decide +kernel
theorem dX1_canLend_17 : decode cX1_canLend 17 = .ok (.if_icmp .ne 7, 3) := by decide +kernel
theorem dX1_canLend_20 : decode cX1_canLend 20 = .ok (.iconst 1, 1) := by decide +kernel
theorem dX1_canLend_21 : decode cX1_canLend 21 = .ok (.goto 4, 3) := by decide +kernel
theorem dX1_canLend_24 : decode cX1_canLend 24 = .ok (.iconst 0, 1) := by decide +kernel
theorem dX1_canLend_25 : decode cX1_canLend 25 = .ok (.istore_n 3, 1) := by decide +kernel
theorem dX1_canLend_26 : decode cX1_canLend 26 = .ok (.iload_n 3, 1) := by decide +kernel
theorem dX1_canLend_27 : decode cX1_canLend 27 = .ok (.ifCond .eq 24, 3) := by decide +kernel
theorem dX1_canLend_30 : decode cX1_canLend 30 = .ok (.aload_n 0, 1) := by decide +kernel
theorem dX1_canLend_31 : decode cX1_canLend 31 = .ok (.iload_n 1, 1) := by decide +kernel
theorem dX1_canLend_32 : decode cX1_canLend 32 = .ok (.invokevirtual 87, 3) := by decide +kernel
theorem dX1_canLend_35 : decode cX1_canLend 35 = .ok (.ifCond .ne 12, 3) := by decide +kernel
theorem dX1_canLend_38 : decode cX1_canLend 38 = .ok (.aload_n 0, 1) := by decide +kernel
theorem dX1_canLend_39 : decode cX1_canLend 39 = .ok (.iload_n 1, 1) := by decide +kernel
theorem dX1_canLend_40 : decode cX1_canLend 40 = .ok (.invokevirtual 100, 3) := by decide +kernel
theorem dX1_canLend_43 : decode cX1_canLend 43 = .ok (.iconst 5, 1) := by decide +kernel
theorem dX1_canLend_44 : decode cX1_canLend 44 = .ok (.if_icmp .lt 7, 3) := by decide +kernel
theorem dX1_canLend_47 : decode cX1_canLend 47 = .ok (.iconst 1, 1) := by decide +kernel
theorem dX1_canLend_48 : decode cX1_canLend 48 = .ok (.goto 4, 3) := by decide +kernel
theorem dX1_canLend_51 : decode cX1_canLend 51 = .ok (.iconst 0, 1) := by decide +kernel
theorem dX1_canLend_52 : decode cX1_canLend 52 = .ok (.ireturn, 1) := by decide +kernel
set_option maxRecDepth 20000 in
theorem ggX1_isLender_X1_canLend : GoodIn wsX1_isLender wsX1_canLend := goodIn_r _ [5, 6, 7, 8, 9, 10, 4, 11, 12, 13, 14, 15, 16, 17, 18, 19, 20, 21, 22, 23, 24, 25, 26, 27, 28, 29, 30, 31, 32, 33, 34, 35, 36, 37, 38, 39, 40, 41, 42] (by decide +kernel) (by decide +kernel)
set_option maxRecDepth 20000 in
theorem gX1_isLender_X1_canLend : GoodIn wsX1_isLender (wsV RX1 103 RX1 yX1_canLend wsX1_canLend) := goodIn_app (goodIn_of _ (by decide +kernel)) ggX1_isLender_X1_canLend
theorem dX1_isLender_0 : decode cX1_isLender 0 = .ok (.iconst 0, 1) := by decide +kernel
theorem dX1_isLender_1 : decode cX1_isLender 1 = .ok (.istore_n 2, 1) := by decide +kernel
theorem dX1_isLender_2 : decode cX1_isLender 2 = .ok (.iconst 0, 1) := by decide +kernel
theorem dX1_isLender_3 : decode cX1_isLender 3 = .ok (.istore_n 3, 1) := by decide +kernel
theorem dX1_isLender_4 : decode cX1_isLender 4 = .ok (.iload_n 3, 1) := by decide +kernel
theorem dX1_isLender_5 : decode cX1_isLender 5 = .ok (.bipush 12, 2) := by decide +kernel
theorem dX1_isLender_7 : decode cX1_isLender 7 = .ok (.if_icmp .ge 28, 3) := by decide +kernel
theorem dX1_isLender_10 : decode cX1_isLender 10 = .ok (.iload_n 2, 1) := by decide +kernel
theorem dX1_isLender_11 : decode cX1_isLender 11 = .ok (.ifCond .ne 12, 3) := by decide +kernel
theorem dX1_isLender_14 : decode cX1_isLender 14 = .ok (.aload_n 0, 1) := by decide +kernel
theorem dX1_isLender_15 : decode cX1_isLender 15 = .ok (.iload_n 3, 1) := by decide +kernel
theorem dX1_isLender_16 : decode cX1_isLender 16 = .ok (.iload_n 1, 1) := by decide +kernel
theorem dX1_isLender_17 : decode cX1_isLender 17 = .ok (.invokevirtual 103, 3) := by decide +kernel
theorem dX1_isLender_20 : decode cX1_isLender 20 = .ok (.ifCond .eq 7, 3) := by decide +kernel
theorem dX1_isLender_23 : decode cX1_isLender 23 = .ok (.iconst 1, 1) := by decide +kernel
theorem dX1_isLender_24 : decode cX1_isLender 24 = .ok (.goto 4, 3) := by decide +kernel
theorem dX1_isLender_27 : decode cX1_isLender 27 = .ok (.iconst 0, 1) := by decide +kernel
theorem dX1_isLender_28 : decode cX1_isLender 28 = .ok (.istore_n 2, 1) := by decide +kernel
theorem dX1_isLender_29 : decode cX1_isLender 29 = .ok (.iinc 3 1, 3) := by decide +kernel
theorem dX1_isLender_32 : decode cX1_isLender 32 = .ok (.goto (-28), 3) := by decide +kernel
theorem dX1_isLender_35 : decode cX1_isLender 35 = .ok (.iload_n 2, 1) := by decide +kernel
theorem dX1_isLender_36 : decode cX1_isLender 36 = .ok (.ireturn, 1) := by decide +kernel
set_option maxRecDepth 20000 in
theorem ggX1_lenderFor_X1_isLender : GoodIn wsX1_lenderFor wsX1_isLender := goodIn_r _ [6, 7, 8, 9, 5, 10, 11, 12, 13, 14, 15, 16, 17, 18, 19, 20, 21, 22, 23, 24, 25, 26, 27, 28, 29, 30, 31, 32, 33, 34, 35, 36, 37, 38, 39, 40, 41, 42, 43, 44, 45, 46, 47] (by decide +kernel) (by decide +kernel)
set_option maxRecDepth 20000 in
theorem gX1_lenderFor_X1_isLender : GoodIn wsX1_lenderFor (wsV RX1 107 RX1 yX1_isLender wsX1_isLender) := goodIn_app (goodIn_of _ (by decide +kernel)) ggX1_lenderFor_X1_isLender
theorem dX1_lenderFor_0 : decode cX1_lenderFor 0 = .ok (.iconst (-1), 1) := by decide +kernel
theorem dX1_lenderFor_1 : decode cX1_lenderFor 1 = .ok (.istore_n 2, 1) := by decide +kernel
theorem dX1_lenderFor_2 : decode cX1_lenderFor 2 = .ok (.iconst 0, 1) := by decide +kernel
theorem dX1_lenderFor_3 : decode cX1_lenderFor 3 = .ok (.istore_n 3, 1) := by decide +kernel
theorem dX1_lenderFor_4 : decode cX1_lenderFor 4 = .ok (.iload_n 3, 1) := by decide +kernel
theorem dX1_lenderFor_5 : decode cX1_lenderFor 5 = .ok (.iconst 5, 1) := by decide +kernel
theorem dX1_lenderFor_6 : decode cX1_lenderFor 6 = .ok (.if_icmp .ge 60, 3) := by decide +kernel
theorem dX1_lenderFor_9 : decode cX1_lenderFor 9 = .ok (.iload_n 3, 1) := by decide +kernel
theorem dX1_lenderFor_10 : decode cX1_lenderFor 10 = .ok (.iload_n 1, 1) := by decide +kernel
theorem dX1_lenderFor_11 : decode cX1_lenderFor 11 = .ok (.if_icmp .eq 15, 3) := by decide +kernel
theorem dX1_lenderFor_14 : decode cX1_lenderFor 14 = .ok (.aload_n 0, 1) := by decide +kernel
theorem dX1_lenderFor_15 : decode cX1_lenderFor 15 = .ok (.iload_n 3, 1) := by decide +kernel
theorem dX1_lenderFor_16 : decode cX1_lenderFor 16 = .ok (.invokevirtual 107, 3) := by decide +kernel
theorem dX1_lenderFor_19 : decode cX1_lenderFor 19 = .ok (.ifCond .eq 7, 3) := by decide +kernel
theorem dX1_lenderFor_22 : decode cX1_lenderFor 22 = .ok (.iconst 1, 1) := by decide +kernel
theorem dX1_lenderFor_23 : decode cX1_lenderFor 23 = .ok (.goto 4, 3) := by decide +kernel
theorem dX1_lenderFor_26 : decode cX1_lenderFor 26 = .ok (.iconst 0, 1) := by decide +kernel
theorem dX1_lenderFor_27 : decode cX1_lenderFor 27 = .ok (.istore 4, 2) := by decide +kernel
theorem dX1_lenderFor_29 : decode cX1_lenderFor 29 = .ok (.iload 4, 2) := by decide +kernel
theorem dX1_lenderFor_31 : decode cX1_lenderFor 31 = .ok (.ifCond .eq 27, 3) := by decide +kernel
theorem dX1_lenderFor_34 : decode cX1_lenderFor 34 = .ok (.iload_n 2, 1) := by decide +kernel
theorem dX1_lenderFor_35 : decode cX1_lenderFor 35 = .ok (.iconst (-1), 1) := by decide +kernel
theorem dX1_lenderFor_36 : decode cX1_lenderFor 36 = .ok (.if_icmp .eq 18, 3) := by decide +kernel
theorem dX1_lenderFor_39 : decode cX1_lenderFor 39 = .ok (.aload_n 0, 1) := by decide +kernel
theorem dX1_lenderFor_40 : decode cX1_lenderFor 40 = .ok (.getfield 33, 3) := by decide +kernel
theorem dX1_lenderFor_43 : decode cX1_lenderFor 43 = .ok (.iload_n 3, 1) := by decide +kernel
theorem dX1_lenderFor_44 : decode cX1_lenderFor 44 = .ok (.iaload, 1) := by decide +kernel
theorem dX1_lenderFor_45 : decode cX1_lenderFor 45 = .ok (.aload_n 0, 1) := by decide +kernel
theorem dX1_lenderFor_46 : decode cX1_lenderFor 46 = .ok (.getfield 33, 3) := by decide +kernel
theorem dX1_lenderFor_49 : decode cX1_lenderFor 49 = .ok (.iload_n 2, 1) := by decide +kernel
theorem dX1_lenderFor_50 : decode cX1_lenderFor 50 = .ok (.iaload, 1) := by decide +kernel
theorem dX1_lenderFor_51 : decode cX1_lenderFor 51 = .ok (.if_icmp .le 7, 3) := by decide +kernel
theorem dX1_lenderFor_54 : decode cX1_lenderFor 54 = .ok (.iload_n 3, 1) := by decide +kernel
theorem dX1_lenderFor_55 : decode cX1_lenderFor 55 = .ok (.goto 4, 3) := by decide +kernel
theorem dX1_lenderFor_58 : decode cX1_lenderFor 58 = .ok (.iload_n 2, 1) := by decide +kernel
theorem dX1_lenderFor_59 : decode cX1_lenderFor 59 = .ok (.istore_n 2, 1) := by decide +kernel
theorem dX1_lenderFor_60 : decode cX1_lenderFor 60 = .ok (.iinc 3 1, 3) := by decide +kernel
theorem dX1_lenderFor_63 : decode cX1_lenderFor 63 = .ok (.goto (-59), 3) := by decide +kernel
theorem dX1_lenderFor_66 : decode cX1_lenderFor 66 = .ok (.iload_n 2, 1) := by decide +kernel
theorem dX1_lenderFor_67 : decode cX1_lenderFor 67 = .ok (.ireturn, 1) := by decide +kernel
set_option maxRecDepth 20000 in
theorem ggX1_worth_X1_isEmpty : GoodIn wsX1_worth wsX1_isEmpty := goodIn_r _ [6, 7, 19, 20, 21, 22, 23, 24, 25, 26, 27, 28, 29, 30, 31, 32, 33, 34, 35, 36, 37] (by decide +kernel) (by decide +kernel)
set_option maxRecDepth 20000 in
theorem gX1_worth_X1_isEmpty : GoodIn wsX1_worth (wsV RX1 87 RX1 yX1_isEmpty wsX1_isEmpty) := goodIn_app (goodIn_of _ (by decide +kernel)) ggX1_worth_X1_isEmpty
set_option maxRecDepth 20000 in
theorem ggX1_worth_X1_ageOf : GoodIn wsX1_worth wsX1_ageOf := goodIn_r _ [11, 12, 13, 14, 15, 16, 5, 17, 7, 18, 19, 20, 21, 22, 23, 24, 25, 26, 27, 28, 29, 30, 31, 32, 33, 34, 35, 36, 37] (by decide +kernel) (by decide +kernel)
set_option maxRecDepth 20000 in
theorem gX1_worth_X1_ageOf : GoodIn wsX1_worth (wsV RX1 100 RX1 yX1_ageOf wsX1_ageOf) := goodIn_app (goodIn_of _ (by decide +kernel)) ggX1_worth_X1_ageOf
theorem dX1_worth_0 : decode cX1_worth 0 = .ok (.aload_n 0, 1) := by decide +kernel
theorem dX1_worth_1 : decode cX1_worth 1 = .ok (.iload_n 1, 1) := by decide +kernel
theorem dX1_worth_2 : decode cX1_worth 2 = .ok (.invokevirtual 87, 3) := by decide +kernel
theorem dX1_worth_5 : decode cX1_worth 5 = .ok (.ifCond .eq 8, 3) := by decide +kernel
theorem dX1_worth_8 : decode cX1_worth 8 = .ok (.ldc 110, 2) := by decide +kernel
theorem dX1_worth_10 : decode cX1_worth 10 = .ok (.goto 8, 3) := by decide +kernel
theorem dX1_worth_13 : decode cX1_worth 13 = .ok (.aload_n 0, 1) := by decide +kernel
theorem dX1_worth_14 : decode cX1_worth 14 = .ok (.iload_n 1, 1) := by decide +kernel
theorem dX1_worth_15 : decode cX1_worth 15 = .ok (.invokevirtual 100, 3) := by decide +kernel
theorem dX1_worth_18 : decode cX1_worth 18 = .ok (.ireturn, 1) := by decide +kernel
set_option maxRecDepth 20000 in
theorem ggX1_frameOf_X1_canLend : GoodIn wsX1_frameOf wsX1_canLend := goodIn_r _ [5, 6, 7, 8, 9, 10, 4, 11, 12, 13, 14, 15, 16, 17, 18, 19, 20, 21, 22, 23, 29, 30, 31, 32, 33, 34, 35, 36, 37, 38, 39, 40, 41, 42, 43, 44, 45, 46, 47] (by decide +kernel) (by decide +kernel)
set_option maxRecDepth 20000 in
theorem gX1_frameOf_X1_canLend : GoodIn wsX1_frameOf (wsV RX1 103 RX1 yX1_canLend wsX1_canLend) := goodIn_app (goodIn_of _ (by decide +kernel)) ggX1_frameOf_X1_canLend
set_option maxRecDepth 20000 in
theorem ggX1_frameOf_X1_worth : GoodIn wsX1_frameOf wsX1_worth := goodIn_r _ [27, 28, 8, 9, 10, 4, 11, 12, 13, 14, 15, 16, 17, 18, 19, 20, 21, 22, 23, 29, 30, 31, 32, 33, 34, 35, 36, 37, 38, 39, 40, 41, 42, 43, 44, 45, 46, 47] (by decide +kernel) (by decide +kernel)
set_option maxRecDepth 20000 in
theorem gX1_frameOf_X1_worth : GoodIn wsX1_frameOf (wsV RX1 111 RX1 yX1_worth wsX1_worth) := goodIn_app (goodIn_of _ (by decide +kernel)) ggX1_frameOf_X1_worth
theorem dX1_frameOf_0 : decode cX1_frameOf 0 = .ok (.iconst (-1), 1) := by decide +kernel
theorem dX1_frameOf_1 : decode cX1_frameOf 1 = .ok (.istore_n 2, 1) := by decide +kernel
theorem dX1_frameOf_2 : decode cX1_frameOf 2 = .ok (.iconst 0, 1) := by decide +kernel
theorem dX1_frameOf_3 : decode cX1_frameOf 3 = .ok (.istore_n 3, 1) := by decide +kernel
theorem dX1_frameOf_4 : decode cX1_frameOf 4 = .ok (.iload_n 3, 1) := by decide +kernel
theorem dX1_frameOf_5 : decode cX1_frameOf 5 = .ok (.bipush 12, 2) := by decide +kernel
theorem dX1_frameOf_7 : decode cX1_frameOf 7 = .ok (.if_icmp .ge 42, 3) := by decide +kernel
theorem dX1_frameOf_10 : decode cX1_frameOf 10 = .ok (.aload_n 0, 1) := by decide +kernel
theorem dX1_frameOf_11 : decode cX1_frameOf 11 = .ok (.iload_n 3, 1) := by decide +kernel
theorem dX1_frameOf_12 : decode cX1_frameOf 12 = .ok (.iload_n 1, 1) := by decide +kernel
theorem dX1_frameOf_13 : decode cX1_frameOf 13 = .ok (.invokevirtual 103, 3) := by decide +kernel
theorem dX1_frameOf_16 : decode cX1_frameOf 16 = .ok (.ifCond .eq 25, 3) := by decide +kernel
theorem dX1_frameOf_19 : decode cX1_frameOf 19 = .ok (.iload_n 2, 1) := by decide +kernel
theorem dX1_frameOf_20 : decode cX1_frameOf 20 = .ok (.iconst (-1), 1) := by decide +kernel
theorem dX1_frameOf_21 : decode cX1_frameOf 21 = .ok (.if_icmp .eq 16, 3) := by decide +kernel
theorem dX1_frameOf_24 : decode cX1_frameOf 24 = .ok (.aload_n 0, 1) := by decide +kernel
theorem dX1_frameOf_25 : decode cX1_frameOf 25 = .ok (.iload_n 3, 1) := by decide +kernel
theorem dX1_frameOf_26 : decode cX1_frameOf 26 = .ok (.invokevirtual 111, 3) := by decide +kernel
theorem dX1_frameOf_29 : decode cX1_frameOf 29 = .ok (.aload_n 0, 1) := by decide +kernel
theorem dX1_frameOf_30 : decode cX1_frameOf 30 = .ok (.iload_n 2, 1) := by decide +kernel
theorem dX1_frameOf_31 : decode cX1_frameOf 31 = .ok (.invokevirtual 111, 3) := by decide +kernel
theorem dX1_frameOf_34 : decode cX1_frameOf 34 = .ok (.if_icmp .le 7, 3) := by decide +kernel
theorem dX1_frameOf_37 : decode cX1_frameOf 37 = .ok (.iload_n 3, 1) := by decide +kernel
theorem dX1_frameOf_38 : decode cX1_frameOf 38 = .ok (.goto 4, 3) := by decide +kernel
theorem dX1_frameOf_41 : decode cX1_frameOf 41 = .ok (.iload_n 2, 1) := by decide +kernel
theorem dX1_frameOf_42 : decode cX1_frameOf 42 = .ok (.istore_n 2, 1) := by decide +kernel
theorem dX1_frameOf_43 : decode cX1_frameOf 43 = .ok (.iinc 3 1, 3) := by decide +kernel
theorem dX1_frameOf_46 : decode cX1_frameOf 46 = .ok (.goto (-42), 3) := by decide +kernel
theorem dX1_frameOf_49 : decode cX1_frameOf 49 = .ok (.iload_n 2, 1) := by decide +kernel
theorem dX1_frameOf_50 : decode cX1_frameOf 50 = .ok (.ireturn, 1) := by decide +kernel
set_option maxRecDepth 20000 in
theorem ggX1_oldestOf_X1_holderOf : GoodIn wsX1_oldestOf wsX1_holderOf := goodIn_r _ [5, 6, 7, 8, 21, 22, 23, 24, 25, 26, 27, 28, 29, 30, 31, 32, 33, 34, 35, 36, 37, 38, 39] (by decide +kernel) (by decide +kernel)
set_option maxRecDepth 20000 in
theorem gX1_oldestOf_X1_holderOf : GoodIn wsX1_oldestOf (wsV RX1 90 RX1 yX1_holderOf wsX1_holderOf) := goodIn_app (goodIn_of _ (by decide +kernel)) ggX1_oldestOf_X1_holderOf
set_option maxRecDepth 20000 in
theorem ggX1_oldestOf_X1_hasPage : GoodIn wsX1_oldestOf wsX1_hasPage := goodIn_r _ [12, 13, 14, 21, 22, 23, 24, 25, 26, 27, 28, 29, 30, 31, 32, 33, 34, 35, 36, 37, 38, 39] (by decide +kernel) (by decide +kernel)
set_option maxRecDepth 20000 in
theorem gX1_oldestOf_X1_hasPage : GoodIn wsX1_oldestOf (wsV RX1 67 RX1 yX1_hasPage wsX1_hasPage) := goodIn_app (goodIn_of _ (by decide +kernel)) ggX1_oldestOf_X1_hasPage
set_option maxRecDepth 20000 in
theorem ggX1_oldestOf_X1_ageOf : GoodIn wsX1_oldestOf wsX1_ageOf := goodIn_r _ [18, 19, 20, 9, 10, 11, 4, 12, 13, 14, 21, 22, 23, 24, 25, 26, 27, 28, 29, 30, 31, 32, 33, 34, 35, 36, 37, 38, 39] (by decide +kernel) (by decide +kernel)
set_option maxRecDepth 20000 in
theorem gX1_oldestOf_X1_ageOf : GoodIn wsX1_oldestOf (wsV RX1 100 RX1 yX1_ageOf wsX1_ageOf) := goodIn_app (goodIn_of _ (by decide +kernel)) ggX1_oldestOf_X1_ageOf
theorem dX1_oldestOf_0 : decode cX1_oldestOf 0 = .ok (.iconst (-1), 1) := by decide +kernel
theorem dX1_oldestOf_1 : decode cX1_oldestOf 1 = .ok (.istore_n 2, 1) := by decide +kernel
theorem dX1_oldestOf_2 : decode cX1_oldestOf 2 = .ok (.iconst 0, 1) := by decide +kernel
theorem dX1_oldestOf_3 : decode cX1_oldestOf 3 = .ok (.istore_n 3, 1) := by decide +kernel
theorem dX1_oldestOf_4 : decode cX1_oldestOf 4 = .ok (.iload_n 3, 1) := by decide +kernel
theorem dX1_oldestOf_5 : decode cX1_oldestOf 5 = .ok (.bipush 12, 2) := by decide +kernel
theorem dX1_oldestOf_7 : decode cX1_oldestOf 7 = .ok (.if_icmp .ge 62, 3) := by decide +kernel
theorem dX1_oldestOf_10 : decode cX1_oldestOf 10 = .ok (.aload_n 0, 1) := by decide +kernel
theorem dX1_oldestOf_11 : decode cX1_oldestOf 11 = .ok (.iload_n 3, 1) := by decide +kernel
theorem dX1_oldestOf_12 : decode cX1_oldestOf 12 = .ok (.invokevirtual 90, 3) := by decide +kernel
theorem dX1_oldestOf_15 : decode cX1_oldestOf 15 = .ok (.iload_n 1, 1) := by decide +kernel
theorem dX1_oldestOf_16 : decode cX1_oldestOf 16 = .ok (.if_icmp .ne 15, 3) := by decide +kernel
theorem dX1_oldestOf_19 : decode cX1_oldestOf 19 = .ok (.aload_n 0, 1) := by decide +kernel
theorem dX1_oldestOf_20 : decode cX1_oldestOf 20 = .ok (.iload_n 3, 1) := by decide +kernel
theorem dX1_oldestOf_21 : decode cX1_oldestOf 21 = .ok (.invokevirtual 67, 3) := by decide +kernel
theorem dX1_oldestOf_24 : decode cX1_oldestOf 24 = .ok (.ifCond .eq 7, 3) := by decide +kernel
theorem dX1_oldestOf_27 : decode cX1_oldestOf 27 = .ok (.iconst 1, 1) := by decide +kernel
theorem dX1_oldestOf_28 : decode cX1_oldestOf 28 = .ok (.goto 4, 3) := by decide +kernel
theorem dX1_oldestOf_31 : decode cX1_oldestOf 31 = .ok (.iconst 0, 1) := by decide +kernel
theorem dX1_oldestOf_32 : decode cX1_oldestOf 32 = .ok (.istore 4, 2) := by decide +kernel
theorem dX1_oldestOf_34 : decode cX1_oldestOf 34 = .ok (.iload 4, 2) := by decide +kernel
theorem dX1_oldestOf_36 : decode cX1_oldestOf 36 = .ok (.ifCond .eq 25, 3) := by decide +kernel
theorem dX1_oldestOf_39 : decode cX1_oldestOf 39 = .ok (.iload_n 2, 1) := by decide +kernel
theorem dX1_oldestOf_40 : decode cX1_oldestOf 40 = .ok (.iconst (-1), 1) := by decide +kernel
theorem dX1_oldestOf_41 : decode cX1_oldestOf 41 = .ok (.if_icmp .eq 16, 3) := by decide +kernel
theorem dX1_oldestOf_44 : decode cX1_oldestOf 44 = .ok (.aload_n 0, 1) := by decide +kernel
theorem dX1_oldestOf_45 : decode cX1_oldestOf 45 = .ok (.iload_n 3, 1) := by decide +kernel
theorem dX1_oldestOf_46 : decode cX1_oldestOf 46 = .ok (.invokevirtual 100, 3) := by decide +kernel
theorem dX1_oldestOf_49 : decode cX1_oldestOf 49 = .ok (.aload_n 0, 1) := by decide +kernel
theorem dX1_oldestOf_50 : decode cX1_oldestOf 50 = .ok (.iload_n 2, 1) := by decide +kernel
theorem dX1_oldestOf_51 : decode cX1_oldestOf 51 = .ok (.invokevirtual 100, 3) := by decide +kernel
theorem dX1_oldestOf_54 : decode cX1_oldestOf 54 = .ok (.if_icmp .le 7, 3) := by decide +kernel
theorem dX1_oldestOf_57 : decode cX1_oldestOf 57 = .ok (.iload_n 3, 1) := by decide +kernel
theorem dX1_oldestOf_58 : decode cX1_oldestOf 58 = .ok (.goto 4, 3) := by decide +kernel
theorem dX1_oldestOf_61 : decode cX1_oldestOf 61 = .ok (.iload_n 2, 1) := by decide +kernel
theorem dX1_oldestOf_62 : decode cX1_oldestOf 62 = .ok (.istore_n 2, 1) := by decide +kernel
theorem dX1_oldestOf_63 : decode cX1_oldestOf 63 = .ok (.iinc 3 1, 3) := by decide +kernel
theorem dX1_oldestOf_66 : decode cX1_oldestOf 66 = .ok (.goto (-62), 3) := by decide +kernel
theorem dX1_oldestOf_69 : decode cX1_oldestOf 69 = .ok (.iload_n 2, 1) := by decide +kernel
theorem dX1_oldestOf_70 : decode cX1_oldestOf 70 = .ok (.ireturn, 1) := by decide +kernel
theorem dX1_ends_0 : decode cX1_ends 0 = .ok (.aload_n 0, 1) := by decide +kernel
theorem dX1_ends_1 : decode cX1_ends 1 = .ok (.getfield 42, 3) := by decide +kernel
theorem dX1_ends_4 : decode cX1_ends 4 = .ok (.iload_n 1, 1) := by decide +kernel
theorem dX1_ends_5 : decode cX1_ends 5 = .ok (.iaload, 1) := by decide +kernel
theorem dX1_ends_6 : decode cX1_ends 6 = .ok (.istore_n 2, 1) := by decide +kernel
theorem dX1_ends_7 : decode cX1_ends 7 = .ok (.aload_n 0, 1) := by decide +kernel
theorem dX1_ends_8 : decode cX1_ends 8 = .ok (.getfield 27, 3) := by decide +kernel
theorem dX1_ends_11 : decode cX1_ends 11 = .ok (.iload_n 2, 1) := by decide +kernel
theorem dX1_ends_12 : decode cX1_ends 12 = .ok (.iconst (-1), 1) := by decide +kernel
theorem dX1_ends_13 : decode cX1_ends 13 = .ok (.iastore, 1) := by decide +kernel
theorem dX1_ends_14 : decode cX1_ends 14 = .ok (.aload_n 0, 1) := by decide +kernel
theorem dX1_ends_15 : decode cX1_ends 15 = .ok (.getfield 17, 3) := by decide +kernel
theorem dX1_ends_18 : decode cX1_ends 18 = .ok (.iload_n 2, 1) := by decide +kernel
theorem dX1_ends_19 : decode cX1_ends 19 = .ok (.iconst (-1), 1) := by decide +kernel
theorem dX1_ends_20 : decode cX1_ends 20 = .ok (.iastore, 1) := by decide +kernel
theorem dX1_ends_21 : decode cX1_ends 21 = .ok (.return_, 1) := by decide +kernel
theorem dX1_lends_0 : decode cX1_lends 0 = .ok (.aload_n 0, 1) := by decide +kernel
theorem dX1_lends_1 : decode cX1_lends 1 = .ok (.getfield 42, 3) := by decide +kernel
theorem dX1_lends_4 : decode cX1_lends 4 = .ok (.aload_n 0, 1) := by decide +kernel
theorem dX1_lends_5 : decode cX1_lends 5 = .ok (.getfield 64, 3) := by decide +kernel
theorem dX1_lends_8 : decode cX1_lends 8 = .ok (.iload_n 1, 1) := by decide +kernel
theorem dX1_lends_9 : decode cX1_lends 9 = .ok (.iastore, 1) := by decide +kernel
theorem dX1_lends_10 : decode cX1_lends 10 = .ok (.aload_n 0, 1) := by decide +kernel
theorem dX1_lends_11 : decode cX1_lends 11 = .ok (.getfield 45, 3) := by decide +kernel
theorem dX1_lends_14 : decode cX1_lends 14 = .ok (.aload_n 0, 1) := by decide +kernel
theorem dX1_lends_15 : decode cX1_lends 15 = .ok (.getfield 64, 3) := by decide +kernel
theorem dX1_lends_18 : decode cX1_lends 18 = .ok (.aload_n 0, 1) := by decide +kernel
theorem dX1_lends_19 : decode cX1_lends 19 = .ok (.getfield 13, 3) := by decide +kernel
theorem dX1_lends_22 : decode cX1_lends 22 = .ok (.iload_n 1, 1) := by decide +kernel
theorem dX1_lends_23 : decode cX1_lends 23 = .ok (.iaload, 1) := by decide +kernel
theorem dX1_lends_24 : decode cX1_lends 24 = .ok (.iastore, 1) := by decide +kernel
theorem dX1_lends_25 : decode cX1_lends 25 = .ok (.aload_n 0, 1) := by decide +kernel
theorem dX1_lends_26 : decode cX1_lends 26 = .ok (.getfield 48, 3) := by decide +kernel
theorem dX1_lends_29 : decode cX1_lends 29 = .ok (.aload_n 0, 1) := by decide +kernel
theorem dX1_lends_30 : decode cX1_lends 30 = .ok (.getfield 64, 3) := by decide +kernel
theorem dX1_lends_33 : decode cX1_lends 33 = .ok (.iload_n 2, 1) := by decide +kernel
theorem dX1_lends_34 : decode cX1_lends 34 = .ok (.iastore, 1) := by decide +kernel
theorem dX1_lends_35 : decode cX1_lends 35 = .ok (.aload_n 0, 1) := by decide +kernel
theorem dX1_lends_36 : decode cX1_lends 36 = .ok (.getfield 51, 3) := by decide +kernel
theorem dX1_lends_39 : decode cX1_lends 39 = .ok (.aload_n 0, 1) := by decide +kernel
theorem dX1_lends_40 : decode cX1_lends 40 = .ok (.getfield 64, 3) := by decide +kernel
theorem dX1_lends_43 : decode cX1_lends 43 = .ok (.iconst 0, 1) := by decide +kernel
theorem dX1_lends_44 : decode cX1_lends 44 = .ok (.iastore, 1) := by decide +kernel
theorem dX1_lends_45 : decode cX1_lends 45 = .ok (.aload_n 0, 1) := by decide +kernel
theorem dX1_lends_46 : decode cX1_lends 46 = .ok (.getfield 27, 3) := by decide +kernel
theorem dX1_lends_49 : decode cX1_lends 49 = .ok (.iload_n 1, 1) := by decide +kernel
theorem dX1_lends_50 : decode cX1_lends 50 = .ok (.aload_n 0, 1) := by decide +kernel
theorem dX1_lends_51 : decode cX1_lends 51 = .ok (.getfield 64, 3) := by decide +kernel
theorem dX1_lends_54 : decode cX1_lends 54 = .ok (.iastore, 1) := by decide +kernel
theorem dX1_lends_55 : decode cX1_lends 55 = .ok (.aload_n 0, 1) := by decide +kernel
theorem dX1_lends_56 : decode cX1_lends 56 = .ok (.dup, 1) := by decide +kernel
theorem dX1_lends_57 : decode cX1_lends 57 = .ok (.getfield 64, 3) := by decide +kernel
theorem dX1_lends_60 : decode cX1_lends 60 = .ok (.iconst 1, 1) := by decide +kernel
theorem dX1_lends_61 : decode cX1_lends 61 = .ok (.iadd, 1) := by decide +kernel
theorem dX1_lends_62 : decode cX1_lends 62 = .ok (.putfield 64, 3) := by decide +kernel
theorem dX1_lends_65 : decode cX1_lends 65 = .ok (.return_, 1) := by decide +kernel
set_option maxRecDepth 20000 in
theorem ggX1_frameFor_X1_emptyOf : GoodIn wsX1_frameFor wsX1_emptyOf := goodIn_r _ [9, 10, 11, 12, 8, 13, 14, 15, 16, 17, 18, 19, 20, 21, 84, 85, 86, 87, 88, 89, 90, 91, 92, 93, 94, 95, 96, 97, 98, 99, 100, 101, 102] (by decide +kernel) (by decide +kernel)
set_option maxRecDepth 20000 in
theorem gX1_frameFor_X1_emptyOf : GoodIn wsX1_frameFor (wsV RX1 114 RX1 yX1_emptyOf wsX1_emptyOf) := goodIn_app (goodIn_of _ (by decide +kernel)) ggX1_frameFor_X1_emptyOf
set_option maxRecDepth 20000 in
theorem ggX1_frameFor_X1_calledIn : GoodIn wsX1_frameFor wsX1_calledIn := goodIn_r _ [25, 4, 26, 1, 27, 28, 29, 8, 30, 14, 31, 32, 33, 34, 21, 35, 84, 85, 86, 87, 88, 89, 90, 91, 92, 93, 94, 95, 96, 97, 98, 99, 100, 101, 102] (by decide +kernel) (by decide +kernel)
set_option maxRecDepth 20000 in
theorem gX1_frameFor_X1_calledIn : GoodIn wsX1_frameFor (wsV RX1 117 RX1 yX1_calledIn wsX1_calledIn) := goodIn_app (goodIn_of _ (by decide +kernel)) ggX1_frameFor_X1_calledIn
set_option maxRecDepth 20000 in
theorem ggX1_frameFor_X1_ends : GoodIn wsX1_frameFor wsX1_ends := goodIn_r _ [39, 1, 14, 21, 84, 85, 86, 87, 88, 89, 90, 91, 92, 93, 94, 95, 96, 97, 98, 99, 100, 101, 102] (by decide +kernel) (by decide +kernel)
set_option maxRecDepth 20000 in
theorem gX1_frameFor_X1_ends : GoodIn wsX1_frameFor (wsV RX1 120 RX1 yX1_ends wsX1_ends) := goodIn_app (goodIn_of _ (by decide +kernel)) ggX1_frameFor_X1_ends
set_option maxRecDepth 20000 in
theorem ggX1_frameFor_X1_borrowedBy : GoodIn wsX1_frameFor wsX1_borrowedBy := goodIn_r _ [43, 14, 16, 84, 85, 86, 87, 88, 89, 90, 91, 92, 93, 94, 95, 96, 97, 98, 99, 100, 101, 102] (by decide +kernel) (by decide +kernel)
set_option maxRecDepth 20000 in
theorem gX1_frameFor_X1_borrowedBy : GoodIn wsX1_frameFor (wsV RX1 124 RX1 yX1_borrowedBy wsX1_borrowedBy) := goodIn_app (goodIn_of _ (by decide +kernel)) ggX1_frameFor_X1_borrowedBy
set_option maxRecDepth 20000 in
theorem ggX1_frameFor_X1_lenderFor : GoodIn wsX1_frameFor wsX1_lenderFor := goodIn_r _ [47, 2, 48, 49, 50, 8, 51, 52, 53, 54, 55, 15, 14, 17, 18, 19, 20, 21, 56, 57, 58, 59, 60, 61, 62, 63, 64, 65, 35, 84, 85, 86, 87, 88, 89, 90, 91, 92, 93, 94, 95, 96, 97, 98, 99, 100, 101, 102] (by decide +kernel) (by decide +kernel)
set_option maxRecDepth 20000 in
theorem gX1_frameFor_X1_lenderFor : GoodIn wsX1_frameFor (wsV RX1 127 RX1 yX1_lenderFor wsX1_lenderFor) := goodIn_app (goodIn_of _ (by decide +kernel)) ggX1_frameFor_X1_lenderFor
set_option maxRecDepth 20000 in
theorem ggX1_frameFor_X1_oldestOf : GoodIn wsX1_frameFor wsX1_oldestOf := goodIn_r _ [69, 10, 11, 12, 8, 13, 14, 15, 16, 62, 63, 64, 65, 21, 35, 56, 57, 58, 59, 60, 61, 84, 85, 86, 87, 88, 89, 90, 91, 92, 93, 94, 95, 96, 97, 98, 99, 100, 101, 102] (by decide +kernel) (by decide +kernel)
set_option maxRecDepth 20000 in
theorem gX1_frameFor_X1_oldestOf : GoodIn wsX1_frameFor (wsV RX1 130 RX1 yX1_oldestOf wsX1_oldestOf) := goodIn_app (goodIn_of _ (by decide +kernel)) ggX1_frameFor_X1_oldestOf
set_option maxRecDepth 20000 in
theorem ggX1_frameFor_X1_frameOf : GoodIn wsX1_frameFor wsX1_frameOf := goodIn_r _ [73, 52, 53, 54, 8, 55, 15, 14, 17, 18, 19, 20, 21, 56, 57, 58, 59, 60, 61, 62, 63, 64, 65, 35, 74, 75, 76, 77, 78, 84, 85, 86, 87, 88, 89, 90, 91, 92, 93, 94, 95, 96, 97, 98, 99, 100, 101, 102] (by decide +kernel) (by decide +kernel)
set_option maxRecDepth 20000 in
theorem gX1_frameFor_X1_frameOf : GoodIn wsX1_frameFor (wsV RX1 133 RX1 yX1_frameOf wsX1_frameOf) := goodIn_app (goodIn_of _ (by decide +kernel)) ggX1_frameFor_X1_frameOf
set_option maxRecDepth 20000 in
theorem ggX1_frameFor_X1_lends : GoodIn wsX1_frameFor wsX1_lends := goodIn_r _ [82, 1, 4, 26, 15, 16, 83, 14, 84, 85, 86, 87, 88, 89, 90, 91, 92, 93, 94, 95, 96, 97, 98, 99, 100, 101, 102] (by decide +kernel) (by decide +kernel)
set_option maxRecDepth 20000 in
theorem gX1_frameFor_X1_lends : GoodIn wsX1_frameFor (wsV RX1 136 RX1 yX1_lends wsX1_lends) := goodIn_app (goodIn_of _ (by decide +kernel)) ggX1_frameFor_X1_lends
theorem dX1_frameFor_0 : decode cX1_frameFor 0 = .ok (.aload_n 0, 1) := by decide +kernel
theorem dX1_frameFor_1 : decode cX1_frameFor 1 = .ok (.iload_n 1, 1) := by decide +kernel
theorem dX1_frameFor_2 : decode cX1_frameFor 2 = .ok (.invokevirtual 114, 3) := by decide +kernel
theorem dX1_frameFor_5 : decode cX1_frameFor 5 = .ok (.istore_n 2, 1) := by decide +kernel
theorem dX1_frameFor_6 : decode cX1_frameFor 6 = .ok (.iload_n 2, 1) := by decide +kernel
theorem dX1_frameFor_7 : decode cX1_frameFor 7 = .ok (.iconst (-1), 1) := by decide +kernel
theorem dX1_frameFor_8 : decode cX1_frameFor 8 = .ok (.if_icmp .eq 5, 3) := by decide +kernel
theorem dX1_frameFor_11 : decode cX1_frameFor 11 = .ok (.iload_n 2, 1) := by decide +kernel
theorem dX1_frameFor_12 : decode cX1_frameFor 12 = .ok (.ireturn, 1) := by decide +kernel
theorem dX1_frameFor_13 : decode cX1_frameFor 13 = .ok (.aload_n 0, 1) := by decide +kernel
theorem dX1_frameFor_14 : decode cX1_frameFor 14 = .ok (.iload_n 1, 1) := by decide +kernel
theorem dX1_frameFor_15 : decode cX1_frameFor 15 = .ok (.invokevirtual 117, 3) := by decide +kernel
theorem dX1_frameFor_18 : decode cX1_frameFor 18 = .ok (.istore_n 3, 1) := by decide +kernel
theorem dX1_frameFor_19 : decode cX1_frameFor 19 = .ok (.iload_n 3, 1) := by decide +kernel
theorem dX1_frameFor_20 : decode cX1_frameFor 20 = .ok (.iconst (-1), 1) := by decide +kernel
theorem dX1_frameFor_21 : decode cX1_frameFor 21 = .ok (.if_icmp .eq 15, 3) := by decide +kernel
theorem dX1_frameFor_24 : decode cX1_frameFor 24 = .ok (.aload_n 0, 1) := by decide +kernel
theorem dX1_frameFor_25 : decode cX1_frameFor 25 = .ok (.iload_n 3, 1) := by decide +kernel
theorem dX1_frameFor_26 : decode cX1_frameFor 26 = .ok (.invokevirtual 120, 3) := by decide +kernel
theorem dX1_frameFor_29 : decode cX1_frameFor 29 = .ok (.aload_n 0, 1) := by decide +kernel
theorem dX1_frameFor_30 : decode cX1_frameFor 30 = .ok (.getfield 42, 3) := by decide +kernel
theorem dX1_frameFor_33 : decode cX1_frameFor 33 = .ok (.iload_n 3, 1) := by decide +kernel
theorem dX1_frameFor_34 : decode cX1_frameFor 34 = .ok (.iaload, 1) := by decide +kernel
theorem dX1_frameFor_35 : decode cX1_frameFor 35 = .ok (.ireturn, 1) := by decide +kernel
theorem dX1_frameFor_36 : decode cX1_frameFor 36 = .ok (.aload_n 0, 1) := by decide +kernel
theorem dX1_frameFor_37 : decode cX1_frameFor 37 = .ok (.getfield 33, 3) := by decide +kernel
theorem dX1_frameFor_40 : decode cX1_frameFor 40 = .ok (.iload_n 1, 1) := by decide +kernel
theorem dX1_frameFor_41 : decode cX1_frameFor 41 = .ok (.iaload, 1) := by decide +kernel
theorem dX1_frameFor_42 : decode cX1_frameFor 42 = .ok (.aload_n 0, 1) := by decide +kernel
theorem dX1_frameFor_43 : decode cX1_frameFor 43 = .ok (.getfield 7, 3) := by decide +kernel
theorem dX1_frameFor_46 : decode cX1_frameFor 46 = .ok (.if_icmp .lt 20, 3) := by decide +kernel
theorem dX1_frameFor_49 : decode cX1_frameFor 49 = .ok (.aload_n 0, 1) := by decide +kernel
theorem dX1_frameFor_50 : decode cX1_frameFor 50 = .ok (.iload_n 1, 1) := by decide +kernel
theorem dX1_frameFor_51 : decode cX1_frameFor 51 = .ok (.invokevirtual 124, 3) := by decide +kernel
theorem dX1_frameFor_54 : decode cX1_frameFor 54 = .ok (.iconst 3, 1) := by decide +kernel
theorem dX1_frameFor_55 : decode cX1_frameFor 55 = .ok (.if_icmp .ge 11, 3) := by decide +kernel
theorem dX1_frameFor_58 : decode cX1_frameFor 58 = .ok (.aload_n 0, 1) := by decide +kernel
theorem dX1_frameFor_59 : decode cX1_frameFor 59 = .ok (.iload_n 1, 1) := by decide +kernel
theorem dX1_frameFor_60 : decode cX1_frameFor 60 = .ok (.invokevirtual 127, 3) := by decide +kernel
theorem dX1_frameFor_63 : decode cX1_frameFor 63 = .ok (.goto 4, 3) := by decide +kernel
theorem dX1_frameFor_66 : decode cX1_frameFor 66 = .ok (.iconst (-1), 1) := by decide +kernel
theorem dX1_frameFor_67 : decode cX1_frameFor 67 = .ok (.istore 4, 2) := by decide +kernel
theorem dX1_frameFor_69 : decode cX1_frameFor 69 = .ok (.iload 4, 2) := by decide +kernel
theorem dX1_frameFor_71 : decode cX1_frameFor 71 = .ok (.iconst (-1), 1) := by decide +kernel
theorem dX1_frameFor_72 : decode cX1_frameFor 72 = .ok (.if_icmp .ne 9, 3) := by decide +kernel
theorem dX1_frameFor_75 : decode cX1_frameFor 75 = .ok (.aload_n 0, 1) := by decide +kernel
theorem dX1_frameFor_76 : decode cX1_frameFor 76 = .ok (.iload_n 1, 1) := by decide +kernel
theorem dX1_frameFor_77 : decode cX1_frameFor 77 = .ok (.invokevirtual 130, 3) := by decide +kernel
theorem dX1_frameFor_80 : decode cX1_frameFor 80 = .ok (.ireturn, 1) := by decide +kernel
theorem dX1_frameFor_81 : decode cX1_frameFor 81 = .ok (.aload_n 0, 1) := by decide +kernel
theorem dX1_frameFor_82 : decode cX1_frameFor 82 = .ok (.getfield 64, 3) := by decide +kernel
theorem dX1_frameFor_85 : decode cX1_frameFor 85 = .ok (.bipush 60, 2) := by decide +kernel
theorem dX1_frameFor_87 : decode cX1_frameFor 87 = .ok (.if_icmp .ne 6, 3) := by decide +kernel
theorem dX1_frameFor_90 : decode cX1_frameFor 90 = .ok (.bipush (-2), 2) := by decide +kernel
theorem dX1_frameFor_92 : decode cX1_frameFor 92 = .ok (.ireturn, 1) := by decide +kernel
theorem dX1_frameFor_93 : decode cX1_frameFor 93 = .ok (.aload_n 0, 1) := by decide +kernel
theorem dX1_frameFor_94 : decode cX1_frameFor 94 = .ok (.iload 4, 2) := by decide +kernel
theorem dX1_frameFor_96 : decode cX1_frameFor 96 = .ok (.invokevirtual 133, 3) := by decide +kernel
theorem dX1_frameFor_99 : decode cX1_frameFor 99 = .ok (.istore_n 2, 1) := by decide +kernel
theorem dX1_frameFor_100 : decode cX1_frameFor 100 = .ok (.aload_n 0, 1) := by decide +kernel
theorem dX1_frameFor_101 : decode cX1_frameFor 101 = .ok (.iload_n 2, 1) := by decide +kernel
theorem dX1_frameFor_102 : decode cX1_frameFor 102 = .ok (.iload_n 1, 1) := by decide +kernel
theorem dX1_frameFor_103 : decode cX1_frameFor 103 = .ok (.invokevirtual 136, 3) := by decide +kernel
theorem dX1_frameFor_106 : decode cX1_frameFor 106 = .ok (.iload_n 2, 1) := by decide +kernel
theorem dX1_frameFor_107 : decode cX1_frameFor 107 = .ok (.ireturn, 1) := by decide +kernel
set_option maxRecDepth 20000 in
theorem ggX1_touch_X1_isProcess : GoodIn wsX1_touch wsX1_isProcess := goodIn_r _ [10, 11, 12, 9, 13] (by decide +kernel) (by decide +kernel)
set_option maxRecDepth 20000 in
theorem gX1_touch_X1_isProcess : GoodIn wsX1_touch (va_wsS RX1 74 yX1_isProcess wsX1_isProcess) := goodIn_app (goodIn_of _ (by decide +kernel)) ggX1_touch_X1_isProcess
set_option maxRecDepth 20000 in
theorem ggX1_touch_X1_isIn : GoodIn wsX1_touch wsX1_isIn := goodIn_r _ [13] (by decide +kernel) (by decide +kernel)
set_option maxRecDepth 20000 in
theorem gX1_touch_X1_isIn : GoodIn wsX1_touch (va_wsS RX1 60 yX1_isIn wsX1_isIn) := goodIn_app (goodIn_of _ (by decide +kernel)) ggX1_touch_X1_isIn
set_option maxRecDepth 20000 in
theorem ggX1_touch_X1_goes : GoodIn wsX1_touch wsX1_goes := goodIn_r _ [17, 18, 105, 106, 107, 108, 109, 110, 111, 112, 113, 114, 115, 116, 117, 118, 119, 120, 121, 122, 123] (by decide +kernel) (by decide +kernel)
set_option maxRecDepth 20000 in
theorem gX1_touch_X1_goes : GoodIn wsX1_touch (wsV RX1 77 RX1 yX1_goes wsX1_goes) := goodIn_app (goodIn_of _ (by decide +kernel)) ggX1_touch_X1_goes
set_option maxRecDepth 20000 in
theorem ggX1_touch_X1_frameWith : GoodIn wsX1_touch wsX1_frameWith := goodIn_r _ [22, 4, 23, 24, 25, 9, 26, 27, 28, 29, 105, 106, 107, 108, 109, 110, 111, 112, 113, 114, 115, 116, 117, 118, 119, 120, 121, 122, 123] (by decide +kernel) (by decide +kernel)
set_option maxRecDepth 20000 in
theorem gX1_touch_X1_frameWith : GoodIn wsX1_touch (wsV RX1 140 RX1 yX1_frameWith wsX1_frameWith) := goodIn_app (goodIn_of _ (by decide +kernel)) ggX1_touch_X1_frameWith
set_option maxRecDepth 20000 in
theorem ggX1_touch_X1_frameFor : GoodIn wsX1_touch wsX1_frameFor := goodIn_r _ [33, 34, 35, 36, 37, 38, 39, 40, 9, 41, 23, 24, 25, 26, 27, 28, 29, 42, 43, 44, 45, 4, 46, 47, 48, 49, 50, 51, 52, 53, 54, 55, 56, 57, 58, 5, 59, 60, 61, 62, 63, 64, 65, 66, 67, 68, 69, 70, 71, 72, 73, 74, 75, 76, 77, 78, 79, 80, 81, 82, 3, 2, 83, 84, 85, 86, 87, 88, 89, 90, 91, 92, 93, 94, 95, 96, 97, 98, 99, 100, 101, 102, 103, 104, 105, 106, 107, 108, 109, 110, 111, 112, 113, 114, 115, 116, 117, 118, 119, 120, 121, 122, 123] (by decide +kernel) (by decide +kernel)
set_option maxRecDepth 20000 in
theorem gX1_touch_X1_frameFor : GoodIn wsX1_touch (wsV RX1 144 RX1 yX1_frameFor wsX1_frameFor) := goodIn_app (goodIn_of _ (by decide +kernel)) ggX1_touch_X1_frameFor
theorem dX1_touch_0 : decode cX1_touch 0 = .ok (.aload_n 0, 1) := by decide +kernel
theorem dX1_touch_1 : decode cX1_touch 1 = .ok (.iload_n 1, 1) := by decide +kernel
theorem dX1_touch_2 : decode cX1_touch 2 = .ok (.invokestatic 74, 3) := by decide +kernel
theorem dX1_touch_5 : decode cX1_touch 5 = .ok (.ifCond .eq 13, 3) := by decide +kernel
theorem dX1_touch_8 : decode cX1_touch 8 = .ok (.iload_n 2, 1) := by decide +kernel
theorem dX1_touch_9 : decode cX1_touch 9 = .ok (.iconst 0, 1) := by decide +kernel
theorem dX1_touch_10 : decode cX1_touch 10 = .ok (.bipush 7, 2) := by decide +kernel
theorem dX1_touch_12 : decode cX1_touch 12 = .ok (.invokestatic 60, 3) := by decide +kernel
theorem dX1_touch_15 : decode cX1_touch 15 = .ok (.ifCond .ne 7, 3) := by decide +kernel
theorem dX1_touch_18 : decode cX1_touch 18 = .ok (.iconst 1, 1) := by decide +kernel
theorem dX1_touch_19 : decode cX1_touch 19 = .ok (.goto 17, 3) := by decide +kernel
theorem dX1_touch_22 : decode cX1_touch 22 = .ok (.aload_n 0, 1) := by decide +kernel
theorem dX1_touch_23 : decode cX1_touch 23 = .ok (.getfield 36, 3) := by decide +kernel
theorem dX1_touch_26 : decode cX1_touch 26 = .ok (.iload_n 1, 1) := by decide +kernel
theorem dX1_touch_27 : decode cX1_touch 27 = .ok (.iaload, 1) := by decide +kernel
theorem dX1_touch_28 : decode cX1_touch 28 = .ok (.ifCond .ne 7, 3) := by decide +kernel
theorem dX1_touch_31 : decode cX1_touch 31 = .ok (.iconst 0, 1) := by decide +kernel
theorem dX1_touch_32 : decode cX1_touch 32 = .ok (.goto 4, 3) := by decide +kernel
theorem dX1_touch_35 : decode cX1_touch 35 = .ok (.iconst 2, 1) := by decide +kernel
theorem dX1_touch_36 : decode cX1_touch 36 = .ok (.invokevirtual 77, 3) := by decide +kernel
theorem dX1_touch_39 : decode cX1_touch 39 = .ok (.ifCond .ne 5, 3) := by decide +kernel
theorem dX1_touch_42 : decode cX1_touch 42 = .ok (.iconst 0, 1) := by decide +kernel
theorem dX1_touch_43 : decode cX1_touch 43 = .ok (.ireturn, 1) := by decide +kernel
theorem dX1_touch_44 : decode cX1_touch 44 = .ok (.aload_n 0, 1) := by decide +kernel
theorem dX1_touch_45 : decode cX1_touch 45 = .ok (.iload_n 1, 1) := by decide +kernel
theorem dX1_touch_46 : decode cX1_touch 46 = .ok (.iload_n 2, 1) := by decide +kernel
theorem dX1_touch_47 : decode cX1_touch 47 = .ok (.invokevirtual 140, 3) := by decide +kernel
theorem dX1_touch_50 : decode cX1_touch 50 = .ok (.istore_n 3, 1) := by decide +kernel
theorem dX1_touch_51 : decode cX1_touch 51 = .ok (.iload_n 3, 1) := by decide +kernel
theorem dX1_touch_52 : decode cX1_touch 52 = .ok (.iconst (-1), 1) := by decide +kernel
theorem dX1_touch_53 : decode cX1_touch 53 = .ok (.if_icmp .eq 15, 3) := by decide +kernel
theorem dX1_touch_56 : decode cX1_touch 56 = .ok (.aload_n 0, 1) := by decide +kernel
theorem dX1_touch_57 : decode cX1_touch 57 = .ok (.getfield 24, 3) := by decide +kernel
theorem dX1_touch_60 : decode cX1_touch 60 = .ok (.iload_n 3, 1) := by decide +kernel
theorem dX1_touch_61 : decode cX1_touch 61 = .ok (.aload_n 0, 1) := by decide +kernel
theorem dX1_touch_62 : decode cX1_touch 62 = .ok (.getfield 71, 3) := by decide +kernel
theorem dX1_touch_65 : decode cX1_touch 65 = .ok (.iastore, 1) := by decide +kernel
theorem dX1_touch_66 : decode cX1_touch 66 = .ok (.iconst (-1), 1) := by decide +kernel
theorem dX1_touch_67 : decode cX1_touch 67 = .ok (.ireturn, 1) := by decide +kernel
theorem dX1_touch_68 : decode cX1_touch 68 = .ok (.aload_n 0, 1) := by decide +kernel
theorem dX1_touch_69 : decode cX1_touch 69 = .ok (.iload_n 1, 1) := by decide +kernel
theorem dX1_touch_70 : decode cX1_touch 70 = .ok (.invokevirtual 144, 3) := by decide +kernel
theorem dX1_touch_73 : decode cX1_touch 73 = .ok (.istore_n 3, 1) := by decide +kernel
theorem dX1_touch_74 : decode cX1_touch 74 = .ok (.aload_n 0, 1) := by decide +kernel
theorem dX1_touch_75 : decode cX1_touch 75 = .ok (.iload_n 3, 1) := by decide +kernel
theorem dX1_touch_76 : decode cX1_touch 76 = .ok (.ifCond .ge 7, 3) := by decide +kernel
theorem dX1_touch_79 : decode cX1_touch 79 = .ok (.iconst 2, 1) := by decide +kernel
theorem dX1_touch_80 : decode cX1_touch 80 = .ok (.goto 4, 3) := by decide +kernel
theorem dX1_touch_83 : decode cX1_touch 83 = .ok (.iconst 0, 1) := by decide +kernel
theorem dX1_touch_84 : decode cX1_touch 84 = .ok (.invokevirtual 77, 3) := by decide +kernel
theorem dX1_touch_87 : decode cX1_touch 87 = .ok (.ifCond .ne 5, 3) := by decide +kernel
theorem dX1_touch_90 : decode cX1_touch 90 = .ok (.iconst 0, 1) := by decide +kernel
theorem dX1_touch_91 : decode cX1_touch 91 = .ok (.ireturn, 1) := by decide +kernel
theorem dX1_touch_92 : decode cX1_touch 92 = .ok (.aload_n 0, 1) := by decide +kernel
theorem dX1_touch_93 : decode cX1_touch 93 = .ok (.getfield 17, 3) := by decide +kernel
theorem dX1_touch_96 : decode cX1_touch 96 = .ok (.iload_n 3, 1) := by decide +kernel
theorem dX1_touch_97 : decode cX1_touch 97 = .ok (.iload_n 2, 1) := by decide +kernel
theorem dX1_touch_98 : decode cX1_touch 98 = .ok (.iastore, 1) := by decide +kernel
theorem dX1_touch_99 : decode cX1_touch 99 = .ok (.aload_n 0, 1) := by decide +kernel
theorem dX1_touch_100 : decode cX1_touch 100 = .ok (.getfield 20, 3) := by decide +kernel
theorem dX1_touch_103 : decode cX1_touch 103 = .ok (.iload_n 3, 1) := by decide +kernel
theorem dX1_touch_104 : decode cX1_touch 104 = .ok (.iconst 0, 1) := by decide +kernel
theorem dX1_touch_105 : decode cX1_touch 105 = .ok (.bastore, 1) := by decide +kernel
theorem dX1_touch_106 : decode cX1_touch 106 = .ok (.aload_n 0, 1) := by decide +kernel
theorem dX1_touch_107 : decode cX1_touch 107 = .ok (.getfield 36, 3) := by decide +kernel
theorem dX1_touch_110 : decode cX1_touch 110 = .ok (.iload_n 1, 1) := by decide +kernel
theorem dX1_touch_111 : decode cX1_touch 111 = .ok (.iconst 1, 1) := by decide +kernel
theorem dX1_touch_112 : decode cX1_touch 112 = .ok (.iastore, 1) := by decide +kernel
theorem dX1_touch_113 : decode cX1_touch 113 = .ok (.aload_n 0, 1) := by decide +kernel
theorem dX1_touch_114 : decode cX1_touch 114 = .ok (.getfield 39, 3) := by decide +kernel
theorem dX1_touch_117 : decode cX1_touch 117 = .ok (.iload_n 1, 1) := by decide +kernel
theorem dX1_touch_118 : decode cX1_touch 118 = .ok (.dup2, 1) := by decide +kernel
theorem dX1_touch_119 : decode cX1_touch 119 = .ok (.iaload, 1) := by decide +kernel
theorem dX1_touch_120 : decode cX1_touch 120 = .ok (.iconst 1, 1) := by decide +kernel
theorem dX1_touch_121 : decode cX1_touch 121 = .ok (.iadd, 1) := by decide +kernel
theorem dX1_touch_122 : decode cX1_touch 122 = .ok (.iastore, 1) := by decide +kernel
theorem dX1_touch_123 : decode cX1_touch 123 = .ok (.iload_n 3, 1) := by decide +kernel
theorem dX1_touch_124 : decode cX1_touch 124 = .ok (.ireturn, 1) := by decide +kernel
set_option maxRecDepth 20000 in
theorem ggX1_payBack_X1_isLoan : GoodIn wsX1_payBack wsX1_isLoan := goodIn_r _ [7, 8, 9, 10, 6, 11, 32, 33, 34, 35, 36, 37, 38, 39, 40, 41, 42, 43, 44, 45, 46, 47, 48, 49, 50] (by decide +kernel) (by decide +kernel)
set_option maxRecDepth 20000 in
theorem gX1_payBack_X1_isLoan : GoodIn wsX1_payBack (wsV RX1 147 RX1 yX1_isLoan wsX1_isLoan) := goodIn_app (goodIn_of _ (by decide +kernel)) ggX1_payBack_X1_isLoan
set_option maxRecDepth 20000 in
theorem ggX1_payBack_X1_goes : GoodIn wsX1_payBack wsX1_goes := goodIn_r _ [15, 16, 32, 33, 34, 35, 36, 37, 38, 39, 40, 41, 42, 43, 44, 45, 46, 47, 48, 49, 50] (by decide +kernel) (by decide +kernel)
set_option maxRecDepth 20000 in
theorem gX1_payBack_X1_goes : GoodIn wsX1_payBack (wsV RX1 77 RX1 yX1_goes wsX1_goes) := goodIn_app (goodIn_of _ (by decide +kernel)) ggX1_payBack_X1_goes
set_option maxRecDepth 20000 in
theorem ggX1_payBack_X1_doesLast : GoodIn wsX1_payBack wsX1_doesLast := goodIn_r _ [20, 21, 1, 32, 33, 34, 35, 36, 37, 38, 39, 40, 41, 42, 43, 44, 45, 46, 47, 48, 49, 50] (by decide +kernel) (by decide +kernel)
set_option maxRecDepth 20000 in
theorem gX1_payBack_X1_doesLast : GoodIn wsX1_payBack (wsV RX1 94 RX1 yX1_doesLast wsX1_doesLast) := goodIn_app (goodIn_of _ (by decide +kernel)) ggX1_payBack_X1_doesLast
set_option maxRecDepth 20000 in
theorem ggX1_payBack_X1_isComing : GoodIn wsX1_payBack wsX1_isComing := goodIn_r _ [25, 26, 27, 32, 33, 34, 35, 36, 37, 38, 39, 40, 41, 42, 43, 44, 45, 46, 47, 48, 49, 50] (by decide +kernel) (by decide +kernel)
set_option maxRecDepth 20000 in
theorem gX1_payBack_X1_isComing : GoodIn wsX1_payBack (wsV RX1 97 RX1 yX1_isComing wsX1_isComing) := goodIn_app (goodIn_of _ (by decide +kernel)) ggX1_payBack_X1_isComing
set_option maxRecDepth 20000 in
theorem ggX1_payBack_X1_ends : GoodIn wsX1_payBack wsX1_ends := goodIn_r _ [31, 1, 21, 26, 32, 33, 34, 35, 36, 37, 38, 39, 40, 41, 42, 43, 44, 45, 46, 47, 48, 49, 50] (by decide +kernel) (by decide +kernel)
set_option maxRecDepth 20000 in
theorem gX1_payBack_X1_ends : GoodIn wsX1_payBack (wsV RX1 120 RX1 yX1_ends wsX1_ends) := goodIn_app (goodIn_of _ (by decide +kernel)) ggX1_payBack_X1_ends
theorem dX1_payBack_0 : decode cX1_payBack 0 = .ok (.aload_n 0, 1) := by decide +kernel
theorem dX1_payBack_1 : decode cX1_payBack 1 = .ok (.aload_n 0, 1) := by decide +kernel
theorem dX1_payBack_2 : decode cX1_payBack 2 = .ok (.iload_n 1, 1) := by decide +kernel
theorem dX1_payBack_3 : decode cX1_payBack 3 = .ok (.invokevirtual 147, 3) := by decide +kernel
theorem dX1_payBack_6 : decode cX1_payBack 6 = .ok (.ifCond .eq 7, 3) := by decide +kernel
theorem dX1_payBack_9 : decode cX1_payBack 9 = .ok (.iconst 0, 1) := by decide +kernel
theorem dX1_payBack_10 : decode cX1_payBack 10 = .ok (.goto 4, 3) := by decide +kernel
theorem dX1_payBack_13 : decode cX1_payBack 13 = .ok (.iconst 1, 1) := by decide +kernel
theorem dX1_payBack_14 : decode cX1_payBack 14 = .ok (.invokevirtual 77, 3) := by decide +kernel
theorem dX1_payBack_17 : decode cX1_payBack 17 = .ok (.ifCond .eq 36, 3) := by decide +kernel
theorem dX1_payBack_20 : decode cX1_payBack 20 = .ok (.aload_n 0, 1) := by decide +kernel
theorem dX1_payBack_21 : decode cX1_payBack 21 = .ok (.aload_n 0, 1) := by decide +kernel
theorem dX1_payBack_22 : decode cX1_payBack 22 = .ok (.iload_n 1, 1) := by decide +kernel
theorem dX1_payBack_23 : decode cX1_payBack 23 = .ok (.invokevirtual 94, 3) := by decide +kernel
theorem dX1_payBack_26 : decode cX1_payBack 26 = .ok (.ifCond .eq 16, 3) := by decide +kernel
theorem dX1_payBack_29 : decode cX1_payBack 29 = .ok (.aload_n 0, 1) := by decide +kernel
theorem dX1_payBack_30 : decode cX1_payBack 30 = .ok (.aload_n 0, 1) := by decide +kernel
theorem dX1_payBack_31 : decode cX1_payBack 31 = .ok (.getfield 42, 3) := by decide +kernel
theorem dX1_payBack_34 : decode cX1_payBack 34 = .ok (.iload_n 1, 1) := by decide +kernel
theorem dX1_payBack_35 : decode cX1_payBack 35 = .ok (.iaload, 1) := by decide +kernel
theorem dX1_payBack_36 : decode cX1_payBack 36 = .ok (.invokevirtual 97, 3) := by decide +kernel
theorem dX1_payBack_39 : decode cX1_payBack 39 = .ok (.ifCond .eq 7, 3) := by decide +kernel
theorem dX1_payBack_42 : decode cX1_payBack 42 = .ok (.iconst 2, 1) := by decide +kernel
theorem dX1_payBack_43 : decode cX1_payBack 43 = .ok (.goto 4, 3) := by decide +kernel
theorem dX1_payBack_46 : decode cX1_payBack 46 = .ok (.iconst 0, 1) := by decide +kernel
theorem dX1_payBack_47 : decode cX1_payBack 47 = .ok (.invokevirtual 77, 3) := by decide +kernel
theorem dX1_payBack_50 : decode cX1_payBack 50 = .ok (.ifCond .ne 5, 3) := by decide +kernel
theorem dX1_payBack_53 : decode cX1_payBack 53 = .ok (.iconst 0, 1) := by decide +kernel
theorem dX1_payBack_54 : decode cX1_payBack 54 = .ok (.ireturn, 1) := by decide +kernel
theorem dX1_payBack_55 : decode cX1_payBack 55 = .ok (.aload_n 0, 1) := by decide +kernel
theorem dX1_payBack_56 : decode cX1_payBack 56 = .ok (.iload_n 1, 1) := by decide +kernel
theorem dX1_payBack_57 : decode cX1_payBack 57 = .ok (.invokevirtual 120, 3) := by decide +kernel
theorem dX1_payBack_60 : decode cX1_payBack 60 = .ok (.aload_n 0, 1) := by decide +kernel
theorem dX1_payBack_61 : decode cX1_payBack 61 = .ok (.getfield 45, 3) := by decide +kernel
theorem dX1_payBack_64 : decode cX1_payBack 64 = .ok (.iload_n 1, 1) := by decide +kernel
theorem dX1_payBack_65 : decode cX1_payBack 65 = .ok (.iaload, 1) := by decide +kernel
theorem dX1_payBack_66 : decode cX1_payBack 66 = .ok (.ireturn, 1) := by decide +kernel
set_option maxRecDepth 20000 in
theorem ggX1_trackOf_X1_holderOf : GoodIn wsX1_trackOf wsX1_holderOf := goodIn_r _ [6, 7, 8, 9, 10, 11, 12, 13, 14, 15, 16, 17, 18, 19, 20, 21, 22, 23, 24, 25, 26, 27, 28] (by decide +kernel) (by decide +kernel)
set_option maxRecDepth 20000 in
theorem gX1_trackOf_X1_holderOf : GoodIn wsX1_trackOf (wsV RX1 90 RX1 yX1_holderOf wsX1_holderOf) := goodIn_app (goodIn_of _ (by decide +kernel)) ggX1_trackOf_X1_holderOf
theorem dX1_trackOf_0 : decode cX1_trackOf 0 = .ok (.bipush 8, 2) := by decide +kernel
theorem dX1_trackOf_2 : decode cX1_trackOf 2 = .ok (.aload_n 0, 1) := by decide +kernel
theorem dX1_trackOf_3 : decode cX1_trackOf 3 = .ok (.iload_n 1, 1) := by decide +kernel
theorem dX1_trackOf_4 : decode cX1_trackOf 4 = .ok (.invokevirtual 90, 3) := by decide +kernel
theorem dX1_trackOf_7 : decode cX1_trackOf 7 = .ok (.imul, 1) := by decide +kernel
theorem dX1_trackOf_8 : decode cX1_trackOf 8 = .ok (.aload_n 0, 1) := by decide +kernel
theorem dX1_trackOf_9 : decode cX1_trackOf 9 = .ok (.getfield 17, 3) := by decide +kernel
theorem dX1_trackOf_12 : decode cX1_trackOf 12 = .ok (.iload_n 1, 1) := by decide +kernel
theorem dX1_trackOf_13 : decode cX1_trackOf 13 = .ok (.iaload, 1) := by decide +kernel
theorem dX1_trackOf_14 : decode cX1_trackOf 14 = .ok (.iadd, 1) := by decide +kernel
theorem dX1_trackOf_15 : decode cX1_trackOf 15 = .ok (.ireturn, 1) := by decide +kernel
set_option maxRecDepth 20000 in
theorem ggX1_sleeps_X1_holderOf : GoodIn wsX1_sleeps wsX1_holderOf := goodIn_r _ [10, 11, 12, 4, 27, 28, 29, 30, 31, 32, 33, 34, 35, 36, 37, 38, 39, 40, 41, 42, 43, 44, 45] (by decide +kernel) (by decide +kernel)
set_option maxRecDepth 20000 in
theorem gX1_sleeps_X1_holderOf : GoodIn wsX1_sleeps (wsV RX1 90 RX1 yX1_holderOf wsX1_holderOf) := goodIn_app (goodIn_of _ (by decide +kernel)) ggX1_sleeps_X1_holderOf
set_option maxRecDepth 20000 in
theorem ggX1_sleeps_X1_isComing : GoodIn wsX1_sleeps wsX1_isComing := goodIn_r _ [16, 2, 17, 27, 28, 29, 30, 31, 32, 33, 34, 35, 36, 37, 38, 39, 40, 41, 42, 43, 44, 45] (by decide +kernel) (by decide +kernel)
set_option maxRecDepth 20000 in
theorem gX1_sleeps_X1_isComing : GoodIn wsX1_sleeps (wsV RX1 97 RX1 yX1_isComing wsX1_isComing) := goodIn_app (goodIn_of _ (by decide +kernel)) ggX1_sleeps_X1_isComing
set_option maxRecDepth 20000 in
theorem ggX1_sleeps_X1_doesLast : GoodIn wsX1_sleeps wsX1_doesLast := goodIn_r _ [21, 11, 22, 27, 28, 29, 30, 31, 32, 33, 34, 35, 36, 37, 38, 39, 40, 41, 42, 43, 44, 45] (by decide +kernel) (by decide +kernel)
set_option maxRecDepth 20000 in
theorem gX1_sleeps_X1_doesLast : GoodIn wsX1_sleeps (wsV RX1 94 RX1 yX1_doesLast wsX1_doesLast) := goodIn_app (goodIn_of _ (by decide +kernel)) ggX1_sleeps_X1_doesLast
set_option maxRecDepth 20000 in
theorem ggX1_sleeps_X1_ends : GoodIn wsX1_sleeps wsX1_ends := goodIn_r _ [26, 22, 11, 2, 27, 28, 29, 30, 31, 32, 33, 34, 35, 36, 37, 38, 39, 40, 41, 42, 43, 44, 45] (by decide +kernel) (by decide +kernel)
set_option maxRecDepth 20000 in
theorem gX1_sleeps_X1_ends : GoodIn wsX1_sleeps (wsV RX1 120 RX1 yX1_ends wsX1_ends) := goodIn_app (goodIn_of _ (by decide +kernel)) ggX1_sleeps_X1_ends
theorem dX1_sleeps_0 : decode cX1_sleeps 0 = .ok (.iconst 0, 1) := by decide +kernel
theorem dX1_sleeps_1 : decode cX1_sleeps 1 = .ok (.istore_n 2, 1) := by decide +kernel
theorem dX1_sleeps_2 : decode cX1_sleeps 2 = .ok (.iload_n 2, 1) := by decide +kernel
theorem dX1_sleeps_3 : decode cX1_sleeps 3 = .ok (.bipush 12, 2) := by decide +kernel
theorem dX1_sleeps_5 : decode cX1_sleeps 5 = .ok (.if_icmp .ge 53, 3) := by decide +kernel
theorem dX1_sleeps_8 : decode cX1_sleeps 8 = .ok (.aload_n 0, 1) := by decide +kernel
theorem dX1_sleeps_9 : decode cX1_sleeps 9 = .ok (.iload_n 2, 1) := by decide +kernel
theorem dX1_sleeps_10 : decode cX1_sleeps 10 = .ok (.invokevirtual 90, 3) := by decide +kernel
theorem dX1_sleeps_13 : decode cX1_sleeps 13 = .ok (.iload_n 1, 1) := by decide +kernel
theorem dX1_sleeps_14 : decode cX1_sleeps 14 = .ok (.if_icmp .ne 38, 3) := by decide +kernel
theorem dX1_sleeps_17 : decode cX1_sleeps 17 = .ok (.aload_n 0, 1) := by decide +kernel
theorem dX1_sleeps_18 : decode cX1_sleeps 18 = .ok (.iload_n 2, 1) := by decide +kernel
theorem dX1_sleeps_19 : decode cX1_sleeps 19 = .ok (.invokevirtual 97, 3) := by decide +kernel
theorem dX1_sleeps_22 : decode cX1_sleeps 22 = .ok (.ifCond .eq 30, 3) := by decide +kernel
theorem dX1_sleeps_25 : decode cX1_sleeps 25 = .ok (.aload_n 0, 1) := by decide +kernel
theorem dX1_sleeps_26 : decode cX1_sleeps 26 = .ok (.aload_n 0, 1) := by decide +kernel
theorem dX1_sleeps_27 : decode cX1_sleeps 27 = .ok (.getfield 54, 3) := by decide +kernel
theorem dX1_sleeps_30 : decode cX1_sleeps 30 = .ok (.iload_n 2, 1) := by decide +kernel
theorem dX1_sleeps_31 : decode cX1_sleeps 31 = .ok (.if_icmp .ne 7, 3) := by decide +kernel
theorem dX1_sleeps_34 : decode cX1_sleeps 34 = .ok (.iconst (-1), 1) := by decide +kernel
theorem dX1_sleeps_35 : decode cX1_sleeps 35 = .ok (.goto 7, 3) := by decide +kernel
theorem dX1_sleeps_38 : decode cX1_sleeps 38 = .ok (.aload_n 0, 1) := by decide +kernel
theorem dX1_sleeps_39 : decode cX1_sleeps 39 = .ok (.getfield 54, 3) := by decide +kernel
theorem dX1_sleeps_42 : decode cX1_sleeps 42 = .ok (.putfield 54, 3) := by decide +kernel
theorem dX1_sleeps_45 : decode cX1_sleeps 45 = .ok (.aload_n 0, 1) := by decide +kernel
theorem dX1_sleeps_46 : decode cX1_sleeps 46 = .ok (.getfield 17, 3) := by decide +kernel
theorem dX1_sleeps_49 : decode cX1_sleeps 49 = .ok (.iload_n 2, 1) := by decide +kernel
theorem dX1_sleeps_50 : decode cX1_sleeps 50 = .ok (.iconst (-1), 1) := by decide +kernel
theorem dX1_sleeps_51 : decode cX1_sleeps 51 = .ok (.iastore, 1) := by decide +kernel
theorem dX1_sleeps_52 : decode cX1_sleeps 52 = .ok (.iinc 2 1, 3) := by decide +kernel
theorem dX1_sleeps_55 : decode cX1_sleeps 55 = .ok (.goto (-53), 3) := by decide +kernel
theorem dX1_sleeps_58 : decode cX1_sleeps 58 = .ok (.iconst 0, 1) := by decide +kernel
theorem dX1_sleeps_59 : decode cX1_sleeps 59 = .ok (.istore_n 2, 1) := by decide +kernel
theorem dX1_sleeps_60 : decode cX1_sleeps 60 = .ok (.iload_n 2, 1) := by decide +kernel
theorem dX1_sleeps_61 : decode cX1_sleeps 61 = .ok (.aload_n 0, 1) := by decide +kernel
theorem dX1_sleeps_62 : decode cX1_sleeps 62 = .ok (.getfield 64, 3) := by decide +kernel
theorem dX1_sleeps_65 : decode cX1_sleeps 65 = .ok (.if_icmp .ge 32, 3) := by decide +kernel
theorem dX1_sleeps_68 : decode cX1_sleeps 68 = .ok (.aload_n 0, 1) := by decide +kernel
theorem dX1_sleeps_69 : decode cX1_sleeps 69 = .ok (.iload_n 2, 1) := by decide +kernel
theorem dX1_sleeps_70 : decode cX1_sleeps 70 = .ok (.invokevirtual 94, 3) := by decide +kernel
theorem dX1_sleeps_73 : decode cX1_sleeps 73 = .ok (.ifCond .eq 18, 3) := by decide +kernel
theorem dX1_sleeps_76 : decode cX1_sleeps 76 = .ok (.aload_n 0, 1) := by decide +kernel
theorem dX1_sleeps_77 : decode cX1_sleeps 77 = .ok (.getfield 48, 3) := by decide +kernel
theorem dX1_sleeps_80 : decode cX1_sleeps 80 = .ok (.iload_n 2, 1) := by decide +kernel
theorem dX1_sleeps_81 : decode cX1_sleeps 81 = .ok (.iaload, 1) := by decide +kernel
theorem dX1_sleeps_82 : decode cX1_sleeps 82 = .ok (.iload_n 1, 1) := by decide +kernel
theorem dX1_sleeps_83 : decode cX1_sleeps 83 = .ok (.if_icmp .ne 8, 3) := by decide +kernel
theorem dX1_sleeps_86 : decode cX1_sleeps 86 = .ok (.aload_n 0, 1) := by decide +kernel
theorem dX1_sleeps_87 : decode cX1_sleeps 87 = .ok (.iload_n 2, 1) := by decide +kernel
theorem dX1_sleeps_88 : decode cX1_sleeps 88 = .ok (.invokevirtual 120, 3) := by decide +kernel
theorem dX1_sleeps_91 : decode cX1_sleeps 91 = .ok (.iinc 2 1, 3) := by decide +kernel
theorem dX1_sleeps_94 : decode cX1_sleeps 94 = .ok (.goto (-34), 3) := by decide +kernel
theorem dX1_sleeps_97 : decode cX1_sleeps 97 = .ok (.aload_n 0, 1) := by decide +kernel
theorem dX1_sleeps_98 : decode cX1_sleeps 98 = .ok (.getfield 36, 3) := by decide +kernel
theorem dX1_sleeps_101 : decode cX1_sleeps 101 = .ok (.iload_n 1, 1) := by decide +kernel
theorem dX1_sleeps_102 : decode cX1_sleeps 102 = .ok (.iconst 2, 1) := by decide +kernel
theorem dX1_sleeps_103 : decode cX1_sleeps 103 = .ok (.iastore, 1) := by decide +kernel
theorem dX1_sleeps_104 : decode cX1_sleeps 104 = .ok (.return_, 1) := by decide +kernel
set_option maxRecDepth 20000 in
theorem ggX1_pays_X1_doesLast : GoodIn wsX1_pays wsX1_doesLast := goodIn_r _ [11, 12, 13, 35, 36, 37, 38, 39, 40, 41, 42, 43, 44, 45, 46, 47, 48, 49, 50, 51, 52, 53] (by decide +kernel) (by decide +kernel)
set_option maxRecDepth 20000 in
theorem gX1_pays_X1_doesLast : GoodIn wsX1_pays (wsV RX1 94 RX1 yX1_doesLast wsX1_doesLast) := goodIn_app (goodIn_of _ (by decide +kernel)) ggX1_pays_X1_doesLast
set_option maxRecDepth 20000 in
theorem ggX1_pays_X1_sleeps : GoodIn wsX1_pays wsX1_sleeps := goodIn_r _ [17, 18, 19, 1, 3, 20, 21, 22, 23, 10, 24, 12, 25, 26, 27, 28, 29, 30, 7, 8, 9, 11, 13, 31, 32, 33, 34, 35, 36, 37, 38, 39, 40, 41, 42, 43, 44, 45, 46, 47, 48, 49, 50, 51, 52, 53] (by decide +kernel) (by decide +kernel)
set_option maxRecDepth 20000 in
theorem gX1_pays_X1_sleeps : GoodIn wsX1_pays (wsV RX1 150 RX1 yX1_sleeps wsX1_sleeps) := goodIn_app (goodIn_of _ (by decide +kernel)) ggX1_pays_X1_sleeps
theorem dX1_pays_0 : decode cX1_pays 0 = .ok (.iconst 0, 1) := by decide +kernel
theorem dX1_pays_1 : decode cX1_pays 1 = .ok (.istore_n 1, 1) := by decide +kernel
theorem dX1_pays_2 : decode cX1_pays 2 = .ok (.iload_n 1, 1) := by decide +kernel
theorem dX1_pays_3 : decode cX1_pays 3 = .ok (.aload_n 0, 1) := by decide +kernel
theorem dX1_pays_4 : decode cX1_pays 4 = .ok (.getfield 64, 3) := by decide +kernel
theorem dX1_pays_7 : decode cX1_pays 7 = .ok (.if_icmp .ge 102, 3) := by decide +kernel
theorem dX1_pays_10 : decode cX1_pays 10 = .ok (.aload_n 0, 1) := by decide +kernel
theorem dX1_pays_11 : decode cX1_pays 11 = .ok (.iload_n 1, 1) := by decide +kernel
theorem dX1_pays_12 : decode cX1_pays 12 = .ok (.invokevirtual 94, 3) := by decide +kernel
theorem dX1_pays_15 : decode cX1_pays 15 = .ok (.ifCond .eq 31, 3) := by decide +kernel
theorem dX1_pays_18 : decode cX1_pays 18 = .ok (.aload_n 0, 1) := by decide +kernel
theorem dX1_pays_19 : decode cX1_pays 19 = .ok (.getfield 33, 3) := by decide +kernel
theorem dX1_pays_22 : decode cX1_pays 22 = .ok (.aload_n 0, 1) := by decide +kernel
theorem dX1_pays_23 : decode cX1_pays 23 = .ok (.getfield 48, 3) := by decide +kernel
theorem dX1_pays_26 : decode cX1_pays 26 = .ok (.iload_n 1, 1) := by decide +kernel
theorem dX1_pays_27 : decode cX1_pays 27 = .ok (.iaload, 1) := by decide +kernel
theorem dX1_pays_28 : decode cX1_pays 28 = .ok (.iaload, 1) := by decide +kernel
theorem dX1_pays_29 : decode cX1_pays 29 = .ok (.aload_n 0, 1) := by decide +kernel
theorem dX1_pays_30 : decode cX1_pays 30 = .ok (.getfield 7, 3) := by decide +kernel
theorem dX1_pays_33 : decode cX1_pays 33 = .ok (.if_icmp .ge 13, 3) := by decide +kernel
theorem dX1_pays_36 : decode cX1_pays 36 = .ok (.aload_n 0, 1) := by decide +kernel
theorem dX1_pays_37 : decode cX1_pays 37 = .ok (.aload_n 0, 1) := by decide +kernel
theorem dX1_pays_38 : decode cX1_pays 38 = .ok (.getfield 48, 3) := by decide +kernel
theorem dX1_pays_41 : decode cX1_pays 41 = .ok (.iload_n 1, 1) := by decide +kernel
theorem dX1_pays_42 : decode cX1_pays 42 = .ok (.iaload, 1) := by decide +kernel
theorem dX1_pays_43 : decode cX1_pays 43 = .ok (.invokevirtual 150, 3) := by decide +kernel
theorem dX1_pays_46 : decode cX1_pays 46 = .ok (.aload_n 0, 1) := by decide +kernel
theorem dX1_pays_47 : decode cX1_pays 47 = .ok (.iload_n 1, 1) := by decide +kernel
theorem dX1_pays_48 : decode cX1_pays 48 = .ok (.invokevirtual 94, 3) := by decide +kernel
theorem dX1_pays_51 : decode cX1_pays 51 = .ok (.ifCond .eq 52, 3) := by decide +kernel
theorem dX1_pays_54 : decode cX1_pays 54 = .ok (.aload_n 0, 1) := by decide +kernel
theorem dX1_pays_55 : decode cX1_pays 55 = .ok (.getfield 33, 3) := by decide +kernel
theorem dX1_pays_58 : decode cX1_pays 58 = .ok (.aload_n 0, 1) := by decide +kernel
theorem dX1_pays_59 : decode cX1_pays 59 = .ok (.getfield 48, 3) := by decide +kernel
theorem dX1_pays_62 : decode cX1_pays 62 = .ok (.iload_n 1, 1) := by decide +kernel
theorem dX1_pays_63 : decode cX1_pays 63 = .ok (.iaload, 1) := by decide +kernel
theorem dX1_pays_64 : decode cX1_pays 64 = .ok (.dup2, 1) := by decide +kernel
theorem dX1_pays_65 : decode cX1_pays 65 = .ok (.iaload, 1) := by decide +kernel
theorem dX1_pays_66 : decode cX1_pays 66 = .ok (.aload_n 0, 1) := by decide +kernel
theorem dX1_pays_67 : decode cX1_pays 67 = .ok (.getfield 7, 3) := by decide +kernel
theorem dX1_pays_70 : decode cX1_pays 70 = .ok (.isub, 1) := by decide +kernel
theorem dX1_pays_71 : decode cX1_pays 71 = .ok (.iastore, 1) := by decide +kernel
theorem dX1_pays_72 : decode cX1_pays 72 = .ok (.aload_n 0, 1) := by decide +kernel
theorem dX1_pays_73 : decode cX1_pays 73 = .ok (.getfield 33, 3) := by decide +kernel
theorem dX1_pays_76 : decode cX1_pays 76 = .ok (.aload_n 0, 1) := by decide +kernel
theorem dX1_pays_77 : decode cX1_pays 77 = .ok (.getfield 45, 3) := by decide +kernel
theorem dX1_pays_80 : decode cX1_pays 80 = .ok (.iload_n 1, 1) := by decide +kernel
theorem dX1_pays_81 : decode cX1_pays 81 = .ok (.iaload, 1) := by decide +kernel
theorem dX1_pays_82 : decode cX1_pays 82 = .ok (.dup2, 1) := by decide +kernel
theorem dX1_pays_83 : decode cX1_pays 83 = .ok (.iaload, 1) := by decide +kernel
theorem dX1_pays_84 : decode cX1_pays 84 = .ok (.aload_n 0, 1) := by decide +kernel
theorem dX1_pays_85 : decode cX1_pays 85 = .ok (.getfield 7, 3) := by decide +kernel
theorem dX1_pays_88 : decode cX1_pays 88 = .ok (.iadd, 1) := by decide +kernel
theorem dX1_pays_89 : decode cX1_pays 89 = .ok (.iastore, 1) := by decide +kernel
theorem dX1_pays_90 : decode cX1_pays 90 = .ok (.aload_n 0, 1) := by decide +kernel
theorem dX1_pays_91 : decode cX1_pays 91 = .ok (.getfield 51, 3) := by decide +kernel
theorem dX1_pays_94 : decode cX1_pays 94 = .ok (.iload_n 1, 1) := by decide +kernel
theorem dX1_pays_95 : decode cX1_pays 95 = .ok (.dup2, 1) := by decide +kernel
theorem dX1_pays_96 : decode cX1_pays 96 = .ok (.iaload, 1) := by decide +kernel
theorem dX1_pays_97 : decode cX1_pays 97 = .ok (.aload_n 0, 1) := by decide +kernel
theorem dX1_pays_98 : decode cX1_pays 98 = .ok (.getfield 7, 3) := by decide +kernel
theorem dX1_pays_101 : decode cX1_pays 101 = .ok (.iadd, 1) := by decide +kernel
theorem dX1_pays_102 : decode cX1_pays 102 = .ok (.iastore, 1) := by decide +kernel
theorem dX1_pays_103 : decode cX1_pays 103 = .ok (.iinc 1 1, 3) := by decide +kernel
theorem dX1_pays_106 : decode cX1_pays 106 = .ok (.goto (-104), 3) := by decide +kernel
theorem dX1_pays_109 : decode cX1_pays 109 = .ok (.return_, 1) := by decide +kernel
theorem dX1_richest_0 : decode cX1_richest 0 = .ok (.iconst (-1), 1) := by decide +kernel
theorem dX1_richest_1 : decode cX1_richest 1 = .ok (.istore_n 1, 1) := by decide +kernel
theorem dX1_richest_2 : decode cX1_richest 2 = .ok (.iconst 0, 1) := by decide +kernel
theorem dX1_richest_3 : decode cX1_richest 3 = .ok (.istore_n 2, 1) := by decide +kernel
theorem dX1_richest_4 : decode cX1_richest 4 = .ok (.iload_n 2, 1) := by decide +kernel
theorem dX1_richest_5 : decode cX1_richest 5 = .ok (.iconst 5, 1) := by decide +kernel
theorem dX1_richest_6 : decode cX1_richest 6 = .ok (.if_icmp .ge 66, 3) := by decide +kernel
theorem dX1_richest_9 : decode cX1_richest 9 = .ok (.aload_n 0, 1) := by decide +kernel
theorem dX1_richest_10 : decode cX1_richest 10 = .ok (.getfield 36, 3) := by decide +kernel
theorem dX1_richest_13 : decode cX1_richest 13 = .ok (.iload_n 2, 1) := by decide +kernel
theorem dX1_richest_14 : decode cX1_richest 14 = .ok (.iaload, 1) := by decide +kernel
theorem dX1_richest_15 : decode cX1_richest 15 = .ok (.iconst 2, 1) := by decide +kernel
theorem dX1_richest_16 : decode cX1_richest 16 = .ok (.if_icmp .eq 18, 3) := by decide +kernel
theorem dX1_richest_19 : decode cX1_richest 19 = .ok (.aload_n 0, 1) := by decide +kernel
theorem dX1_richest_20 : decode cX1_richest 20 = .ok (.getfield 33, 3) := by decide +kernel
theorem dX1_richest_23 : decode cX1_richest 23 = .ok (.iload_n 2, 1) := by decide +kernel
theorem dX1_richest_24 : decode cX1_richest 24 = .ok (.iaload, 1) := by decide +kernel
theorem dX1_richest_25 : decode cX1_richest 25 = .ok (.bipush 20, 2) := by decide +kernel
theorem dX1_richest_27 : decode cX1_richest 27 = .ok (.if_icmp .lt 7, 3) := by decide +kernel
theorem dX1_richest_30 : decode cX1_richest 30 = .ok (.iconst 1, 1) := by decide +kernel
theorem dX1_richest_31 : decode cX1_richest 31 = .ok (.goto 4, 3) := by decide +kernel
theorem dX1_richest_34 : decode cX1_richest 34 = .ok (.iconst 0, 1) := by decide +kernel
theorem dX1_richest_35 : decode cX1_richest 35 = .ok (.istore_n 3, 1) := by decide +kernel
theorem dX1_richest_36 : decode cX1_richest 36 = .ok (.iload_n 3, 1) := by decide +kernel
theorem dX1_richest_37 : decode cX1_richest 37 = .ok (.ifCond .eq 27, 3) := by decide +kernel
theorem dX1_richest_40 : decode cX1_richest 40 = .ok (.iload_n 1, 1) := by decide +kernel
theorem dX1_richest_41 : decode cX1_richest 41 = .ok (.iconst (-1), 1) := by decide +kernel
theorem dX1_richest_42 : decode cX1_richest 42 = .ok (.if_icmp .eq 18, 3) := by decide +kernel
theorem dX1_richest_45 : decode cX1_richest 45 = .ok (.aload_n 0, 1) := by decide +kernel
theorem dX1_richest_46 : decode cX1_richest 46 = .ok (.getfield 33, 3) := by decide +kernel
theorem dX1_richest_49 : decode cX1_richest 49 = .ok (.iload_n 2, 1) := by decide +kernel
theorem dX1_richest_50 : decode cX1_richest 50 = .ok (.iaload, 1) := by decide +kernel
theorem dX1_richest_51 : decode cX1_richest 51 = .ok (.aload_n 0, 1) := by decide +kernel
theorem dX1_richest_52 : decode cX1_richest 52 = .ok (.getfield 33, 3) := by decide +kernel
theorem dX1_richest_55 : decode cX1_richest 55 = .ok (.iload_n 1, 1) := by decide +kernel
theorem dX1_richest_56 : decode cX1_richest 56 = .ok (.iaload, 1) := by decide +kernel
theorem dX1_richest_57 : decode cX1_richest 57 = .ok (.if_icmp .le 7, 3) := by decide +kernel
theorem dX1_richest_60 : decode cX1_richest 60 = .ok (.iload_n 2, 1) := by decide +kernel
theorem dX1_richest_61 : decode cX1_richest 61 = .ok (.goto 4, 3) := by decide +kernel
theorem dX1_richest_64 : decode cX1_richest 64 = .ok (.iload_n 1, 1) := by decide +kernel
theorem dX1_richest_65 : decode cX1_richest 65 = .ok (.istore_n 1, 1) := by decide +kernel
theorem dX1_richest_66 : decode cX1_richest 66 = .ok (.iinc 2 1, 3) := by decide +kernel
theorem dX1_richest_69 : decode cX1_richest 69 = .ok (.goto (-65), 3) := by decide +kernel
theorem dX1_richest_72 : decode cX1_richest 72 = .ok (.iload_n 1, 1) := by decide +kernel
theorem dX1_richest_73 : decode cX1_richest 73 = .ok (.ireturn, 1) := by decide +kernel
set_option maxRecDepth 20000 in
theorem ggX1_gives_X1_richest : GoodIn wsX1_gives wsX1_richest := goodIn_r _ [7, 1, 2, 8, 9, 10, 11, 12, 13, 14, 15, 16, 17, 18, 19, 20, 21, 22, 23, 24, 25, 26] (by decide +kernel) (by decide +kernel)
set_option maxRecDepth 20000 in
theorem gX1_gives_X1_richest : GoodIn wsX1_gives (wsV RX1 153 RX1 yX1_richest wsX1_richest) := goodIn_app (goodIn_of _ (by decide +kernel)) ggX1_gives_X1_richest
theorem dX1_gives_0 : decode cX1_gives 0 = .ok (.iconst 0, 1) := by decide +kernel
theorem dX1_gives_1 : decode cX1_gives 1 = .ok (.istore_n 1, 1) := by decide +kernel
theorem dX1_gives_2 : decode cX1_gives 2 = .ok (.iload_n 1, 1) := by decide +kernel
theorem dX1_gives_3 : decode cX1_gives 3 = .ok (.iconst 5, 1) := by decide +kernel
theorem dX1_gives_4 : decode cX1_gives 4 = .ok (.if_icmp .ge 89, 3) := by decide +kernel
theorem dX1_gives_7 : decode cX1_gives 7 = .ok (.aload_n 0, 1) := by decide +kernel
theorem dX1_gives_8 : decode cX1_gives 8 = .ok (.getfield 36, 3) := by decide +kernel
theorem dX1_gives_11 : decode cX1_gives 11 = .ok (.iload_n 1, 1) := by decide +kernel
theorem dX1_gives_12 : decode cX1_gives 12 = .ok (.iaload, 1) := by decide +kernel
theorem dX1_gives_13 : decode cX1_gives 13 = .ok (.iconst 2, 1) := by decide +kernel
theorem dX1_gives_14 : decode cX1_gives 14 = .ok (.if_icmp .ne 10, 3) := by decide +kernel
theorem dX1_gives_17 : decode cX1_gives 17 = .ok (.aload_n 0, 1) := by decide +kernel
theorem dX1_gives_18 : decode cX1_gives 18 = .ok (.invokevirtual 153, 3) := by decide +kernel
theorem dX1_gives_21 : decode cX1_gives 21 = .ok (.goto 4, 3) := by decide +kernel
theorem dX1_gives_24 : decode cX1_gives 24 = .ok (.iconst (-1), 1) := by decide +kernel
theorem dX1_gives_25 : decode cX1_gives 25 = .ok (.istore_n 2, 1) := by decide +kernel
theorem dX1_gives_26 : decode cX1_gives 26 = .ok (.iload_n 2, 1) := by decide +kernel
theorem dX1_gives_27 : decode cX1_gives 27 = .ok (.iconst (-1), 1) := by decide +kernel
theorem dX1_gives_28 : decode cX1_gives 28 = .ok (.if_icmp .eq 23, 3) := by decide +kernel
theorem dX1_gives_31 : decode cX1_gives 31 = .ok (.aload_n 0, 1) := by decide +kernel
theorem dX1_gives_32 : decode cX1_gives 32 = .ok (.getfield 33, 3) := by decide +kernel
theorem dX1_gives_35 : decode cX1_gives 35 = .ok (.iload_n 2, 1) := by decide +kernel
theorem dX1_gives_36 : decode cX1_gives 36 = .ok (.dup2, 1) := by decide +kernel
theorem dX1_gives_37 : decode cX1_gives 37 = .ok (.iaload, 1) := by decide +kernel
theorem dX1_gives_38 : decode cX1_gives 38 = .ok (.iconst 1, 1) := by decide +kernel
theorem dX1_gives_39 : decode cX1_gives 39 = .ok (.isub, 1) := by decide +kernel
theorem dX1_gives_40 : decode cX1_gives 40 = .ok (.iastore, 1) := by decide +kernel
theorem dX1_gives_41 : decode cX1_gives 41 = .ok (.aload_n 0, 1) := by decide +kernel
theorem dX1_gives_42 : decode cX1_gives 42 = .ok (.getfield 33, 3) := by decide +kernel
theorem dX1_gives_45 : decode cX1_gives 45 = .ok (.iload_n 1, 1) := by decide +kernel
theorem dX1_gives_46 : decode cX1_gives 46 = .ok (.dup2, 1) := by decide +kernel
theorem dX1_gives_47 : decode cX1_gives 47 = .ok (.iaload, 1) := by decide +kernel
theorem dX1_gives_48 : decode cX1_gives 48 = .ok (.iconst 1, 1) := by decide +kernel
theorem dX1_gives_49 : decode cX1_gives 49 = .ok (.iadd, 1) := by decide +kernel
theorem dX1_gives_50 : decode cX1_gives 50 = .ok (.iastore, 1) := by decide +kernel
theorem dX1_gives_51 : decode cX1_gives 51 = .ok (.aload_n 0, 1) := by decide +kernel
theorem dX1_gives_52 : decode cX1_gives 52 = .ok (.getfield 36, 3) := by decide +kernel
theorem dX1_gives_55 : decode cX1_gives 55 = .ok (.iload_n 1, 1) := by decide +kernel
theorem dX1_gives_56 : decode cX1_gives 56 = .ok (.aload_n 0, 1) := by decide +kernel
theorem dX1_gives_57 : decode cX1_gives 57 = .ok (.getfield 36, 3) := by decide +kernel
theorem dX1_gives_60 : decode cX1_gives 60 = .ok (.iload_n 1, 1) := by decide +kernel
theorem dX1_gives_61 : decode cX1_gives 61 = .ok (.iaload, 1) := by decide +kernel
theorem dX1_gives_62 : decode cX1_gives 62 = .ok (.iconst 2, 1) := by decide +kernel
theorem dX1_gives_63 : decode cX1_gives 63 = .ok (.if_icmp .ne 17, 3) := by decide +kernel
theorem dX1_gives_66 : decode cX1_gives 66 = .ok (.aload_n 0, 1) := by decide +kernel
theorem dX1_gives_67 : decode cX1_gives 67 = .ok (.getfield 33, 3) := by decide +kernel
theorem dX1_gives_70 : decode cX1_gives 70 = .ok (.iload_n 1, 1) := by decide +kernel
theorem dX1_gives_71 : decode cX1_gives 71 = .ok (.iaload, 1) := by decide +kernel
theorem dX1_gives_72 : decode cX1_gives 72 = .ok (.iconst 5, 1) := by decide +kernel
theorem dX1_gives_73 : decode cX1_gives 73 = .ok (.if_icmp .lt 7, 3) := by decide +kernel
theorem dX1_gives_76 : decode cX1_gives 76 = .ok (.iconst 0, 1) := by decide +kernel
theorem dX1_gives_77 : decode cX1_gives 77 = .ok (.goto 9, 3) := by decide +kernel
theorem dX1_gives_80 : decode cX1_gives 80 = .ok (.aload_n 0, 1) := by decide +kernel
theorem dX1_gives_81 : decode cX1_gives 81 = .ok (.getfield 36, 3) := by decide +kernel
theorem dX1_gives_84 : decode cX1_gives 84 = .ok (.iload_n 1, 1) := by decide +kernel
theorem dX1_gives_85 : decode cX1_gives 85 = .ok (.iaload, 1) := by decide +kernel
theorem dX1_gives_86 : decode cX1_gives 86 = .ok (.iastore, 1) := by decide +kernel
theorem dX1_gives_87 : decode cX1_gives 87 = .ok (.iinc 1 1, 3) := by decide +kernel
theorem dX1_gives_90 : decode cX1_gives 90 = .ok (.goto (-88), 3) := by decide +kernel
theorem dX1_gives_93 : decode cX1_gives 93 = .ok (.return_, 1) := by decide +kernel
set_option maxRecDepth 20000 in
theorem ggX1_distance_X1_trackOf : GoodIn wsX1_distance wsX1_trackOf := goodIn_r _ [6, 7, 8, 9, 10, 5, 11, 12, 13, 14, 15, 16, 17, 18, 19, 20, 21, 22, 23, 24, 25, 26, 27, 28, 29, 30, 31, 32, 33] (by decide +kernel) (by decide +kernel)
set_option maxRecDepth 20000 in
theorem gX1_distance_X1_trackOf : GoodIn wsX1_distance (wsV RX1 156 RX1 yX1_trackOf wsX1_trackOf) := goodIn_app (goodIn_of _ (by decide +kernel)) ggX1_distance_X1_trackOf
theorem dX1_distance_0 : decode cX1_distance 0 = .ok (.aload_n 0, 1) := by decide +kernel
theorem dX1_distance_1 : decode cX1_distance 1 = .ok (.iload_n 1, 1) := by decide +kernel
theorem dX1_distance_2 : decode cX1_distance 2 = .ok (.invokevirtual 156, 3) := by decide +kernel
theorem dX1_distance_5 : decode cX1_distance 5 = .ok (.istore_n 2, 1) := by decide +kernel
theorem dX1_distance_6 : decode cX1_distance 6 = .ok (.iload_n 2, 1) := by decide +kernel
theorem dX1_distance_7 : decode cX1_distance 7 = .ok (.aload_n 0, 1) := by decide +kernel
theorem dX1_distance_8 : decode cX1_distance 8 = .ok (.getfield 159, 3) := by decide +kernel
theorem dX1_distance_11 : decode cX1_distance 11 = .ok (.if_icmp .ge 12, 3) := by decide +kernel
theorem dX1_distance_14 : decode cX1_distance 14 = .ok (.aload_n 0, 1) := by decide +kernel
theorem dX1_distance_15 : decode cX1_distance 15 = .ok (.getfield 159, 3) := by decide +kernel
theorem dX1_distance_18 : decode cX1_distance 18 = .ok (.iload_n 2, 1) := by decide +kernel
theorem dX1_distance_19 : decode cX1_distance 19 = .ok (.isub, 1) := by decide +kernel
theorem dX1_distance_20 : decode cX1_distance 20 = .ok (.goto 9, 3) := by decide +kernel
theorem dX1_distance_23 : decode cX1_distance 23 = .ok (.iload_n 2, 1) := by decide +kernel
theorem dX1_distance_24 : decode cX1_distance 24 = .ok (.aload_n 0, 1) := by decide +kernel
theorem dX1_distance_25 : decode cX1_distance 25 = .ok (.getfield 159, 3) := by decide +kernel
theorem dX1_distance_28 : decode cX1_distance 28 = .ok (.isub, 1) := by decide +kernel
theorem dX1_distance_29 : decode cX1_distance 29 = .ok (.ireturn, 1) := by decide +kernel
set_option maxRecDepth 20000 in
theorem ggX1_nearest_X1_isComing : GoodIn wsX1_nearest wsX1_isComing := goodIn_r _ [5, 6, 7, 24, 25, 26, 27, 28, 29, 30, 31, 32, 33, 34, 35, 36, 37, 38, 39, 40, 41, 42] (by decide +kernel) (by decide +kernel)
set_option maxRecDepth 20000 in
theorem gX1_nearest_X1_isComing : GoodIn wsX1_nearest (wsV RX1 97 RX1 yX1_isComing wsX1_isComing) := goodIn_app (goodIn_of _ (by decide +kernel)) ggX1_nearest_X1_isComing
set_option maxRecDepth 20000 in
theorem ggX1_nearest_X1_distance : GoodIn wsX1_nearest wsX1_distance := goodIn_r _ [11, 12, 13, 14, 15, 4, 16, 6, 17, 18, 19, 20, 21, 22, 23, 24, 25, 26, 27, 28, 29, 30, 31, 32, 33, 34, 35, 36, 37, 38, 39, 40, 41, 42] (by decide +kernel) (by decide +kernel)
set_option maxRecDepth 20000 in
theorem gX1_nearest_X1_distance : GoodIn wsX1_nearest (wsV RX1 162 RX1 yX1_distance wsX1_distance) := goodIn_app (goodIn_of _ (by decide +kernel)) ggX1_nearest_X1_distance
set_option maxRecDepth 20000 in
theorem ggX1_nearest_X1_trackOf : GoodIn wsX1_nearest wsX1_trackOf := goodIn_r _ [16, 6, 17, 18, 19, 4, 20, 21, 22, 23, 24, 25, 26, 27, 28, 29, 30, 31, 32, 33, 34, 35, 36, 37, 38, 39, 40, 41, 42] (by decide +kernel) (by decide +kernel)
set_option maxRecDepth 20000 in
theorem gX1_nearest_X1_trackOf : GoodIn wsX1_nearest (wsV RX1 156 RX1 yX1_trackOf wsX1_trackOf) := goodIn_app (goodIn_of _ (by decide +kernel)) ggX1_nearest_X1_trackOf
theorem dX1_nearest_0 : decode cX1_nearest 0 = .ok (.iconst (-1), 1) := by decide +kernel
theorem dX1_nearest_1 : decode cX1_nearest 1 = .ok (.istore_n 1, 1) := by decide +kernel
theorem dX1_nearest_2 : decode cX1_nearest 2 = .ok (.iconst 0, 1) := by decide +kernel
theorem dX1_nearest_3 : decode cX1_nearest 3 = .ok (.istore_n 2, 1) := by decide +kernel
theorem dX1_nearest_4 : decode cX1_nearest 4 = .ok (.iload_n 2, 1) := by decide +kernel
theorem dX1_nearest_5 : decode cX1_nearest 5 = .ok (.bipush 12, 2) := by decide +kernel
theorem dX1_nearest_7 : decode cX1_nearest 7 = .ok (.if_icmp .ge 102, 3) := by decide +kernel
theorem dX1_nearest_10 : decode cX1_nearest 10 = .ok (.aload_n 0, 1) := by decide +kernel
theorem dX1_nearest_11 : decode cX1_nearest 11 = .ok (.iload_n 2, 1) := by decide +kernel
theorem dX1_nearest_12 : decode cX1_nearest 12 = .ok (.invokevirtual 97, 3) := by decide +kernel
theorem dX1_nearest_15 : decode cX1_nearest 15 = .ok (.istore_n 3, 1) := by decide +kernel
theorem dX1_nearest_16 : decode cX1_nearest 16 = .ok (.iload_n 3, 1) := by decide +kernel
theorem dX1_nearest_17 : decode cX1_nearest 17 = .ok (.ifCond .eq 25, 3) := by decide +kernel
theorem dX1_nearest_20 : decode cX1_nearest 20 = .ok (.iload_n 1, 1) := by decide +kernel
theorem dX1_nearest_21 : decode cX1_nearest 21 = .ok (.iconst (-1), 1) := by decide +kernel
theorem dX1_nearest_22 : decode cX1_nearest 22 = .ok (.if_icmp .eq 16, 3) := by decide +kernel
theorem dX1_nearest_25 : decode cX1_nearest 25 = .ok (.aload_n 0, 1) := by decide +kernel
theorem dX1_nearest_26 : decode cX1_nearest 26 = .ok (.iload_n 2, 1) := by decide +kernel
theorem dX1_nearest_27 : decode cX1_nearest 27 = .ok (.invokevirtual 162, 3) := by decide +kernel
theorem dX1_nearest_30 : decode cX1_nearest 30 = .ok (.aload_n 0, 1) := by decide +kernel
theorem dX1_nearest_31 : decode cX1_nearest 31 = .ok (.iload_n 1, 1) := by decide +kernel
theorem dX1_nearest_32 : decode cX1_nearest 32 = .ok (.invokevirtual 162, 3) := by decide +kernel
theorem dX1_nearest_35 : decode cX1_nearest 35 = .ok (.if_icmp .ge 7, 3) := by decide +kernel
theorem dX1_nearest_38 : decode cX1_nearest 38 = .ok (.iconst 1, 1) := by decide +kernel
theorem dX1_nearest_39 : decode cX1_nearest 39 = .ok (.goto 4, 3) := by decide +kernel
theorem dX1_nearest_42 : decode cX1_nearest 42 = .ok (.iconst 0, 1) := by decide +kernel
theorem dX1_nearest_43 : decode cX1_nearest 43 = .ok (.istore 4, 2) := by decide +kernel
theorem dX1_nearest_45 : decode cX1_nearest 45 = .ok (.iload_n 3, 1) := by decide +kernel
theorem dX1_nearest_46 : decode cX1_nearest 46 = .ok (.ifCond .eq 38, 3) := by decide +kernel
theorem dX1_nearest_49 : decode cX1_nearest 49 = .ok (.iload_n 1, 1) := by decide +kernel
theorem dX1_nearest_50 : decode cX1_nearest 50 = .ok (.iconst (-1), 1) := by decide +kernel
theorem dX1_nearest_51 : decode cX1_nearest 51 = .ok (.if_icmp .eq 33, 3) := by decide +kernel
theorem dX1_nearest_54 : decode cX1_nearest 54 = .ok (.aload_n 0, 1) := by decide +kernel
theorem dX1_nearest_55 : decode cX1_nearest 55 = .ok (.iload_n 2, 1) := by decide +kernel
theorem dX1_nearest_56 : decode cX1_nearest 56 = .ok (.invokevirtual 162, 3) := by decide +kernel
theorem dX1_nearest_59 : decode cX1_nearest 59 = .ok (.aload_n 0, 1) := by decide +kernel
theorem dX1_nearest_60 : decode cX1_nearest 60 = .ok (.iload_n 1, 1) := by decide +kernel
theorem dX1_nearest_61 : decode cX1_nearest 61 = .ok (.invokevirtual 162, 3) := by decide +kernel
theorem dX1_nearest_64 : decode cX1_nearest 64 = .ok (.if_icmp .ne 20, 3) := by decide +kernel
theorem dX1_nearest_67 : decode cX1_nearest 67 = .ok (.aload_n 0, 1) := by decide +kernel
theorem dX1_nearest_68 : decode cX1_nearest 68 = .ok (.iload_n 2, 1) := by decide +kernel
theorem dX1_nearest_69 : decode cX1_nearest 69 = .ok (.invokevirtual 156, 3) := by decide +kernel
theorem dX1_nearest_72 : decode cX1_nearest 72 = .ok (.aload_n 0, 1) := by decide +kernel
theorem dX1_nearest_73 : decode cX1_nearest 73 = .ok (.iload_n 1, 1) := by decide +kernel
theorem dX1_nearest_74 : decode cX1_nearest 74 = .ok (.invokevirtual 156, 3) := by decide +kernel
theorem dX1_nearest_77 : decode cX1_nearest 77 = .ok (.if_icmp .ge 7, 3) := by decide +kernel
theorem dX1_nearest_80 : decode cX1_nearest 80 = .ok (.iconst 1, 1) := by decide +kernel
theorem dX1_nearest_81 : decode cX1_nearest 81 = .ok (.goto 4, 3) := by decide +kernel
theorem dX1_nearest_84 : decode cX1_nearest 84 = .ok (.iconst 0, 1) := by decide +kernel
theorem dX1_nearest_85 : decode cX1_nearest 85 = .ok (.istore 5, 2) := by decide +kernel
theorem dX1_nearest_87 : decode cX1_nearest 87 = .ok (.iload 4, 2) := by decide +kernel
theorem dX1_nearest_89 : decode cX1_nearest 89 = .ok (.ifCond .ne 8, 3) := by decide +kernel
theorem dX1_nearest_92 : decode cX1_nearest 92 = .ok (.iload 5, 2) := by decide +kernel
theorem dX1_nearest_94 : decode cX1_nearest 94 = .ok (.ifCond .eq 7, 3) := by decide +kernel
theorem dX1_nearest_97 : decode cX1_nearest 97 = .ok (.iload_n 2, 1) := by decide +kernel
theorem dX1_nearest_98 : decode cX1_nearest 98 = .ok (.goto 4, 3) := by decide +kernel
theorem dX1_nearest_101 : decode cX1_nearest 101 = .ok (.iload_n 1, 1) := by decide +kernel
theorem dX1_nearest_102 : decode cX1_nearest 102 = .ok (.istore_n 1, 1) := by decide +kernel
theorem dX1_nearest_103 : decode cX1_nearest 103 = .ok (.iinc 2 1, 3) := by decide +kernel
theorem dX1_nearest_106 : decode cX1_nearest 106 = .ok (.goto (-102), 3) := by decide +kernel
theorem dX1_nearest_109 : decode cX1_nearest 109 = .ok (.iload_n 1, 1) := by decide +kernel
theorem dX1_nearest_110 : decode cX1_nearest 110 = .ok (.ireturn, 1) := by decide +kernel
set_option maxRecDepth 20000 in
theorem ggX1_turns_X1_nearest : GoodIn wsX1_turns wsX1_nearest := goodIn_r _ [11, 12, 13, 14, 10, 15, 16, 3, 17, 18, 19, 20, 2, 21, 22, 23, 24, 25, 26, 27, 28, 29, 30, 31, 32, 33, 34, 35, 36, 37, 38, 39, 40, 41, 42, 43, 44, 45, 46, 47, 48, 49, 50] (by decide +kernel) (by decide +kernel)
set_option maxRecDepth 20000 in
theorem gX1_turns_X1_nearest : GoodIn wsX1_turns (wsV RX1 165 RX1 yX1_nearest wsX1_nearest) := goodIn_app (goodIn_of _ (by decide +kernel)) ggX1_turns_X1_nearest
set_option maxRecDepth 20000 in
theorem ggX1_turns_X1_trackOf : GoodIn wsX1_turns wsX1_trackOf := goodIn_r _ [24, 16, 25, 26, 27, 10, 28, 29, 30, 31, 32, 33, 34, 35, 36, 37, 38, 39, 40, 41, 42, 43, 44, 45, 46, 47, 48, 49, 50] (by decide +kernel) (by decide +kernel)
set_option maxRecDepth 20000 in
theorem gX1_turns_X1_trackOf : GoodIn wsX1_turns (wsV RX1 156 RX1 yX1_trackOf wsX1_trackOf) := goodIn_app (goodIn_of _ (by decide +kernel)) ggX1_turns_X1_trackOf
set_option maxRecDepth 20000 in
theorem ggX1_turns_X1_holderOf : GoodIn wsX1_turns wsX1_holderOf := goodIn_r _ [28, 29, 30, 31, 32, 33, 34, 35, 36, 37, 38, 39, 40, 41, 42, 43, 44, 45, 46, 47, 48, 49, 50] (by decide +kernel) (by decide +kernel)
set_option maxRecDepth 20000 in
theorem gX1_turns_X1_holderOf : GoodIn wsX1_turns (wsV RX1 90 RX1 yX1_holderOf wsX1_holderOf) := goodIn_app (goodIn_of _ (by decide +kernel)) ggX1_turns_X1_holderOf
theorem dX1_turns_0 : decode cX1_turns 0 = .ok (.aload_n 0, 1) := by decide +kernel
theorem dX1_turns_1 : decode cX1_turns 1 = .ok (.aload_n 0, 1) := by decide +kernel
theorem dX1_turns_2 : decode cX1_turns 2 = .ok (.getfield 54, 3) := by decide +kernel
theorem dX1_turns_5 : decode cX1_turns 5 = .ok (.iconst (-1), 1) := by decide +kernel
theorem dX1_turns_6 : decode cX1_turns 6 = .ok (.if_icmp .ne 10, 3) := by decide +kernel
theorem dX1_turns_9 : decode cX1_turns 9 = .ok (.aload_n 0, 1) := by decide +kernel
theorem dX1_turns_10 : decode cX1_turns 10 = .ok (.invokevirtual 165, 3) := by decide +kernel
theorem dX1_turns_13 : decode cX1_turns 13 = .ok (.goto 7, 3) := by decide +kernel
theorem dX1_turns_16 : decode cX1_turns 16 = .ok (.aload_n 0, 1) := by decide +kernel
theorem dX1_turns_17 : decode cX1_turns 17 = .ok (.getfield 54, 3) := by decide +kernel
theorem dX1_turns_20 : decode cX1_turns 20 = .ok (.putfield 54, 3) := by decide +kernel
theorem dX1_turns_23 : decode cX1_turns 23 = .ok (.aload_n 0, 1) := by decide +kernel
theorem dX1_turns_24 : decode cX1_turns 24 = .ok (.getfield 54, 3) := by decide +kernel
theorem dX1_turns_27 : decode cX1_turns 27 = .ok (.iconst (-1), 1) := by decide +kernel
theorem dX1_turns_28 : decode cX1_turns 28 = .ok (.if_icmp .ne 4, 3) := by decide +kernel
theorem dX1_turns_31 : decode cX1_turns 31 = .ok (.return_, 1) := by decide +kernel
theorem dX1_turns_32 : decode cX1_turns 32 = .ok (.aload_n 0, 1) := by decide +kernel
theorem dX1_turns_33 : decode cX1_turns 33 = .ok (.aload_n 0, 1) := by decide +kernel
theorem dX1_turns_34 : decode cX1_turns 34 = .ok (.getfield 54, 3) := by decide +kernel
theorem dX1_turns_37 : decode cX1_turns 37 = .ok (.invokevirtual 156, 3) := by decide +kernel
theorem dX1_turns_40 : decode cX1_turns 40 = .ok (.istore_n 1, 1) := by decide +kernel
theorem dX1_turns_41 : decode cX1_turns 41 = .ok (.aload_n 0, 1) := by decide +kernel
theorem dX1_turns_42 : decode cX1_turns 42 = .ok (.dup, 1) := by decide +kernel
theorem dX1_turns_43 : decode cX1_turns 43 = .ok (.getfield 159, 3) := by decide +kernel
theorem dX1_turns_46 : decode cX1_turns 46 = .ok (.iload_n 1, 1) := by decide +kernel
theorem dX1_turns_47 : decode cX1_turns 47 = .ok (.aload_n 0, 1) := by decide +kernel
theorem dX1_turns_48 : decode cX1_turns 48 = .ok (.getfield 159, 3) := by decide +kernel
theorem dX1_turns_51 : decode cX1_turns 51 = .ok (.if_icmp .le 7, 3) := by decide +kernel
theorem dX1_turns_54 : decode cX1_turns 54 = .ok (.iconst 1, 1) := by decide +kernel
theorem dX1_turns_55 : decode cX1_turns 55 = .ok (.goto 16, 3) := by decide +kernel
theorem dX1_turns_58 : decode cX1_turns 58 = .ok (.iload_n 1, 1) := by decide +kernel
theorem dX1_turns_59 : decode cX1_turns 59 = .ok (.aload_n 0, 1) := by decide +kernel
theorem dX1_turns_60 : decode cX1_turns 60 = .ok (.getfield 159, 3) := by decide +kernel
theorem dX1_turns_63 : decode cX1_turns 63 = .ok (.if_icmp .ge 7, 3) := by decide +kernel
theorem dX1_turns_66 : decode cX1_turns 66 = .ok (.iconst (-1), 1) := by decide +kernel
theorem dX1_turns_67 : decode cX1_turns 67 = .ok (.goto 4, 3) := by decide +kernel
theorem dX1_turns_70 : decode cX1_turns 70 = .ok (.iconst 0, 1) := by decide +kernel
theorem dX1_turns_71 : decode cX1_turns 71 = .ok (.iadd, 1) := by decide +kernel
theorem dX1_turns_72 : decode cX1_turns 72 = .ok (.putfield 159, 3) := by decide +kernel
theorem dX1_turns_75 : decode cX1_turns 75 = .ok (.aload_n 0, 1) := by decide +kernel
theorem dX1_turns_76 : decode cX1_turns 76 = .ok (.getfield 159, 3) := by decide +kernel
theorem dX1_turns_79 : decode cX1_turns 79 = .ok (.iload_n 1, 1) := by decide +kernel
theorem dX1_turns_80 : decode cX1_turns 80 = .ok (.if_icmp .ne 45, 3) := by decide +kernel
theorem dX1_turns_83 : decode cX1_turns 83 = .ok (.aload_n 0, 1) := by decide +kernel
theorem dX1_turns_84 : decode cX1_turns 84 = .ok (.getfield 20, 3) := by decide +kernel
theorem dX1_turns_87 : decode cX1_turns 87 = .ok (.aload_n 0, 1) := by decide +kernel
theorem dX1_turns_88 : decode cX1_turns 88 = .ok (.getfield 54, 3) := by decide +kernel
theorem dX1_turns_91 : decode cX1_turns 91 = .ok (.iconst 1, 1) := by decide +kernel
theorem dX1_turns_92 : decode cX1_turns 92 = .ok (.bastore, 1) := by decide +kernel
theorem dX1_turns_93 : decode cX1_turns 93 = .ok (.aload_n 0, 1) := by decide +kernel
theorem dX1_turns_94 : decode cX1_turns 94 = .ok (.getfield 24, 3) := by decide +kernel
theorem dX1_turns_97 : decode cX1_turns 97 = .ok (.aload_n 0, 1) := by decide +kernel
theorem dX1_turns_98 : decode cX1_turns 98 = .ok (.getfield 54, 3) := by decide +kernel
theorem dX1_turns_101 : decode cX1_turns 101 = .ok (.aload_n 0, 1) := by decide +kernel
theorem dX1_turns_102 : decode cX1_turns 102 = .ok (.getfield 71, 3) := by decide +kernel
theorem dX1_turns_105 : decode cX1_turns 105 = .ok (.iastore, 1) := by decide +kernel
theorem dX1_turns_106 : decode cX1_turns 106 = .ok (.aload_n 0, 1) := by decide +kernel
theorem dX1_turns_107 : decode cX1_turns 107 = .ok (.getfield 36, 3) := by decide +kernel
theorem dX1_turns_110 : decode cX1_turns 110 = .ok (.aload_n 0, 1) := by decide +kernel
theorem dX1_turns_111 : decode cX1_turns 111 = .ok (.aload_n 0, 1) := by decide +kernel
theorem dX1_turns_112 : decode cX1_turns 112 = .ok (.getfield 54, 3) := by decide +kernel
theorem dX1_turns_115 : decode cX1_turns 115 = .ok (.invokevirtual 90, 3) := by decide +kernel
theorem dX1_turns_118 : decode cX1_turns 118 = .ok (.iconst 0, 1) := by decide +kernel
theorem dX1_turns_119 : decode cX1_turns 119 = .ok (.iastore, 1) := by decide +kernel
theorem dX1_turns_120 : decode cX1_turns 120 = .ok (.aload_n 0, 1) := by decide +kernel
theorem dX1_turns_121 : decode cX1_turns 121 = .ok (.iconst (-1), 1) := by decide +kernel
theorem dX1_turns_122 : decode cX1_turns 122 = .ok (.putfield 54, 3) := by decide +kernel
theorem dX1_turns_125 : decode cX1_turns 125 = .ok (.return_, 1) := by decide +kernel
set_option maxRecDepth 20000 in
theorem ggX1_advance_X1_isIn : GoodIn wsX1_advance wsX1_isIn := goodIn_r _ [9] (by decide +kernel) (by decide +kernel)
set_option maxRecDepth 20000 in
theorem gX1_advance_X1_isIn : GoodIn wsX1_advance (va_wsS RX1 60 yX1_isIn wsX1_isIn) := goodIn_app (goodIn_of _ (by decide +kernel)) ggX1_advance_X1_isIn
set_option maxRecDepth 20000 in
theorem ggX1_advance_X1_goes : GoodIn wsX1_advance wsX1_goes := goodIn_r _ [13, 14, 76, 77, 78, 79, 80, 81, 82, 83, 84, 85, 86, 87, 88, 89, 90, 91, 92, 93, 94] (by decide +kernel) (by decide +kernel)
set_option maxRecDepth 20000 in
theorem gX1_advance_X1_goes : GoodIn wsX1_advance (wsV RX1 77 RX1 yX1_goes wsX1_goes) := goodIn_app (goodIn_of _ (by decide +kernel)) ggX1_advance_X1_goes
set_option maxRecDepth 20000 in
theorem ggX1_advance_X1_pays : GoodIn wsX1_advance wsX1_pays := goodIn_r _ [18, 19, 3, 20, 21, 22, 23, 24, 25, 26, 8, 27, 28, 29, 30, 31, 32, 33, 34, 35, 4, 36, 37, 38, 39, 40, 41, 42, 43, 44, 45, 46, 47, 48, 49, 76, 77, 78, 79, 80, 81, 82, 83, 84, 85, 86, 87, 88, 89, 90, 91, 92, 93, 94] (by decide +kernel) (by decide +kernel)
set_option maxRecDepth 20000 in
theorem gX1_advance_X1_pays : GoodIn wsX1_advance (wsV RX1 169 RX1 yX1_pays wsX1_pays) := goodIn_app (goodIn_of _ (by decide +kernel)) ggX1_advance_X1_pays
set_option maxRecDepth 20000 in
theorem ggX1_advance_X1_gives : GoodIn wsX1_advance wsX1_gives := goodIn_r _ [53, 4, 3, 54, 55, 56, 8, 57, 76, 77, 78, 79, 80, 81, 82, 83, 84, 85, 86, 87, 88, 89, 90, 91, 92, 93, 94] (by decide +kernel) (by decide +kernel)
set_option maxRecDepth 20000 in
theorem gX1_advance_X1_gives : GoodIn wsX1_advance (wsV RX1 172 RX1 yX1_gives wsX1_gives) := goodIn_app (goodIn_of _ (by decide +kernel)) ggX1_advance_X1_gives
set_option maxRecDepth 20000 in
theorem ggX1_advance_X1_turns : GoodIn wsX1_advance wsX1_turns := goodIn_r _ [61, 34, 62, 45, 63, 1, 4, 64, 65, 66, 8, 67, 41, 42, 43, 44, 35, 68, 69, 70, 71, 72, 73, 74, 75, 36, 37, 38, 39, 28, 40, 20, 76, 77, 78, 79, 80, 81, 82, 83, 84, 85, 86, 87, 88, 89, 90, 91, 92, 93, 94] (by decide +kernel) (by decide +kernel)
set_option maxRecDepth 20000 in
theorem gX1_advance_X1_turns : GoodIn wsX1_advance (wsV RX1 175 RX1 yX1_turns wsX1_turns) := goodIn_app (goodIn_of _ (by decide +kernel)) ggX1_advance_X1_turns
theorem dX1_advance_0 : decode cX1_advance 0 = .ok (.aload_n 0, 1) := by decide +kernel
theorem dX1_advance_1 : decode cX1_advance 1 = .ok (.iload_n 1, 1) := by decide +kernel
theorem dX1_advance_2 : decode cX1_advance 2 = .ok (.iconst 1, 1) := by decide +kernel
theorem dX1_advance_3 : decode cX1_advance 3 = .ok (.sipush 200, 3) := by decide +kernel
theorem dX1_advance_6 : decode cX1_advance 6 = .ok (.invokestatic 60, 3) := by decide +kernel
theorem dX1_advance_9 : decode cX1_advance 9 = .ok (.ifCond .ne 7, 3) := by decide +kernel
theorem dX1_advance_12 : decode cX1_advance 12 = .ok (.iconst 1, 1) := by decide +kernel
theorem dX1_advance_13 : decode cX1_advance 13 = .ok (.goto 19, 3) := by decide +kernel
theorem dX1_advance_16 : decode cX1_advance 16 = .ok (.aload_n 0, 1) := by decide +kernel
theorem dX1_advance_17 : decode cX1_advance 17 = .ok (.getfield 71, 3) := by decide +kernel
theorem dX1_advance_20 : decode cX1_advance 20 = .ok (.iload_n 1, 1) := by decide +kernel
theorem dX1_advance_21 : decode cX1_advance 21 = .ok (.iadd, 1) := by decide +kernel
theorem dX1_advance_22 : decode cX1_advance 22 = .ok (.ldc 168, 2) := by decide +kernel
theorem dX1_advance_24 : decode cX1_advance 24 = .ok (.if_icmp .le 7, 3) := by decide +kernel
theorem dX1_advance_27 : decode cX1_advance 27 = .ok (.iconst 2, 1) := by decide +kernel
theorem dX1_advance_28 : decode cX1_advance 28 = .ok (.goto 4, 3) := by decide +kernel
theorem dX1_advance_31 : decode cX1_advance 31 = .ok (.iconst 0, 1) := by decide +kernel
theorem dX1_advance_32 : decode cX1_advance 32 = .ok (.invokevirtual 77, 3) := by decide +kernel
theorem dX1_advance_35 : decode cX1_advance 35 = .ok (.ifCond .ne 5, 3) := by decide +kernel
theorem dX1_advance_38 : decode cX1_advance 38 = .ok (.iconst 0, 1) := by decide +kernel
theorem dX1_advance_39 : decode cX1_advance 39 = .ok (.ireturn, 1) := by decide +kernel
theorem dX1_advance_40 : decode cX1_advance 40 = .ok (.iconst 0, 1) := by decide +kernel
theorem dX1_advance_41 : decode cX1_advance 41 = .ok (.istore_n 2, 1) := by decide +kernel
theorem dX1_advance_42 : decode cX1_advance 42 = .ok (.iload_n 2, 1) := by decide +kernel
theorem dX1_advance_43 : decode cX1_advance 43 = .ok (.iload_n 1, 1) := by decide +kernel
theorem dX1_advance_44 : decode cX1_advance 44 = .ok (.if_icmp .ge 73, 3) := by decide +kernel
theorem dX1_advance_47 : decode cX1_advance 47 = .ok (.iconst 0, 1) := by decide +kernel
theorem dX1_advance_48 : decode cX1_advance 48 = .ok (.istore_n 3, 1) := by decide +kernel
theorem dX1_advance_49 : decode cX1_advance 49 = .ok (.iload_n 3, 1) := by decide +kernel
theorem dX1_advance_50 : decode cX1_advance 50 = .ok (.iconst 5, 1) := by decide +kernel
theorem dX1_advance_51 : decode cX1_advance 51 = .ok (.if_icmp .ge 38, 3) := by decide +kernel
theorem dX1_advance_54 : decode cX1_advance 54 = .ok (.aload_n 0, 1) := by decide +kernel
theorem dX1_advance_55 : decode cX1_advance 55 = .ok (.getfield 33, 3) := by decide +kernel
theorem dX1_advance_58 : decode cX1_advance 58 = .ok (.iload_n 3, 1) := by decide +kernel
theorem dX1_advance_59 : decode cX1_advance 59 = .ok (.dup2, 1) := by decide +kernel
theorem dX1_advance_60 : decode cX1_advance 60 = .ok (.iaload, 1) := by decide +kernel
theorem dX1_advance_61 : decode cX1_advance 61 = .ok (.aload_n 0, 1) := by decide +kernel
theorem dX1_advance_62 : decode cX1_advance 62 = .ok (.getfield 36, 3) := by decide +kernel
theorem dX1_advance_65 : decode cX1_advance 65 = .ok (.iload_n 3, 1) := by decide +kernel
theorem dX1_advance_66 : decode cX1_advance 66 = .ok (.iaload, 1) := by decide +kernel
theorem dX1_advance_67 : decode cX1_advance 67 = .ok (.iconst 2, 1) := by decide +kernel
theorem dX1_advance_68 : decode cX1_advance 68 = .ok (.if_icmp .ne 7, 3) := by decide +kernel
theorem dX1_advance_71 : decode cX1_advance 71 = .ok (.iconst 0, 1) := by decide +kernel
theorem dX1_advance_72 : decode cX1_advance 72 = .ok (.goto 9, 3) := by decide +kernel
theorem dX1_advance_75 : decode cX1_advance 75 = .ok (.aload_n 0, 1) := by decide +kernel
theorem dX1_advance_76 : decode cX1_advance 76 = .ok (.getfield 30, 3) := by decide +kernel
theorem dX1_advance_79 : decode cX1_advance 79 = .ok (.iload_n 3, 1) := by decide +kernel
theorem dX1_advance_80 : decode cX1_advance 80 = .ok (.iaload, 1) := by decide +kernel
theorem dX1_advance_81 : decode cX1_advance 81 = .ok (.iadd, 1) := by decide +kernel
theorem dX1_advance_82 : decode cX1_advance 82 = .ok (.iastore, 1) := by decide +kernel
theorem dX1_advance_83 : decode cX1_advance 83 = .ok (.iinc 3 1, 3) := by decide +kernel
theorem dX1_advance_86 : decode cX1_advance 86 = .ok (.goto (-37), 3) := by decide +kernel
theorem dX1_advance_89 : decode cX1_advance 89 = .ok (.aload_n 0, 1) := by decide +kernel
theorem dX1_advance_90 : decode cX1_advance 90 = .ok (.invokevirtual 169, 3) := by decide +kernel
theorem dX1_advance_93 : decode cX1_advance 93 = .ok (.aload_n 0, 1) := by decide +kernel
theorem dX1_advance_94 : decode cX1_advance 94 = .ok (.invokevirtual 172, 3) := by decide +kernel
theorem dX1_advance_97 : decode cX1_advance 97 = .ok (.aload_n 0, 1) := by decide +kernel
theorem dX1_advance_98 : decode cX1_advance 98 = .ok (.invokevirtual 175, 3) := by decide +kernel
theorem dX1_advance_101 : decode cX1_advance 101 = .ok (.aload_n 0, 1) := by decide +kernel
theorem dX1_advance_102 : decode cX1_advance 102 = .ok (.dup, 1) := by decide +kernel
theorem dX1_advance_103 : decode cX1_advance 103 = .ok (.getfield 71, 3) := by decide +kernel
theorem dX1_advance_106 : decode cX1_advance 106 = .ok (.iconst 1, 1) := by decide +kernel
theorem dX1_advance_107 : decode cX1_advance 107 = .ok (.iadd, 1) := by decide +kernel
theorem dX1_advance_108 : decode cX1_advance 108 = .ok (.putfield 71, 3) := by decide +kernel
theorem dX1_advance_111 : decode cX1_advance 111 = .ok (.iinc 2 1, 3) := by decide +kernel
theorem dX1_advance_114 : decode cX1_advance 114 = .ok (.goto (-72), 3) := by decide +kernel
theorem dX1_advance_117 : decode cX1_advance 117 = .ok (.aload_n 0, 1) := by decide +kernel
theorem dX1_advance_118 : decode cX1_advance 118 = .ok (.getfield 71, 3) := by decide +kernel
theorem dX1_advance_121 : decode cX1_advance 121 = .ok (.ireturn, 1) := by decide +kernel
theorem dX1_tick_0 : decode cX1_tick 0 = .ok (.aload_n 0, 1) := by decide +kernel
theorem dX1_tick_1 : decode cX1_tick 1 = .ok (.iconst 0, 1) := by decide +kernel
theorem dX1_tick_2 : decode cX1_tick 2 = .ok (.putfield 57, 3) := by decide +kernel
theorem dX1_tick_5 : decode cX1_tick 5 = .ok (.aload_n 0, 1) := by decide +kernel
theorem dX1_tick_6 : decode cX1_tick 6 = .ok (.getfield 71, 3) := by decide +kernel
theorem dX1_tick_9 : decode cX1_tick 9 = .ok (.ireturn, 1) := by decide +kernel
set_option maxRecDepth 20000 in
theorem ggX1_owner_X1_isFrame : GoodIn wsX1_owner wsX1_isFrame := goodIn_r _ [5, 6, 7, 4, 8] (by decide +kernel) (by decide +kernel)
set_option maxRecDepth 20000 in
theorem gX1_owner_X1_isFrame : GoodIn wsX1_owner (va_wsS RX1 84 yX1_isFrame wsX1_isFrame) := goodIn_app (goodIn_of _ (by decide +kernel)) ggX1_owner_X1_isFrame
set_option maxRecDepth 20000 in
theorem ggX1_owner_X1_goes : GoodIn wsX1_owner wsX1_goes := goodIn_r _ [12, 13, 14, 15, 16, 17, 18, 19, 20, 21, 22, 23, 24, 25, 26, 27, 28, 29, 30, 31, 32] (by decide +kernel) (by decide +kernel)
set_option maxRecDepth 20000 in
theorem gX1_owner_X1_goes : GoodIn wsX1_owner (wsV RX1 77 RX1 yX1_goes wsX1_goes) := goodIn_app (goodIn_of _ (by decide +kernel)) ggX1_owner_X1_goes
theorem dX1_owner_0 : decode cX1_owner 0 = .ok (.aload_n 0, 1) := by decide +kernel
theorem dX1_owner_1 : decode cX1_owner 1 = .ok (.iload_n 1, 1) := by decide +kernel
theorem dX1_owner_2 : decode cX1_owner 2 = .ok (.invokestatic 84, 3) := by decide +kernel
theorem dX1_owner_5 : decode cX1_owner 5 = .ok (.ifCond .eq 7, 3) := by decide +kernel
theorem dX1_owner_8 : decode cX1_owner 8 = .ok (.iconst 0, 1) := by decide +kernel
theorem dX1_owner_9 : decode cX1_owner 9 = .ok (.goto 4, 3) := by decide +kernel
theorem dX1_owner_12 : decode cX1_owner 12 = .ok (.iconst 1, 1) := by decide +kernel
theorem dX1_owner_13 : decode cX1_owner 13 = .ok (.invokevirtual 77, 3) := by decide +kernel
theorem dX1_owner_16 : decode cX1_owner 16 = .ok (.ifCond .eq 12, 3) := by decide +kernel
theorem dX1_owner_19 : decode cX1_owner 19 = .ok (.aload_n 0, 1) := by decide +kernel
theorem dX1_owner_20 : decode cX1_owner 20 = .ok (.getfield 13, 3) := by decide +kernel
theorem dX1_owner_23 : decode cX1_owner 23 = .ok (.iload_n 1, 1) := by decide +kernel
theorem dX1_owner_24 : decode cX1_owner 24 = .ok (.iaload, 1) := by decide +kernel
theorem dX1_owner_25 : decode cX1_owner 25 = .ok (.goto 4, 3) := by decide +kernel
theorem dX1_owner_28 : decode cX1_owner 28 = .ok (.iconst 0, 1) := by decide +kernel
theorem dX1_owner_29 : decode cX1_owner 29 = .ok (.ireturn, 1) := by decide +kernel
set_option maxRecDepth 20000 in
theorem ggX1_holder_X1_isFrame : GoodIn wsX1_holder wsX1_isFrame := goodIn_r _ [4, 5, 6, 3, 7] (by decide +kernel) (by decide +kernel)
set_option maxRecDepth 20000 in
theorem gX1_holder_X1_isFrame : GoodIn wsX1_holder (va_wsS RX1 84 yX1_isFrame wsX1_isFrame) := goodIn_app (goodIn_of _ (by decide +kernel)) ggX1_holder_X1_isFrame
set_option maxRecDepth 20000 in
theorem ggX1_holder_X1_goes : GoodIn wsX1_holder wsX1_goes := goodIn_r _ [11, 12, 20, 21, 22, 23, 24, 25, 26, 27, 28, 29, 30, 31, 32, 33, 34, 35, 36, 37, 38] (by decide +kernel) (by decide +kernel)
set_option maxRecDepth 20000 in
theorem gX1_holder_X1_goes : GoodIn wsX1_holder (wsV RX1 77 RX1 yX1_goes wsX1_goes) := goodIn_app (goodIn_of _ (by decide +kernel)) ggX1_holder_X1_goes
set_option maxRecDepth 20000 in
theorem ggX1_holder_X1_holderOf : GoodIn wsX1_holder wsX1_holderOf := goodIn_r _ [16, 17, 18, 19, 20, 21, 22, 23, 24, 25, 26, 27, 28, 29, 30, 31, 32, 33, 34, 35, 36, 37, 38] (by decide +kernel) (by decide +kernel)
set_option maxRecDepth 20000 in
theorem gX1_holder_X1_holderOf : GoodIn wsX1_holder (wsV RX1 90 RX1 yX1_holderOf wsX1_holderOf) := goodIn_app (goodIn_of _ (by decide +kernel)) ggX1_holder_X1_holderOf
theorem dX1_holder_0 : decode cX1_holder 0 = .ok (.aload_n 0, 1) := by decide +kernel
theorem dX1_holder_1 : decode cX1_holder 1 = .ok (.iload_n 1, 1) := by decide +kernel
theorem dX1_holder_2 : decode cX1_holder 2 = .ok (.invokestatic 84, 3) := by decide +kernel
theorem dX1_holder_5 : decode cX1_holder 5 = .ok (.ifCond .eq 7, 3) := by decide +kernel
theorem dX1_holder_8 : decode cX1_holder 8 = .ok (.iconst 0, 1) := by decide +kernel
theorem dX1_holder_9 : decode cX1_holder 9 = .ok (.goto 4, 3) := by decide +kernel
theorem dX1_holder_12 : decode cX1_holder 12 = .ok (.iconst 1, 1) := by decide +kernel
theorem dX1_holder_13 : decode cX1_holder 13 = .ok (.invokevirtual 77, 3) := by decide +kernel
theorem dX1_holder_16 : decode cX1_holder 16 = .ok (.ifCond .eq 11, 3) := by decide +kernel
theorem dX1_holder_19 : decode cX1_holder 19 = .ok (.aload_n 0, 1) := by decide +kernel
theorem dX1_holder_20 : decode cX1_holder 20 = .ok (.iload_n 1, 1) := by decide +kernel
theorem dX1_holder_21 : decode cX1_holder 21 = .ok (.invokevirtual 90, 3) := by decide +kernel
theorem dX1_holder_24 : decode cX1_holder 24 = .ok (.goto 4, 3) := by decide +kernel
theorem dX1_holder_27 : decode cX1_holder 27 = .ok (.iconst 0, 1) := by decide +kernel
theorem dX1_holder_28 : decode cX1_holder 28 = .ok (.ireturn, 1) := by decide +kernel
set_option maxRecDepth 20000 in
theorem ggX1_holderByLog_X1_isFrame : GoodIn wsX1_holderByLog wsX1_isFrame := goodIn_r _ [4, 5, 6, 3, 7] (by decide +kernel) (by decide +kernel)
set_option maxRecDepth 20000 in
theorem gX1_holderByLog_X1_isFrame : GoodIn wsX1_holderByLog (va_wsS RX1 84 yX1_isFrame wsX1_isFrame) := goodIn_app (goodIn_of _ (by decide +kernel)) ggX1_holderByLog_X1_isFrame
set_option maxRecDepth 20000 in
theorem ggX1_holderByLog_X1_goes : GoodIn wsX1_holderByLog wsX1_goes := goodIn_r _ [11, 12, 20, 21, 22, 23, 24, 25, 26, 27, 28, 29, 30, 31, 32, 33, 34, 35, 36, 37, 38] (by decide +kernel) (by decide +kernel)
set_option maxRecDepth 20000 in
theorem gX1_holderByLog_X1_goes : GoodIn wsX1_holderByLog (wsV RX1 77 RX1 yX1_goes wsX1_goes) := goodIn_app (goodIn_of _ (by decide +kernel)) ggX1_holderByLog_X1_goes
set_option maxRecDepth 20000 in
theorem ggX1_holderByLog_X1_holderOf : GoodIn wsX1_holderByLog wsX1_holderOf := goodIn_r _ [16, 17, 18, 19, 20, 21, 22, 23, 24, 25, 26, 27, 28, 29, 30, 31, 32, 33, 34, 35, 36, 37, 38] (by decide +kernel) (by decide +kernel)
set_option maxRecDepth 20000 in
theorem gX1_holderByLog_X1_holderOf : GoodIn wsX1_holderByLog (wsV RX1 90 RX1 yX1_holderOf wsX1_holderOf) := goodIn_app (goodIn_of _ (by decide +kernel)) ggX1_holderByLog_X1_holderOf
theorem dX1_holderByLog_0 : decode cX1_holderByLog 0 = .ok (.aload_n 0, 1) := by decide +kernel
theorem dX1_holderByLog_1 : decode cX1_holderByLog 1 = .ok (.iload_n 1, 1) := by decide +kernel
theorem dX1_holderByLog_2 : decode cX1_holderByLog 2 = .ok (.invokestatic 84, 3) := by decide +kernel
theorem dX1_holderByLog_5 : decode cX1_holderByLog 5 = .ok (.ifCond .eq 7, 3) := by decide +kernel
theorem dX1_holderByLog_8 : decode cX1_holderByLog 8 = .ok (.iconst 0, 1) := by decide +kernel
theorem dX1_holderByLog_9 : decode cX1_holderByLog 9 = .ok (.goto 4, 3) := by decide +kernel
theorem dX1_holderByLog_12 : decode cX1_holderByLog 12 = .ok (.iconst 1, 1) := by decide +kernel
theorem dX1_holderByLog_13 : decode cX1_holderByLog 13 = .ok (.invokevirtual 77, 3) := by decide +kernel
theorem dX1_holderByLog_16 : decode cX1_holderByLog 16 = .ok (.ifCond .eq 11, 3) := by decide +kernel
theorem dX1_holderByLog_19 : decode cX1_holderByLog 19 = .ok (.aload_n 0, 1) := by decide +kernel
theorem dX1_holderByLog_20 : decode cX1_holderByLog 20 = .ok (.iload_n 1, 1) := by decide +kernel
theorem dX1_holderByLog_21 : decode cX1_holderByLog 21 = .ok (.invokevirtual 90, 3) := by decide +kernel
theorem dX1_holderByLog_24 : decode cX1_holderByLog 24 = .ok (.goto 4, 3) := by decide +kernel
theorem dX1_holderByLog_27 : decode cX1_holderByLog 27 = .ok (.iconst 0, 1) := by decide +kernel
theorem dX1_holderByLog_28 : decode cX1_holderByLog 28 = .ok (.ireturn, 1) := by decide +kernel
set_option maxRecDepth 20000 in
theorem ggX1_pageIn_X1_isFrame : GoodIn wsX1_pageIn wsX1_isFrame := goodIn_r _ [5, 6, 7, 4, 8] (by decide +kernel) (by decide +kernel)
set_option maxRecDepth 20000 in
theorem gX1_pageIn_X1_isFrame : GoodIn wsX1_pageIn (va_wsS RX1 84 yX1_isFrame wsX1_isFrame) := goodIn_app (goodIn_of _ (by decide +kernel)) ggX1_pageIn_X1_isFrame
set_option maxRecDepth 20000 in
theorem ggX1_pageIn_X1_goes : GoodIn wsX1_pageIn wsX1_goes := goodIn_r _ [12, 13, 14, 15, 16, 17, 18, 19, 20, 21, 22, 23, 24, 25, 26, 27, 28, 29, 30, 31, 32] (by decide +kernel) (by decide +kernel)
set_option maxRecDepth 20000 in
theorem gX1_pageIn_X1_goes : GoodIn wsX1_pageIn (wsV RX1 77 RX1 yX1_goes wsX1_goes) := goodIn_app (goodIn_of _ (by decide +kernel)) ggX1_pageIn_X1_goes
theorem dX1_pageIn_0 : decode cX1_pageIn 0 = .ok (.aload_n 0, 1) := by decide +kernel
theorem dX1_pageIn_1 : decode cX1_pageIn 1 = .ok (.iload_n 1, 1) := by decide +kernel
theorem dX1_pageIn_2 : decode cX1_pageIn 2 = .ok (.invokestatic 84, 3) := by decide +kernel
theorem dX1_pageIn_5 : decode cX1_pageIn 5 = .ok (.ifCond .eq 7, 3) := by decide +kernel
theorem dX1_pageIn_8 : decode cX1_pageIn 8 = .ok (.iconst 0, 1) := by decide +kernel
theorem dX1_pageIn_9 : decode cX1_pageIn 9 = .ok (.goto 4, 3) := by decide +kernel
theorem dX1_pageIn_12 : decode cX1_pageIn 12 = .ok (.iconst 1, 1) := by decide +kernel
theorem dX1_pageIn_13 : decode cX1_pageIn 13 = .ok (.invokevirtual 77, 3) := by decide +kernel
theorem dX1_pageIn_16 : decode cX1_pageIn 16 = .ok (.ifCond .eq 12, 3) := by decide +kernel
theorem dX1_pageIn_19 : decode cX1_pageIn 19 = .ok (.aload_n 0, 1) := by decide +kernel
theorem dX1_pageIn_20 : decode cX1_pageIn 20 = .ok (.getfield 17, 3) := by decide +kernel
theorem dX1_pageIn_23 : decode cX1_pageIn 23 = .ok (.iload_n 1, 1) := by decide +kernel
theorem dX1_pageIn_24 : decode cX1_pageIn 24 = .ok (.iaload, 1) := by decide +kernel
theorem dX1_pageIn_25 : decode cX1_pageIn 25 = .ok (.goto 4, 3) := by decide +kernel
theorem dX1_pageIn_28 : decode cX1_pageIn 28 = .ok (.iconst 0, 1) := by decide +kernel
theorem dX1_pageIn_29 : decode cX1_pageIn 29 = .ok (.ireturn, 1) := by decide +kernel
set_option maxRecDepth 20000 in
theorem ggX1_age_X1_isFrame : GoodIn wsX1_age wsX1_isFrame := goodIn_r _ [4, 5, 6, 3, 7] (by decide +kernel) (by decide +kernel)
set_option maxRecDepth 20000 in
theorem gX1_age_X1_isFrame : GoodIn wsX1_age (va_wsS RX1 84 yX1_isFrame wsX1_isFrame) := goodIn_app (goodIn_of _ (by decide +kernel)) ggX1_age_X1_isFrame
set_option maxRecDepth 20000 in
theorem ggX1_age_X1_goes : GoodIn wsX1_age wsX1_goes := goodIn_r _ [11, 12, 25, 26, 27, 28, 29, 30, 31, 32, 33, 34, 35, 36, 37, 38, 39, 40, 41, 42, 43] (by decide +kernel) (by decide +kernel)
set_option maxRecDepth 20000 in
theorem gX1_age_X1_goes : GoodIn wsX1_age (wsV RX1 77 RX1 yX1_goes wsX1_goes) := goodIn_app (goodIn_of _ (by decide +kernel)) ggX1_age_X1_goes
set_option maxRecDepth 20000 in
theorem ggX1_age_X1_ageOf : GoodIn wsX1_age wsX1_ageOf := goodIn_r _ [16, 17, 18, 19, 20, 21, 3, 22, 23, 24, 25, 26, 27, 28, 29, 30, 31, 32, 33, 34, 35, 36, 37, 38, 39, 40, 41, 42, 43] (by decide +kernel) (by decide +kernel)
set_option maxRecDepth 20000 in
theorem gX1_age_X1_ageOf : GoodIn wsX1_age (wsV RX1 100 RX1 yX1_ageOf wsX1_ageOf) := goodIn_app (goodIn_of _ (by decide +kernel)) ggX1_age_X1_ageOf
theorem dX1_age_0 : decode cX1_age 0 = .ok (.aload_n 0, 1) := by decide +kernel
theorem dX1_age_1 : decode cX1_age 1 = .ok (.iload_n 1, 1) := by decide +kernel
theorem dX1_age_2 : decode cX1_age 2 = .ok (.invokestatic 84, 3) := by decide +kernel
theorem dX1_age_5 : decode cX1_age 5 = .ok (.ifCond .eq 7, 3) := by decide +kernel
theorem dX1_age_8 : decode cX1_age 8 = .ok (.iconst 0, 1) := by decide +kernel
theorem dX1_age_9 : decode cX1_age 9 = .ok (.goto 4, 3) := by decide +kernel
theorem dX1_age_12 : decode cX1_age 12 = .ok (.iconst 1, 1) := by decide +kernel
theorem dX1_age_13 : decode cX1_age 13 = .ok (.invokevirtual 77, 3) := by decide +kernel
theorem dX1_age_16 : decode cX1_age 16 = .ok (.ifCond .eq 11, 3) := by decide +kernel
theorem dX1_age_19 : decode cX1_age 19 = .ok (.aload_n 0, 1) := by decide +kernel
theorem dX1_age_20 : decode cX1_age 20 = .ok (.iload_n 1, 1) := by decide +kernel
theorem dX1_age_21 : decode cX1_age 21 = .ok (.invokevirtual 100, 3) := by decide +kernel
theorem dX1_age_24 : decode cX1_age 24 = .ok (.goto 4, 3) := by decide +kernel
theorem dX1_age_27 : decode cX1_age 27 = .ok (.iconst 0, 1) := by decide +kernel
theorem dX1_age_28 : decode cX1_age 28 = .ok (.ireturn, 1) := by decide +kernel
theorem dX1_free_0 : decode cX1_free 0 = .ok (.aload_n 0, 1) := by decide +kernel
theorem dX1_free_1 : decode cX1_free 1 = .ok (.iconst 0, 1) := by decide +kernel
theorem dX1_free_2 : decode cX1_free 2 = .ok (.putfield 57, 3) := by decide +kernel
theorem dX1_free_5 : decode cX1_free 5 = .ok (.iconst 0, 1) := by decide +kernel
theorem dX1_free_6 : decode cX1_free 6 = .ok (.istore_n 1, 1) := by decide +kernel
theorem dX1_free_7 : decode cX1_free 7 = .ok (.iconst 0, 1) := by decide +kernel
theorem dX1_free_8 : decode cX1_free 8 = .ok (.istore_n 2, 1) := by decide +kernel
theorem dX1_free_9 : decode cX1_free 9 = .ok (.iload_n 2, 1) := by decide +kernel
theorem dX1_free_10 : decode cX1_free 10 = .ok (.bipush 12, 2) := by decide +kernel
theorem dX1_free_12 : decode cX1_free 12 = .ok (.if_icmp .ge 27, 3) := by decide +kernel
theorem dX1_free_15 : decode cX1_free 15 = .ok (.iload_n 1, 1) := by decide +kernel
theorem dX1_free_16 : decode cX1_free 16 = .ok (.aload_n 0, 1) := by decide +kernel
theorem dX1_free_17 : decode cX1_free 17 = .ok (.getfield 13, 3) := by decide +kernel
theorem dX1_free_20 : decode cX1_free 20 = .ok (.iload_n 2, 1) := by decide +kernel
theorem dX1_free_21 : decode cX1_free 21 = .ok (.iaload, 1) := by decide +kernel
theorem dX1_free_22 : decode cX1_free 22 = .ok (.iconst (-1), 1) := by decide +kernel
theorem dX1_free_23 : decode cX1_free 23 = .ok (.if_icmp .ne 7, 3) := by decide +kernel
theorem dX1_free_26 : decode cX1_free 26 = .ok (.iconst 1, 1) := by decide +kernel
theorem dX1_free_27 : decode cX1_free 27 = .ok (.goto 4, 3) := by decide +kernel
theorem dX1_free_30 : decode cX1_free 30 = .ok (.iconst 0, 1) := by decide +kernel
theorem dX1_free_31 : decode cX1_free 31 = .ok (.iadd, 1) := by decide +kernel
theorem dX1_free_32 : decode cX1_free 32 = .ok (.istore_n 1, 1) := by decide +kernel
theorem dX1_free_33 : decode cX1_free 33 = .ok (.iinc 2 1, 3) := by decide +kernel
theorem dX1_free_36 : decode cX1_free 36 = .ok (.goto (-27), 3) := by decide +kernel
theorem dX1_free_39 : decode cX1_free 39 = .ok (.iload_n 1, 1) := by decide +kernel
theorem dX1_free_40 : decode cX1_free 40 = .ok (.ireturn, 1) := by decide +kernel
set_option maxRecDepth 20000 in
theorem ggX1_owns_X1_isProcess : GoodIn wsX1_owns wsX1_isProcess := goodIn_r _ [5, 6, 7, 4, 8] (by decide +kernel) (by decide +kernel)
set_option maxRecDepth 20000 in
theorem gX1_owns_X1_isProcess : GoodIn wsX1_owns (va_wsS RX1 74 yX1_isProcess wsX1_isProcess) := goodIn_app (goodIn_of _ (by decide +kernel)) ggX1_owns_X1_isProcess
set_option maxRecDepth 20000 in
theorem ggX1_owns_X1_goes : GoodIn wsX1_owns wsX1_goes := goodIn_r _ [12, 13, 14, 15, 16, 17, 18, 19, 20, 21, 22, 23, 24, 25, 26, 27, 28, 29, 30, 31, 32] (by decide +kernel) (by decide +kernel)
set_option maxRecDepth 20000 in
theorem gX1_owns_X1_goes : GoodIn wsX1_owns (wsV RX1 77 RX1 yX1_goes wsX1_goes) := goodIn_app (goodIn_of _ (by decide +kernel)) ggX1_owns_X1_goes
theorem dX1_owns_0 : decode cX1_owns 0 = .ok (.iconst 0, 1) := by decide +kernel
theorem dX1_owns_1 : decode cX1_owns 1 = .ok (.istore_n 2, 1) := by decide +kernel
theorem dX1_owns_2 : decode cX1_owns 2 = .ok (.aload_n 0, 1) := by decide +kernel
theorem dX1_owns_3 : decode cX1_owns 3 = .ok (.iload_n 1, 1) := by decide +kernel
theorem dX1_owns_4 : decode cX1_owns 4 = .ok (.invokestatic 74, 3) := by decide +kernel
theorem dX1_owns_7 : decode cX1_owns 7 = .ok (.ifCond .eq 7, 3) := by decide +kernel
theorem dX1_owns_10 : decode cX1_owns 10 = .ok (.iconst 0, 1) := by decide +kernel
theorem dX1_owns_11 : decode cX1_owns 11 = .ok (.goto 4, 3) := by decide +kernel
theorem dX1_owns_14 : decode cX1_owns 14 = .ok (.iconst 1, 1) := by decide +kernel
theorem dX1_owns_15 : decode cX1_owns 15 = .ok (.invokevirtual 77, 3) := by decide +kernel
theorem dX1_owns_18 : decode cX1_owns 18 = .ok (.istore_n 3, 1) := by decide +kernel
theorem dX1_owns_19 : decode cX1_owns 19 = .ok (.iconst 0, 1) := by decide +kernel
theorem dX1_owns_20 : decode cX1_owns 20 = .ok (.istore 4, 2) := by decide +kernel
theorem dX1_owns_22 : decode cX1_owns 22 = .ok (.iload 4, 2) := by decide +kernel
theorem dX1_owns_24 : decode cX1_owns 24 = .ok (.bipush 12, 2) := by decide +kernel
theorem dX1_owns_26 : decode cX1_owns 26 = .ok (.if_icmp .ge 32, 3) := by decide +kernel
theorem dX1_owns_29 : decode cX1_owns 29 = .ok (.iload_n 3, 1) := by decide +kernel
theorem dX1_owns_30 : decode cX1_owns 30 = .ok (.ifCond .eq 28, 3) := by decide +kernel
theorem dX1_owns_33 : decode cX1_owns 33 = .ok (.iload_n 2, 1) := by decide +kernel
theorem dX1_owns_34 : decode cX1_owns 34 = .ok (.aload_n 0, 1) := by decide +kernel
theorem dX1_owns_35 : decode cX1_owns 35 = .ok (.getfield 13, 3) := by decide +kernel
theorem dX1_owns_38 : decode cX1_owns 38 = .ok (.iload 4, 2) := by decide +kernel
theorem dX1_owns_40 : decode cX1_owns 40 = .ok (.iaload, 1) := by decide +kernel
theorem dX1_owns_41 : decode cX1_owns 41 = .ok (.iload_n 1, 1) := by decide +kernel
theorem dX1_owns_42 : decode cX1_owns 42 = .ok (.if_icmp .ne 7, 3) := by decide +kernel
theorem dX1_owns_45 : decode cX1_owns 45 = .ok (.iconst 1, 1) := by decide +kernel
theorem dX1_owns_46 : decode cX1_owns 46 = .ok (.goto 4, 3) := by decide +kernel
theorem dX1_owns_49 : decode cX1_owns 49 = .ok (.iconst 0, 1) := by decide +kernel
theorem dX1_owns_50 : decode cX1_owns 50 = .ok (.iadd, 1) := by decide +kernel
theorem dX1_owns_51 : decode cX1_owns 51 = .ok (.istore_n 2, 1) := by decide +kernel
theorem dX1_owns_52 : decode cX1_owns 52 = .ok (.iinc 4 1, 3) := by decide +kernel
theorem dX1_owns_55 : decode cX1_owns 55 = .ok (.goto (-33), 3) := by decide +kernel
theorem dX1_owns_58 : decode cX1_owns 58 = .ok (.iload_n 2, 1) := by decide +kernel
theorem dX1_owns_59 : decode cX1_owns 59 = .ok (.ireturn, 1) := by decide +kernel
set_option maxRecDepth 20000 in
theorem ggX1_borrowed_X1_isProcess : GoodIn wsX1_borrowed wsX1_isProcess := goodIn_r _ [4, 5, 6, 3, 7] (by decide +kernel) (by decide +kernel)
set_option maxRecDepth 20000 in
theorem gX1_borrowed_X1_isProcess : GoodIn wsX1_borrowed (va_wsS RX1 74 yX1_isProcess wsX1_isProcess) := goodIn_app (goodIn_of _ (by decide +kernel)) ggX1_borrowed_X1_isProcess
set_option maxRecDepth 20000 in
theorem ggX1_borrowed_X1_goes : GoodIn wsX1_borrowed wsX1_goes := goodIn_r _ [11, 12, 19, 20, 21, 22, 23, 24, 25, 26, 27, 28, 29, 30, 31, 32, 33, 34, 35, 36, 37] (by decide +kernel) (by decide +kernel)
set_option maxRecDepth 20000 in
theorem gX1_borrowed_X1_goes : GoodIn wsX1_borrowed (wsV RX1 77 RX1 yX1_goes wsX1_goes) := goodIn_app (goodIn_of _ (by decide +kernel)) ggX1_borrowed_X1_goes
set_option maxRecDepth 20000 in
theorem ggX1_borrowed_X1_borrowedBy : GoodIn wsX1_borrowed wsX1_borrowedBy := goodIn_r _ [16, 17, 18, 19, 20, 21, 22, 23, 24, 25, 26, 27, 28, 29, 30, 31, 32, 33, 34, 35, 36, 37] (by decide +kernel) (by decide +kernel)
set_option maxRecDepth 20000 in
theorem gX1_borrowed_X1_borrowedBy : GoodIn wsX1_borrowed (wsV RX1 124 RX1 yX1_borrowedBy wsX1_borrowedBy) := goodIn_app (goodIn_of _ (by decide +kernel)) ggX1_borrowed_X1_borrowedBy
theorem dX1_borrowed_0 : decode cX1_borrowed 0 = .ok (.aload_n 0, 1) := by decide +kernel
theorem dX1_borrowed_1 : decode cX1_borrowed 1 = .ok (.iload_n 1, 1) := by decide +kernel
theorem dX1_borrowed_2 : decode cX1_borrowed 2 = .ok (.invokestatic 74, 3) := by decide +kernel
theorem dX1_borrowed_5 : decode cX1_borrowed 5 = .ok (.ifCond .eq 7, 3) := by decide +kernel
theorem dX1_borrowed_8 : decode cX1_borrowed 8 = .ok (.iconst 0, 1) := by decide +kernel
theorem dX1_borrowed_9 : decode cX1_borrowed 9 = .ok (.goto 4, 3) := by decide +kernel
theorem dX1_borrowed_12 : decode cX1_borrowed 12 = .ok (.iconst 1, 1) := by decide +kernel
theorem dX1_borrowed_13 : decode cX1_borrowed 13 = .ok (.invokevirtual 77, 3) := by decide +kernel
theorem dX1_borrowed_16 : decode cX1_borrowed 16 = .ok (.ifCond .eq 11, 3) := by decide +kernel
theorem dX1_borrowed_19 : decode cX1_borrowed 19 = .ok (.aload_n 0, 1) := by decide +kernel
theorem dX1_borrowed_20 : decode cX1_borrowed 20 = .ok (.iload_n 1, 1) := by decide +kernel
theorem dX1_borrowed_21 : decode cX1_borrowed 21 = .ok (.invokevirtual 124, 3) := by decide +kernel
theorem dX1_borrowed_24 : decode cX1_borrowed 24 = .ok (.goto 4, 3) := by decide +kernel
theorem dX1_borrowed_27 : decode cX1_borrowed 27 = .ok (.iconst 0, 1) := by decide +kernel
theorem dX1_borrowed_28 : decode cX1_borrowed 28 = .ok (.ireturn, 1) := by decide +kernel
set_option maxRecDepth 20000 in
theorem ggX1_lent_X1_isProcess : GoodIn wsX1_lent wsX1_isProcess := goodIn_r _ [6, 7, 8, 5, 9] (by decide +kernel) (by decide +kernel)
set_option maxRecDepth 20000 in
theorem gX1_lent_X1_isProcess : GoodIn wsX1_lent (va_wsS RX1 74 yX1_isProcess wsX1_isProcess) := goodIn_app (goodIn_of _ (by decide +kernel)) ggX1_lent_X1_isProcess
set_option maxRecDepth 20000 in
theorem ggX1_lent_X1_goes : GoodIn wsX1_lent wsX1_goes := goodIn_r _ [13, 14, 15, 16, 17, 18, 19, 20, 21, 22, 23, 24, 25, 26, 27, 28, 29, 30, 31, 32, 33] (by decide +kernel) (by decide +kernel)
set_option maxRecDepth 20000 in
theorem gX1_lent_X1_goes : GoodIn wsX1_lent (wsV RX1 77 RX1 yX1_goes wsX1_goes) := goodIn_app (goodIn_of _ (by decide +kernel)) ggX1_lent_X1_goes
theorem dX1_lent_0 : decode cX1_lent 0 = .ok (.iconst 0, 1) := by decide +kernel
theorem dX1_lent_1 : decode cX1_lent 1 = .ok (.istore_n 2, 1) := by decide +kernel
theorem dX1_lent_2 : decode cX1_lent 2 = .ok (.aload_n 0, 1) := by decide +kernel
theorem dX1_lent_3 : decode cX1_lent 3 = .ok (.iload_n 1, 1) := by decide +kernel
theorem dX1_lent_4 : decode cX1_lent 4 = .ok (.invokestatic 74, 3) := by decide +kernel
theorem dX1_lent_7 : decode cX1_lent 7 = .ok (.ifCond .eq 7, 3) := by decide +kernel
theorem dX1_lent_10 : decode cX1_lent 10 = .ok (.iconst 0, 1) := by decide +kernel
theorem dX1_lent_11 : decode cX1_lent 11 = .ok (.goto 4, 3) := by decide +kernel
theorem dX1_lent_14 : decode cX1_lent 14 = .ok (.iconst 1, 1) := by decide +kernel
theorem dX1_lent_15 : decode cX1_lent 15 = .ok (.invokevirtual 77, 3) := by decide +kernel
theorem dX1_lent_18 : decode cX1_lent 18 = .ok (.istore_n 3, 1) := by decide +kernel
theorem dX1_lent_19 : decode cX1_lent 19 = .ok (.iconst 0, 1) := by decide +kernel
theorem dX1_lent_20 : decode cX1_lent 20 = .ok (.istore 4, 2) := by decide +kernel
theorem dX1_lent_22 : decode cX1_lent 22 = .ok (.iload 4, 2) := by decide +kernel
theorem dX1_lent_24 : decode cX1_lent 24 = .ok (.bipush 12, 2) := by decide +kernel
theorem dX1_lent_26 : decode cX1_lent 26 = .ok (.if_icmp .ge 43, 3) := by decide +kernel
theorem dX1_lent_29 : decode cX1_lent 29 = .ok (.iload_n 3, 1) := by decide +kernel
theorem dX1_lent_30 : decode cX1_lent 30 = .ok (.ifCond .eq 39, 3) := by decide +kernel
theorem dX1_lent_33 : decode cX1_lent 33 = .ok (.iload_n 2, 1) := by decide +kernel
theorem dX1_lent_34 : decode cX1_lent 34 = .ok (.aload_n 0, 1) := by decide +kernel
theorem dX1_lent_35 : decode cX1_lent 35 = .ok (.getfield 13, 3) := by decide +kernel
theorem dX1_lent_38 : decode cX1_lent 38 = .ok (.iload 4, 2) := by decide +kernel
theorem dX1_lent_40 : decode cX1_lent 40 = .ok (.iaload, 1) := by decide +kernel
theorem dX1_lent_41 : decode cX1_lent 41 = .ok (.iload_n 1, 1) := by decide +kernel
theorem dX1_lent_42 : decode cX1_lent 42 = .ok (.if_icmp .ne 18, 3) := by decide +kernel
theorem dX1_lent_45 : decode cX1_lent 45 = .ok (.aload_n 0, 1) := by decide +kernel
theorem dX1_lent_46 : decode cX1_lent 46 = .ok (.getfield 27, 3) := by decide +kernel
theorem dX1_lent_49 : decode cX1_lent 49 = .ok (.iload 4, 2) := by decide +kernel
theorem dX1_lent_51 : decode cX1_lent 51 = .ok (.iaload, 1) := by decide +kernel
theorem dX1_lent_52 : decode cX1_lent 52 = .ok (.iconst (-1), 1) := by decide +kernel
theorem dX1_lent_53 : decode cX1_lent 53 = .ok (.if_icmp .eq 7, 3) := by decide +kernel
theorem dX1_lent_56 : decode cX1_lent 56 = .ok (.iconst 1, 1) := by decide +kernel
theorem dX1_lent_57 : decode cX1_lent 57 = .ok (.goto 4, 3) := by decide +kernel
theorem dX1_lent_60 : decode cX1_lent 60 = .ok (.iconst 0, 1) := by decide +kernel
theorem dX1_lent_61 : decode cX1_lent 61 = .ok (.iadd, 1) := by decide +kernel
theorem dX1_lent_62 : decode cX1_lent 62 = .ok (.istore_n 2, 1) := by decide +kernel
theorem dX1_lent_63 : decode cX1_lent 63 = .ok (.iinc 4 1, 3) := by decide +kernel
theorem dX1_lent_66 : decode cX1_lent 66 = .ok (.goto (-44), 3) := by decide +kernel
theorem dX1_lent_69 : decode cX1_lent 69 = .ok (.iload_n 2, 1) := by decide +kernel
theorem dX1_lent_70 : decode cX1_lent 70 = .ok (.ireturn, 1) := by decide +kernel
set_option maxRecDepth 20000 in
theorem ggX1_stateOf_X1_isProcess : GoodIn wsX1_stateOf wsX1_isProcess := goodIn_r _ [5, 6, 7, 4, 8] (by decide +kernel) (by decide +kernel)
set_option maxRecDepth 20000 in
theorem gX1_stateOf_X1_isProcess : GoodIn wsX1_stateOf (va_wsS RX1 74 yX1_isProcess wsX1_isProcess) := goodIn_app (goodIn_of _ (by decide +kernel)) ggX1_stateOf_X1_isProcess
set_option maxRecDepth 20000 in
theorem ggX1_stateOf_X1_goes : GoodIn wsX1_stateOf wsX1_goes := goodIn_r _ [12, 13, 14, 15, 16, 17, 18, 19, 20, 21, 22, 23, 24, 25, 26, 27, 28, 29, 30, 31, 32] (by decide +kernel) (by decide +kernel)
set_option maxRecDepth 20000 in
theorem gX1_stateOf_X1_goes : GoodIn wsX1_stateOf (wsV RX1 77 RX1 yX1_goes wsX1_goes) := goodIn_app (goodIn_of _ (by decide +kernel)) ggX1_stateOf_X1_goes
theorem dX1_stateOf_0 : decode cX1_stateOf 0 = .ok (.aload_n 0, 1) := by decide +kernel
theorem dX1_stateOf_1 : decode cX1_stateOf 1 = .ok (.iload_n 1, 1) := by decide +kernel
theorem dX1_stateOf_2 : decode cX1_stateOf 2 = .ok (.invokestatic 74, 3) := by decide +kernel
theorem dX1_stateOf_5 : decode cX1_stateOf 5 = .ok (.ifCond .eq 7, 3) := by decide +kernel
theorem dX1_stateOf_8 : decode cX1_stateOf 8 = .ok (.iconst 0, 1) := by decide +kernel
theorem dX1_stateOf_9 : decode cX1_stateOf 9 = .ok (.goto 4, 3) := by decide +kernel
theorem dX1_stateOf_12 : decode cX1_stateOf 12 = .ok (.iconst 1, 1) := by decide +kernel
theorem dX1_stateOf_13 : decode cX1_stateOf 13 = .ok (.invokevirtual 77, 3) := by decide +kernel
theorem dX1_stateOf_16 : decode cX1_stateOf 16 = .ok (.ifCond .eq 12, 3) := by decide +kernel
theorem dX1_stateOf_19 : decode cX1_stateOf 19 = .ok (.aload_n 0, 1) := by decide +kernel
theorem dX1_stateOf_20 : decode cX1_stateOf 20 = .ok (.getfield 36, 3) := by decide +kernel
theorem dX1_stateOf_23 : decode cX1_stateOf 23 = .ok (.iload_n 1, 1) := by decide +kernel
theorem dX1_stateOf_24 : decode cX1_stateOf 24 = .ok (.iaload, 1) := by decide +kernel
theorem dX1_stateOf_25 : decode cX1_stateOf 25 = .ok (.goto 4, 3) := by decide +kernel
theorem dX1_stateOf_28 : decode cX1_stateOf 28 = .ok (.iconst 0, 1) := by decide +kernel
theorem dX1_stateOf_29 : decode cX1_stateOf 29 = .ok (.ireturn, 1) := by decide +kernel
set_option maxRecDepth 20000 in
theorem ggX1_purse_X1_isProcess : GoodIn wsX1_purse wsX1_isProcess := goodIn_r _ [5, 6, 7, 4, 8] (by decide +kernel) (by decide +kernel)
set_option maxRecDepth 20000 in
theorem gX1_purse_X1_isProcess : GoodIn wsX1_purse (va_wsS RX1 74 yX1_isProcess wsX1_isProcess) := goodIn_app (goodIn_of _ (by decide +kernel)) ggX1_purse_X1_isProcess
set_option maxRecDepth 20000 in
theorem ggX1_purse_X1_goes : GoodIn wsX1_purse wsX1_goes := goodIn_r _ [12, 13, 14, 15, 16, 17, 18, 19, 20, 21, 22, 23, 24, 25, 26, 27, 28, 29, 30, 31, 32] (by decide +kernel) (by decide +kernel)
set_option maxRecDepth 20000 in
theorem gX1_purse_X1_goes : GoodIn wsX1_purse (wsV RX1 77 RX1 yX1_goes wsX1_goes) := goodIn_app (goodIn_of _ (by decide +kernel)) ggX1_purse_X1_goes
theorem dX1_purse_0 : decode cX1_purse 0 = .ok (.aload_n 0, 1) := by decide +kernel
theorem dX1_purse_1 : decode cX1_purse 1 = .ok (.iload_n 1, 1) := by decide +kernel
theorem dX1_purse_2 : decode cX1_purse 2 = .ok (.invokestatic 74, 3) := by decide +kernel
theorem dX1_purse_5 : decode cX1_purse 5 = .ok (.ifCond .eq 7, 3) := by decide +kernel
theorem dX1_purse_8 : decode cX1_purse 8 = .ok (.iconst 0, 1) := by decide +kernel
theorem dX1_purse_9 : decode cX1_purse 9 = .ok (.goto 4, 3) := by decide +kernel
theorem dX1_purse_12 : decode cX1_purse 12 = .ok (.iconst 1, 1) := by decide +kernel
theorem dX1_purse_13 : decode cX1_purse 13 = .ok (.invokevirtual 77, 3) := by decide +kernel
theorem dX1_purse_16 : decode cX1_purse 16 = .ok (.ifCond .eq 12, 3) := by decide +kernel
theorem dX1_purse_19 : decode cX1_purse 19 = .ok (.aload_n 0, 1) := by decide +kernel
theorem dX1_purse_20 : decode cX1_purse 20 = .ok (.getfield 33, 3) := by decide +kernel
theorem dX1_purse_23 : decode cX1_purse 23 = .ok (.iload_n 1, 1) := by decide +kernel
theorem dX1_purse_24 : decode cX1_purse 24 = .ok (.iaload, 1) := by decide +kernel
theorem dX1_purse_25 : decode cX1_purse 25 = .ok (.goto 4, 3) := by decide +kernel
theorem dX1_purse_28 : decode cX1_purse 28 = .ok (.iconst 0, 1) := by decide +kernel
theorem dX1_purse_29 : decode cX1_purse 29 = .ok (.ireturn, 1) := by decide +kernel
set_option maxRecDepth 20000 in
theorem ggX1_faults_X1_isProcess : GoodIn wsX1_faults wsX1_isProcess := goodIn_r _ [5, 6, 7, 4, 8] (by decide +kernel) (by decide +kernel)
set_option maxRecDepth 20000 in
theorem gX1_faults_X1_isProcess : GoodIn wsX1_faults (va_wsS RX1 74 yX1_isProcess wsX1_isProcess) := goodIn_app (goodIn_of _ (by decide +kernel)) ggX1_faults_X1_isProcess
set_option maxRecDepth 20000 in
theorem ggX1_faults_X1_goes : GoodIn wsX1_faults wsX1_goes := goodIn_r _ [12, 13, 14, 15, 16, 17, 18, 19, 20, 21, 22, 23, 24, 25, 26, 27, 28, 29, 30, 31, 32] (by decide +kernel) (by decide +kernel)
set_option maxRecDepth 20000 in
theorem gX1_faults_X1_goes : GoodIn wsX1_faults (wsV RX1 77 RX1 yX1_goes wsX1_goes) := goodIn_app (goodIn_of _ (by decide +kernel)) ggX1_faults_X1_goes
theorem dX1_faults_0 : decode cX1_faults 0 = .ok (.aload_n 0, 1) := by decide +kernel
theorem dX1_faults_1 : decode cX1_faults 1 = .ok (.iload_n 1, 1) := by decide +kernel
theorem dX1_faults_2 : decode cX1_faults 2 = .ok (.invokestatic 74, 3) := by decide +kernel
theorem dX1_faults_5 : decode cX1_faults 5 = .ok (.ifCond .eq 7, 3) := by decide +kernel
theorem dX1_faults_8 : decode cX1_faults 8 = .ok (.iconst 0, 1) := by decide +kernel
theorem dX1_faults_9 : decode cX1_faults 9 = .ok (.goto 4, 3) := by decide +kernel
theorem dX1_faults_12 : decode cX1_faults 12 = .ok (.iconst 1, 1) := by decide +kernel
theorem dX1_faults_13 : decode cX1_faults 13 = .ok (.invokevirtual 77, 3) := by decide +kernel
theorem dX1_faults_16 : decode cX1_faults 16 = .ok (.ifCond .eq 12, 3) := by decide +kernel
theorem dX1_faults_19 : decode cX1_faults 19 = .ok (.aload_n 0, 1) := by decide +kernel
theorem dX1_faults_20 : decode cX1_faults 20 = .ok (.getfield 39, 3) := by decide +kernel
theorem dX1_faults_23 : decode cX1_faults 23 = .ok (.iload_n 1, 1) := by decide +kernel
theorem dX1_faults_24 : decode cX1_faults 24 = .ok (.iaload, 1) := by decide +kernel
theorem dX1_faults_25 : decode cX1_faults 25 = .ok (.goto 4, 3) := by decide +kernel
theorem dX1_faults_28 : decode cX1_faults 28 = .ok (.iconst 0, 1) := by decide +kernel
theorem dX1_faults_29 : decode cX1_faults 29 = .ok (.ireturn, 1) := by decide +kernel
theorem dX1_loans_0 : decode cX1_loans 0 = .ok (.aload_n 0, 1) := by decide +kernel
theorem dX1_loans_1 : decode cX1_loans 1 = .ok (.iconst 0, 1) := by decide +kernel
theorem dX1_loans_2 : decode cX1_loans 2 = .ok (.putfield 57, 3) := by decide +kernel
theorem dX1_loans_5 : decode cX1_loans 5 = .ok (.aload_n 0, 1) := by decide +kernel
theorem dX1_loans_6 : decode cX1_loans 6 = .ok (.getfield 64, 3) := by decide +kernel
theorem dX1_loans_9 : decode cX1_loans 9 = .ok (.ireturn, 1) := by decide +kernel
set_option maxRecDepth 20000 in
theorem ggX1_lasts_X1_isLoan : GoodIn wsX1_lasts wsX1_isLoan := goodIn_r _ [5, 6, 7, 8, 4, 9, 21, 22, 23, 24, 25, 26, 27, 28, 29, 30, 31, 32, 33, 34, 35, 36, 37, 38, 39] (by decide +kernel) (by decide +kernel)
set_option maxRecDepth 20000 in
theorem gX1_lasts_X1_isLoan : GoodIn wsX1_lasts (wsV RX1 147 RX1 yX1_isLoan wsX1_isLoan) := goodIn_app (goodIn_of _ (by decide +kernel)) ggX1_lasts_X1_isLoan
set_option maxRecDepth 20000 in
theorem ggX1_lasts_X1_goes : GoodIn wsX1_lasts wsX1_goes := goodIn_r _ [13, 14, 21, 22, 23, 24, 25, 26, 27, 28, 29, 30, 31, 32, 33, 34, 35, 36, 37, 38, 39] (by decide +kernel) (by decide +kernel)
set_option maxRecDepth 20000 in
theorem gX1_lasts_X1_goes : GoodIn wsX1_lasts (wsV RX1 77 RX1 yX1_goes wsX1_goes) := goodIn_app (goodIn_of _ (by decide +kernel)) ggX1_lasts_X1_goes
set_option maxRecDepth 20000 in
theorem ggX1_lasts_X1_doesLast : GoodIn wsX1_lasts wsX1_doesLast := goodIn_r _ [18, 19, 20, 21, 22, 23, 24, 25, 26, 27, 28, 29, 30, 31, 32, 33, 34, 35, 36, 37, 38, 39] (by decide +kernel) (by decide +kernel)
set_option maxRecDepth 20000 in
theorem gX1_lasts_X1_doesLast : GoodIn wsX1_lasts (wsV RX1 94 RX1 yX1_doesLast wsX1_doesLast) := goodIn_app (goodIn_of _ (by decide +kernel)) ggX1_lasts_X1_doesLast
theorem dX1_lasts_0 : decode cX1_lasts 0 = .ok (.aload_n 0, 1) := by decide +kernel
theorem dX1_lasts_1 : decode cX1_lasts 1 = .ok (.aload_n 0, 1) := by decide +kernel
theorem dX1_lasts_2 : decode cX1_lasts 2 = .ok (.iload_n 1, 1) := by decide +kernel
theorem dX1_lasts_3 : decode cX1_lasts 3 = .ok (.invokevirtual 147, 3) := by decide +kernel
theorem dX1_lasts_6 : decode cX1_lasts 6 = .ok (.ifCond .eq 7, 3) := by decide +kernel
theorem dX1_lasts_9 : decode cX1_lasts 9 = .ok (.iconst 0, 1) := by decide +kernel
theorem dX1_lasts_10 : decode cX1_lasts 10 = .ok (.goto 4, 3) := by decide +kernel
theorem dX1_lasts_13 : decode cX1_lasts 13 = .ok (.iconst 1, 1) := by decide +kernel
theorem dX1_lasts_14 : decode cX1_lasts 14 = .ok (.invokevirtual 77, 3) := by decide +kernel
theorem dX1_lasts_17 : decode cX1_lasts 17 = .ok (.ifCond .eq 15, 3) := by decide +kernel
theorem dX1_lasts_20 : decode cX1_lasts 20 = .ok (.aload_n 0, 1) := by decide +kernel
theorem dX1_lasts_21 : decode cX1_lasts 21 = .ok (.iload_n 1, 1) := by decide +kernel
theorem dX1_lasts_22 : decode cX1_lasts 22 = .ok (.invokevirtual 94, 3) := by decide +kernel
theorem dX1_lasts_25 : decode cX1_lasts 25 = .ok (.ifCond .eq 7, 3) := by decide +kernel
theorem dX1_lasts_28 : decode cX1_lasts 28 = .ok (.iconst 1, 1) := by decide +kernel
theorem dX1_lasts_29 : decode cX1_lasts 29 = .ok (.goto 4, 3) := by decide +kernel
theorem dX1_lasts_32 : decode cX1_lasts 32 = .ok (.iconst 0, 1) := by decide +kernel
theorem dX1_lasts_33 : decode cX1_lasts 33 = .ok (.ireturn, 1) := by decide +kernel
set_option maxRecDepth 20000 in
theorem ggX1_partiesOf_X1_isLoan : GoodIn wsX1_partiesOf wsX1_isLoan := goodIn_r _ [8, 9, 10, 11, 7, 12, 18, 19, 20, 21, 22, 23, 24, 25, 26, 27, 28, 29, 30, 31, 32, 33, 34, 35, 36] (by decide +kernel) (by decide +kernel)
set_option maxRecDepth 20000 in
theorem gX1_partiesOf_X1_isLoan : GoodIn wsX1_partiesOf (wsV RX1 147 RX1 yX1_isLoan wsX1_isLoan) := goodIn_app (goodIn_of _ (by decide +kernel)) ggX1_partiesOf_X1_isLoan
set_option maxRecDepth 20000 in
theorem ggX1_partiesOf_X1_goes : GoodIn wsX1_partiesOf wsX1_goes := goodIn_r _ [16, 17, 18, 19, 20, 21, 22, 23, 24, 25, 26, 27, 28, 29, 30, 31, 32, 33, 34, 35, 36] (by decide +kernel) (by decide +kernel)
set_option maxRecDepth 20000 in
theorem gX1_partiesOf_X1_goes : GoodIn wsX1_partiesOf (wsV RX1 77 RX1 yX1_goes wsX1_goes) := goodIn_app (goodIn_of _ (by decide +kernel)) ggX1_partiesOf_X1_goes
theorem dX1_partiesOf_0 : decode cX1_partiesOf 0 = .ok (.aload_n 0, 1) := by decide +kernel
theorem dX1_partiesOf_1 : decode cX1_partiesOf 1 = .ok (.aload_n 0, 1) := by decide +kernel
theorem dX1_partiesOf_2 : decode cX1_partiesOf 2 = .ok (.iload_n 1, 1) := by decide +kernel
theorem dX1_partiesOf_3 : decode cX1_partiesOf 3 = .ok (.invokevirtual 147, 3) := by decide +kernel
theorem dX1_partiesOf_6 : decode cX1_partiesOf 6 = .ok (.ifCond .eq 7, 3) := by decide +kernel
theorem dX1_partiesOf_9 : decode cX1_partiesOf 9 = .ok (.iconst 0, 1) := by decide +kernel
theorem dX1_partiesOf_10 : decode cX1_partiesOf 10 = .ok (.goto 4, 3) := by decide +kernel
theorem dX1_partiesOf_13 : decode cX1_partiesOf 13 = .ok (.iconst 1, 1) := by decide +kernel
theorem dX1_partiesOf_14 : decode cX1_partiesOf 14 = .ok (.invokevirtual 77, 3) := by decide +kernel
theorem dX1_partiesOf_17 : decode cX1_partiesOf 17 = .ok (.ifCond .eq 32, 3) := by decide +kernel
theorem dX1_partiesOf_20 : decode cX1_partiesOf 20 = .ok (.bipush 100, 2) := by decide +kernel
theorem dX1_partiesOf_22 : decode cX1_partiesOf 22 = .ok (.aload_n 0, 1) := by decide +kernel
theorem dX1_partiesOf_23 : decode cX1_partiesOf 23 = .ok (.getfield 42, 3) := by decide +kernel
theorem dX1_partiesOf_26 : decode cX1_partiesOf 26 = .ok (.iload_n 1, 1) := by decide +kernel
theorem dX1_partiesOf_27 : decode cX1_partiesOf 27 = .ok (.iaload, 1) := by decide +kernel
theorem dX1_partiesOf_28 : decode cX1_partiesOf 28 = .ok (.imul, 1) := by decide +kernel
theorem dX1_partiesOf_29 : decode cX1_partiesOf 29 = .ok (.bipush 10, 2) := by decide +kernel
theorem dX1_partiesOf_31 : decode cX1_partiesOf 31 = .ok (.aload_n 0, 1) := by decide +kernel
theorem dX1_partiesOf_32 : decode cX1_partiesOf 32 = .ok (.getfield 45, 3) := by decide +kernel
theorem dX1_partiesOf_35 : decode cX1_partiesOf 35 = .ok (.iload_n 1, 1) := by decide +kernel
theorem dX1_partiesOf_36 : decode cX1_partiesOf 36 = .ok (.iaload, 1) := by decide +kernel
theorem dX1_partiesOf_37 : decode cX1_partiesOf 37 = .ok (.imul, 1) := by decide +kernel
theorem dX1_partiesOf_38 : decode cX1_partiesOf 38 = .ok (.iadd, 1) := by decide +kernel
theorem dX1_partiesOf_39 : decode cX1_partiesOf 39 = .ok (.aload_n 0, 1) := by decide +kernel
theorem dX1_partiesOf_40 : decode cX1_partiesOf 40 = .ok (.getfield 48, 3) := by decide +kernel
theorem dX1_partiesOf_43 : decode cX1_partiesOf 43 = .ok (.iload_n 1, 1) := by decide +kernel
theorem dX1_partiesOf_44 : decode cX1_partiesOf 44 = .ok (.iaload, 1) := by decide +kernel
theorem dX1_partiesOf_45 : decode cX1_partiesOf 45 = .ok (.iadd, 1) := by decide +kernel
theorem dX1_partiesOf_46 : decode cX1_partiesOf 46 = .ok (.goto 4, 3) := by decide +kernel
theorem dX1_partiesOf_49 : decode cX1_partiesOf 49 = .ok (.iconst 0, 1) := by decide +kernel
theorem dX1_partiesOf_50 : decode cX1_partiesOf 50 = .ok (.ireturn, 1) := by decide +kernel
set_option maxRecDepth 20000 in
theorem ggX1_interest_X1_isLoan : GoodIn wsX1_interest wsX1_isLoan := goodIn_r _ [6, 7, 8, 9, 5, 10, 16, 17, 18, 19, 20, 21, 22, 23, 24, 25, 26, 27, 28, 29, 30, 31, 32, 33, 34] (by decide +kernel) (by decide +kernel)
set_option maxRecDepth 20000 in
theorem gX1_interest_X1_isLoan : GoodIn wsX1_interest (wsV RX1 147 RX1 yX1_isLoan wsX1_isLoan) := goodIn_app (goodIn_of _ (by decide +kernel)) ggX1_interest_X1_isLoan
set_option maxRecDepth 20000 in
theorem ggX1_interest_X1_goes : GoodIn wsX1_interest wsX1_goes := goodIn_r _ [14, 15, 16, 17, 18, 19, 20, 21, 22, 23, 24, 25, 26, 27, 28, 29, 30, 31, 32, 33, 34] (by decide +kernel) (by decide +kernel)
set_option maxRecDepth 20000 in
theorem gX1_interest_X1_goes : GoodIn wsX1_interest (wsV RX1 77 RX1 yX1_goes wsX1_goes) := goodIn_app (goodIn_of _ (by decide +kernel)) ggX1_interest_X1_goes
theorem dX1_interest_0 : decode cX1_interest 0 = .ok (.aload_n 0, 1) := by decide +kernel
theorem dX1_interest_1 : decode cX1_interest 1 = .ok (.aload_n 0, 1) := by decide +kernel
theorem dX1_interest_2 : decode cX1_interest 2 = .ok (.iload_n 1, 1) := by decide +kernel
theorem dX1_interest_3 : decode cX1_interest 3 = .ok (.invokevirtual 147, 3) := by decide +kernel
theorem dX1_interest_6 : decode cX1_interest 6 = .ok (.ifCond .eq 7, 3) := by decide +kernel
theorem dX1_interest_9 : decode cX1_interest 9 = .ok (.iconst 0, 1) := by decide +kernel
theorem dX1_interest_10 : decode cX1_interest 10 = .ok (.goto 4, 3) := by decide +kernel
theorem dX1_interest_13 : decode cX1_interest 13 = .ok (.iconst 1, 1) := by decide +kernel
theorem dX1_interest_14 : decode cX1_interest 14 = .ok (.invokevirtual 77, 3) := by decide +kernel
theorem dX1_interest_17 : decode cX1_interest 17 = .ok (.ifCond .eq 12, 3) := by decide +kernel
theorem dX1_interest_20 : decode cX1_interest 20 = .ok (.aload_n 0, 1) := by decide +kernel
theorem dX1_interest_21 : decode cX1_interest 21 = .ok (.getfield 51, 3) := by decide +kernel
theorem dX1_interest_24 : decode cX1_interest 24 = .ok (.iload_n 1, 1) := by decide +kernel
theorem dX1_interest_25 : decode cX1_interest 25 = .ok (.iaload, 1) := by decide +kernel
theorem dX1_interest_26 : decode cX1_interest 26 = .ok (.goto 4, 3) := by decide +kernel
theorem dX1_interest_29 : decode cX1_interest 29 = .ok (.iconst 0, 1) := by decide +kernel
theorem dX1_interest_30 : decode cX1_interest 30 = .ok (.ireturn, 1) := by decide +kernel
theorem dX1_head_0 : decode cX1_head 0 = .ok (.aload_n 0, 1) := by decide +kernel
theorem dX1_head_1 : decode cX1_head 1 = .ok (.iconst 0, 1) := by decide +kernel
theorem dX1_head_2 : decode cX1_head 2 = .ok (.putfield 57, 3) := by decide +kernel
theorem dX1_head_5 : decode cX1_head 5 = .ok (.aload_n 0, 1) := by decide +kernel
theorem dX1_head_6 : decode cX1_head 6 = .ok (.getfield 159, 3) := by decide +kernel
theorem dX1_head_9 : decode cX1_head 9 = .ok (.ireturn, 1) := by decide +kernel
set_option maxRecDepth 20000 in
theorem ggX1_requests_X1_isComing : GoodIn wsX1_requests wsX1_isComing := goodIn_r _ [6, 7, 8, 9, 10, 11, 12, 13, 14, 15, 16, 17, 18, 19, 20, 21, 22, 23, 24, 25, 26, 27] (by decide +kernel) (by decide +kernel)
set_option maxRecDepth 20000 in
theorem gX1_requests_X1_isComing : GoodIn wsX1_requests (wsV RX1 97 RX1 yX1_isComing wsX1_isComing) := goodIn_app (goodIn_of _ (by decide +kernel)) ggX1_requests_X1_isComing
theorem dX1_requests_0 : decode cX1_requests 0 = .ok (.aload_n 0, 1) := by decide +kernel
theorem dX1_requests_1 : decode cX1_requests 1 = .ok (.iconst 0, 1) := by decide +kernel
theorem dX1_requests_2 : decode cX1_requests 2 = .ok (.putfield 57, 3) := by decide +kernel
theorem dX1_requests_5 : decode cX1_requests 5 = .ok (.iconst 0, 1) := by decide +kernel
theorem dX1_requests_6 : decode cX1_requests 6 = .ok (.istore_n 1, 1) := by decide +kernel
theorem dX1_requests_7 : decode cX1_requests 7 = .ok (.iconst 0, 1) := by decide +kernel
theorem dX1_requests_8 : decode cX1_requests 8 = .ok (.istore_n 2, 1) := by decide +kernel
theorem dX1_requests_9 : decode cX1_requests 9 = .ok (.iload_n 2, 1) := by decide +kernel
theorem dX1_requests_10 : decode cX1_requests 10 = .ok (.bipush 12, 2) := by decide +kernel
theorem dX1_requests_12 : decode cX1_requests 12 = .ok (.if_icmp .ge 25, 3) := by decide +kernel
theorem dX1_requests_15 : decode cX1_requests 15 = .ok (.iload_n 1, 1) := by decide +kernel
theorem dX1_requests_16 : decode cX1_requests 16 = .ok (.aload_n 0, 1) := by decide +kernel
theorem dX1_requests_17 : decode cX1_requests 17 = .ok (.iload_n 2, 1) := by decide +kernel
theorem dX1_requests_18 : decode cX1_requests 18 = .ok (.invokevirtual 97, 3) := by decide +kernel
theorem dX1_requests_21 : decode cX1_requests 21 = .ok (.ifCond .eq 7, 3) := by decide +kernel
theorem dX1_requests_24 : decode cX1_requests 24 = .ok (.iconst 1, 1) := by decide +kernel
theorem dX1_requests_25 : decode cX1_requests 25 = .ok (.goto 4, 3) := by decide +kernel
theorem dX1_requests_28 : decode cX1_requests 28 = .ok (.iconst 0, 1) := by decide +kernel
theorem dX1_requests_29 : decode cX1_requests 29 = .ok (.iadd, 1) := by decide +kernel
theorem dX1_requests_30 : decode cX1_requests 30 = .ok (.istore_n 1, 1) := by decide +kernel
theorem dX1_requests_31 : decode cX1_requests 31 = .ok (.iinc 2 1, 3) := by decide +kernel
theorem dX1_requests_34 : decode cX1_requests 34 = .ok (.goto (-25), 3) := by decide +kernel
theorem dX1_requests_37 : decode cX1_requests 37 = .ok (.iload_n 1, 1) := by decide +kernel
theorem dX1_requests_38 : decode cX1_requests 38 = .ok (.ireturn, 1) := by decide +kernel
set_option maxRecDepth 20000 in
theorem ggX1_requestAt_X1_goes : GoodIn wsX1_requestAt wsX1_goes := goodIn_r _ [5, 6, 24, 25, 26, 27, 28, 29, 30, 31, 32, 33, 34, 35, 36, 37, 38, 39, 40, 41, 42] (by decide +kernel) (by decide +kernel)
set_option maxRecDepth 20000 in
theorem gX1_requestAt_X1_goes : GoodIn wsX1_requestAt (wsV RX1 77 RX1 yX1_goes wsX1_goes) := goodIn_app (goodIn_of _ (by decide +kernel)) ggX1_requestAt_X1_goes
set_option maxRecDepth 20000 in
theorem ggX1_requestAt_X1_isComing : GoodIn wsX1_requestAt wsX1_isComing := goodIn_r _ [10, 11, 12, 24, 25, 26, 27, 28, 29, 30, 31, 32, 33, 34, 35, 36, 37, 38, 39, 40, 41, 42] (by decide +kernel) (by decide +kernel)
set_option maxRecDepth 20000 in
theorem gX1_requestAt_X1_isComing : GoodIn wsX1_requestAt (wsV RX1 97 RX1 yX1_isComing wsX1_isComing) := goodIn_app (goodIn_of _ (by decide +kernel)) ggX1_requestAt_X1_isComing
set_option maxRecDepth 20000 in
theorem ggX1_requestAt_X1_trackOf : GoodIn wsX1_requestAt wsX1_trackOf := goodIn_r _ [16, 11, 17, 18, 19, 4, 20, 21, 22, 23, 24, 25, 26, 27, 28, 29, 30, 31, 32, 33, 34, 35, 36, 37, 38, 39, 40, 41, 42] (by decide +kernel) (by decide +kernel)
set_option maxRecDepth 20000 in
theorem gX1_requestAt_X1_trackOf : GoodIn wsX1_requestAt (wsV RX1 156 RX1 yX1_trackOf wsX1_trackOf) := goodIn_app (goodIn_of _ (by decide +kernel)) ggX1_requestAt_X1_trackOf
theorem dX1_requestAt_0 : decode cX1_requestAt 0 = .ok (.aload_n 0, 1) := by decide +kernel
theorem dX1_requestAt_1 : decode cX1_requestAt 1 = .ok (.iload_n 1, 1) := by decide +kernel
theorem dX1_requestAt_2 : decode cX1_requestAt 2 = .ok (.ifCond .ge 7, 3) := by decide +kernel
theorem dX1_requestAt_5 : decode cX1_requestAt 5 = .ok (.iconst 1, 1) := by decide +kernel
theorem dX1_requestAt_6 : decode cX1_requestAt 6 = .ok (.goto 4, 3) := by decide +kernel
theorem dX1_requestAt_9 : decode cX1_requestAt 9 = .ok (.iconst 0, 1) := by decide +kernel
theorem dX1_requestAt_10 : decode cX1_requestAt 10 = .ok (.invokevirtual 77, 3) := by decide +kernel
theorem dX1_requestAt_13 : decode cX1_requestAt 13 = .ok (.ifCond .ne 5, 3) := by decide +kernel
theorem dX1_requestAt_16 : decode cX1_requestAt 16 = .ok (.iconst 0, 1) := by decide +kernel
theorem dX1_requestAt_17 : decode cX1_requestAt 17 = .ok (.ireturn, 1) := by decide +kernel
theorem dX1_requestAt_18 : decode cX1_requestAt 18 = .ok (.iconst (-1), 1) := by decide +kernel
theorem dX1_requestAt_19 : decode cX1_requestAt 19 = .ok (.istore_n 2, 1) := by decide +kernel
theorem dX1_requestAt_20 : decode cX1_requestAt 20 = .ok (.iconst 0, 1) := by decide +kernel
theorem dX1_requestAt_21 : decode cX1_requestAt 21 = .ok (.istore_n 3, 1) := by decide +kernel
theorem dX1_requestAt_22 : decode cX1_requestAt 22 = .ok (.iload_n 3, 1) := by decide +kernel
theorem dX1_requestAt_23 : decode cX1_requestAt 23 = .ok (.bipush 12, 2) := by decide +kernel
theorem dX1_requestAt_25 : decode cX1_requestAt 25 = .ok (.if_icmp .ge 93, 3) := by decide +kernel
theorem dX1_requestAt_28 : decode cX1_requestAt 28 = .ok (.iconst 0, 1) := by decide +kernel
theorem dX1_requestAt_29 : decode cX1_requestAt 29 = .ok (.istore 4, 2) := by decide +kernel
theorem dX1_requestAt_31 : decode cX1_requestAt 31 = .ok (.iconst 0, 1) := by decide +kernel
theorem dX1_requestAt_32 : decode cX1_requestAt 32 = .ok (.istore 5, 2) := by decide +kernel
theorem dX1_requestAt_34 : decode cX1_requestAt 34 = .ok (.iload 5, 2) := by decide +kernel
theorem dX1_requestAt_36 : decode cX1_requestAt 36 = .ok (.bipush 12, 2) := by decide +kernel
theorem dX1_requestAt_38 : decode cX1_requestAt 38 = .ok (.if_icmp .ge 50, 3) := by decide +kernel
theorem dX1_requestAt_41 : decode cX1_requestAt 41 = .ok (.aload_n 0, 1) := by decide +kernel
theorem dX1_requestAt_42 : decode cX1_requestAt 42 = .ok (.iload_n 3, 1) := by decide +kernel
theorem dX1_requestAt_43 : decode cX1_requestAt 43 = .ok (.invokevirtual 97, 3) := by decide +kernel
theorem dX1_requestAt_46 : decode cX1_requestAt 46 = .ok (.ifCond .eq 42, 3) := by decide +kernel
theorem dX1_requestAt_49 : decode cX1_requestAt 49 = .ok (.iload 4, 2) := by decide +kernel
theorem dX1_requestAt_51 : decode cX1_requestAt 51 = .ok (.aload_n 0, 1) := by decide +kernel
theorem dX1_requestAt_52 : decode cX1_requestAt 52 = .ok (.iload 5, 2) := by decide +kernel
theorem dX1_requestAt_54 : decode cX1_requestAt 54 = .ok (.invokevirtual 97, 3) := by decide +kernel
theorem dX1_requestAt_57 : decode cX1_requestAt 57 = .ok (.ifCond .eq 21, 3) := by decide +kernel
theorem dX1_requestAt_60 : decode cX1_requestAt 60 = .ok (.aload_n 0, 1) := by decide +kernel
theorem dX1_requestAt_61 : decode cX1_requestAt 61 = .ok (.iload 5, 2) := by decide +kernel
theorem dX1_requestAt_63 : decode cX1_requestAt 63 = .ok (.invokevirtual 156, 3) := by decide +kernel
theorem dX1_requestAt_66 : decode cX1_requestAt 66 = .ok (.aload_n 0, 1) := by decide +kernel
theorem dX1_requestAt_67 : decode cX1_requestAt 67 = .ok (.iload_n 3, 1) := by decide +kernel
theorem dX1_requestAt_68 : decode cX1_requestAt 68 = .ok (.invokevirtual 156, 3) := by decide +kernel
theorem dX1_requestAt_71 : decode cX1_requestAt 71 = .ok (.if_icmp .ge 7, 3) := by decide +kernel
theorem dX1_requestAt_74 : decode cX1_requestAt 74 = .ok (.iconst 1, 1) := by decide +kernel
theorem dX1_requestAt_75 : decode cX1_requestAt 75 = .ok (.goto 4, 3) := by decide +kernel
theorem dX1_requestAt_78 : decode cX1_requestAt 78 = .ok (.iconst 0, 1) := by decide +kernel
theorem dX1_requestAt_79 : decode cX1_requestAt 79 = .ok (.iadd, 1) := by decide +kernel
theorem dX1_requestAt_80 : decode cX1_requestAt 80 = .ok (.istore 4, 2) := by decide +kernel
theorem dX1_requestAt_82 : decode cX1_requestAt 82 = .ok (.iinc 5 1, 3) := by decide +kernel
theorem dX1_requestAt_85 : decode cX1_requestAt 85 = .ok (.goto (-51), 3) := by decide +kernel
theorem dX1_requestAt_88 : decode cX1_requestAt 88 = .ok (.aload_n 0, 1) := by decide +kernel
theorem dX1_requestAt_89 : decode cX1_requestAt 89 = .ok (.iload_n 3, 1) := by decide +kernel
theorem dX1_requestAt_90 : decode cX1_requestAt 90 = .ok (.invokevirtual 97, 3) := by decide +kernel
theorem dX1_requestAt_93 : decode cX1_requestAt 93 = .ok (.ifCond .eq 17, 3) := by decide +kernel
theorem dX1_requestAt_96 : decode cX1_requestAt 96 = .ok (.iload 4, 2) := by decide +kernel
theorem dX1_requestAt_98 : decode cX1_requestAt 98 = .ok (.iload_n 1, 1) := by decide +kernel
theorem dX1_requestAt_99 : decode cX1_requestAt 99 = .ok (.if_icmp .ne 11, 3) := by decide +kernel
theorem dX1_requestAt_102 : decode cX1_requestAt 102 = .ok (.aload_n 0, 1) := by decide +kernel
theorem dX1_requestAt_103 : decode cX1_requestAt 103 = .ok (.iload_n 3, 1) := by decide +kernel
theorem dX1_requestAt_104 : decode cX1_requestAt 104 = .ok (.invokevirtual 156, 3) := by decide +kernel
theorem dX1_requestAt_107 : decode cX1_requestAt 107 = .ok (.goto 4, 3) := by decide +kernel
theorem dX1_requestAt_110 : decode cX1_requestAt 110 = .ok (.iload_n 2, 1) := by decide +kernel
theorem dX1_requestAt_111 : decode cX1_requestAt 111 = .ok (.istore_n 2, 1) := by decide +kernel
theorem dX1_requestAt_112 : decode cX1_requestAt 112 = .ok (.iinc 3 1, 3) := by decide +kernel
theorem dX1_requestAt_115 : decode cX1_requestAt 115 = .ok (.goto (-93), 3) := by decide +kernel
theorem dX1_requestAt_118 : decode cX1_requestAt 118 = .ok (.iload_n 2, 1) := by decide +kernel
theorem dX1_requestAt_119 : decode cX1_requestAt 119 = .ok (.ireturn, 1) := by decide +kernel
end
section
set_option maxRecDepth 20000 in
theorem ggL_setWage_X0_setWage : GoodIn wsL_setWage wsX0_setWage := goodIn_ca (goodIn_ca (goodIn_r _ [7, 8, 9, 10, 11, 12, 13, 14, 6, 15, 16, 17, 18, 19, 20, 21, 22, 23, 24, 25, 26, 27, 28, 29, 30, 31, 32, 33, 34] (by decide +kernel) (by decide +kernel)) (goodIn_sub (fun _ h => List.mem_cons_of_mem _ (List.mem_append_left _ (List.mem_append_right _ h))) (by decide +kernel))) (goodIn_sub (fun _ h => List.mem_cons_of_mem _ (List.mem_append_right _ h)) (by decide +kernel))
set_option maxRecDepth 20000 in
theorem gL_setWage_X0_setWage : GoodIn wsL_setWage (wsV RL 7 RX0 yX0_setWage wsX0_setWage) := goodIn_app (goodIn_of _ (by decide +kernel)) ggL_setWage_X0_setWage
theorem dL_setWage_0 : decode cL_setWage 0 = .ok (.aload_n 3, 1) := by decide +kernel
theorem dL_setWage_1 : decode cL_setWage 1 = .ok (.iconst 0, 1) := by decide +kernel
theorem dL_setWage_2 : decode cL_setWage 2 = .ok (.aload_n 0, 1) := by decide +kernel
theorem dL_setWage_3 : decode cL_setWage 3 = .ok (.iload_n 1, 1) := by decide +kernel
theorem dL_setWage_4 : decode cL_setWage 4 = .ok (.iload_n 2, 1) := by decide +kernel
theorem dL_setWage_5 : decode cL_setWage 5 = .ok (.invokevirtual 7, 3) := by decide +kernel
theorem dL_setWage_8 : decode cL_setWage 8 = .ok (.i2l, 1) := by decide +kernel
theorem dL_setWage_9 : decode cL_setWage 9 = .ok (.lastore, 1) := by decide +kernel
theorem dL_setWage_10 : decode cL_setWage 10 = .ok (.goto 11, 3) := by decide +kernel
theorem dL_setWage_13 : decode cL_setWage 13 = .ok (.astore 4, 2) := by decide +kernel
theorem dL_setWage_15 : decode cL_setWage 15 = .ok (.iconst 1, 1) := by decide +kernel
theorem dL_setWage_16 : decode cL_setWage 16 = .ok (.ireturn, 1) := by decide +kernel
theorem dL_setWage_17 : decode cL_setWage 17 = .ok (.astore 4, 2) := by decide +kernel
theorem dL_setWage_19 : decode cL_setWage 19 = .ok (.iconst 2, 1) := by decide +kernel
theorem dL_setWage_20 : decode cL_setWage 20 = .ok (.ireturn, 1) := by decide +kernel
theorem dL_setWage_21 : decode cL_setWage 21 = .ok (.iconst 0, 1) := by decide +kernel
theorem dL_setWage_22 : decode cL_setWage 22 = .ok (.ireturn, 1) := by decide +kernel
set_option maxRecDepth 20000 in
theorem ggL_setRate_X0_setRate : GoodIn wsL_setRate wsX0_setRate := goodIn_ca (goodIn_r _ [6, 7, 8, 9, 10, 11, 12, 13, 14, 15, 16, 17, 18, 19, 20, 21, 22, 23, 24, 25, 26, 27, 28] (by decide +kernel) (by decide +kernel)) (goodIn_sub (fun _ h => List.mem_cons_of_mem _ (List.mem_append_right _ h)) (by decide +kernel))
set_option maxRecDepth 20000 in
theorem gL_setRate_X0_setRate : GoodIn wsL_setRate (wsV RL 17 RX0 yX0_setRate wsX0_setRate) := goodIn_app (goodIn_of _ (by decide +kernel)) ggL_setRate_X0_setRate
theorem dL_setRate_0 : decode cL_setRate 0 = .ok (.aload_n 2, 1) := by decide +kernel
theorem dL_setRate_1 : decode cL_setRate 1 = .ok (.iconst 0, 1) := by decide +kernel
theorem dL_setRate_2 : decode cL_setRate 2 = .ok (.aload_n 0, 1) := by decide +kernel
theorem dL_setRate_3 : decode cL_setRate 3 = .ok (.iload_n 1, 1) := by decide +kernel
theorem dL_setRate_4 : decode cL_setRate 4 = .ok (.invokevirtual 17, 3) := by decide +kernel
theorem dL_setRate_7 : decode cL_setRate 7 = .ok (.i2l, 1) := by decide +kernel
theorem dL_setRate_8 : decode cL_setRate 8 = .ok (.lastore, 1) := by decide +kernel
theorem dL_setRate_9 : decode cL_setRate 9 = .ok (.goto 6, 3) := by decide +kernel
theorem dL_setRate_12 : decode cL_setRate 12 = .ok (.astore_n 3, 1) := by decide +kernel
theorem dL_setRate_13 : decode cL_setRate 13 = .ok (.iconst 1, 1) := by decide +kernel
theorem dL_setRate_14 : decode cL_setRate 14 = .ok (.ireturn, 1) := by decide +kernel
theorem dL_setRate_15 : decode cL_setRate 15 = .ok (.iconst 0, 1) := by decide +kernel
theorem dL_setRate_16 : decode cL_setRate 16 = .ok (.ireturn, 1) := by decide +kernel
set_option maxRecDepth 20000 in
theorem ggL_buy_X0_buy : GoodIn wsL_buy wsX0_buy := goodIn_ca (goodIn_ca (goodIn_r _ [7, 8, 9, 10, 11, 12, 13, 14, 15, 16, 17, 6, 18, 19, 20, 21, 22, 23, 24, 25, 26, 27, 28, 29, 30, 31, 32, 33, 34, 35, 36, 37, 38, 39, 40, 41, 42, 43, 44, 45] (by decide +kernel) (by decide +kernel)) (goodIn_sub (fun _ h => List.mem_cons_of_mem _ (List.mem_append_left _ (List.mem_append_right _ h))) (by decide +kernel))) (goodIn_sub (fun _ h => List.mem_cons_of_mem _ (List.mem_append_right _ h)) (by decide +kernel))
set_option maxRecDepth 20000 in
theorem gL_buy_X0_buy : GoodIn wsL_buy (wsV RL 21 RX0 yX0_buy wsX0_buy) := goodIn_app (goodIn_of _ (by decide +kernel)) ggL_buy_X0_buy
theorem dL_buy_0 : decode cL_buy 0 = .ok (.aload_n 2, 1) := by decide +kernel
theorem dL_buy_1 : decode cL_buy 1 = .ok (.iconst 0, 1) := by decide +kernel
theorem dL_buy_2 : decode cL_buy 2 = .ok (.aload_n 0, 1) := by decide +kernel
theorem dL_buy_3 : decode cL_buy 3 = .ok (.iload_n 1, 1) := by decide +kernel
theorem dL_buy_4 : decode cL_buy 4 = .ok (.invokevirtual 21, 3) := by decide +kernel
theorem dL_buy_7 : decode cL_buy 7 = .ok (.i2l, 1) := by decide +kernel
theorem dL_buy_8 : decode cL_buy 8 = .ok (.lastore, 1) := by decide +kernel
theorem dL_buy_9 : decode cL_buy 9 = .ok (.goto 9, 3) := by decide +kernel
theorem dL_buy_12 : decode cL_buy 12 = .ok (.astore_n 3, 1) := by decide +kernel
theorem dL_buy_13 : decode cL_buy 13 = .ok (.iconst 1, 1) := by decide +kernel
theorem dL_buy_14 : decode cL_buy 14 = .ok (.ireturn, 1) := by decide +kernel
theorem dL_buy_15 : decode cL_buy 15 = .ok (.astore_n 3, 1) := by decide +kernel
theorem dL_buy_16 : decode cL_buy 16 = .ok (.iconst 2, 1) := by decide +kernel
theorem dL_buy_17 : decode cL_buy 17 = .ok (.ireturn, 1) := by decide +kernel
theorem dL_buy_18 : decode cL_buy 18 = .ok (.iconst 0, 1) := by decide +kernel
theorem dL_buy_19 : decode cL_buy 19 = .ok (.ireturn, 1) := by decide +kernel
set_option maxRecDepth 20000 in
theorem ggL_sell_X0_sell : GoodIn wsL_sell wsX0_sell := goodIn_ca (goodIn_ca (goodIn_r _ [7, 8, 9, 10, 11, 12, 13, 14, 15, 16, 17, 18, 6, 19, 20, 21, 22, 23, 24, 25, 26, 27, 28, 29, 30, 31, 32, 33, 34, 35, 36, 37, 38, 39, 40, 41] (by decide +kernel) (by decide +kernel)) (goodIn_sub (fun _ h => List.mem_cons_of_mem _ (List.mem_append_left _ (List.mem_append_right _ h))) (by decide +kernel))) (goodIn_sub (fun _ h => List.mem_cons_of_mem _ (List.mem_append_right _ h)) (by decide +kernel))
set_option maxRecDepth 20000 in
theorem gL_sell_X0_sell : GoodIn wsL_sell (wsV RL 26 RX0 yX0_sell wsX0_sell) := goodIn_app (goodIn_of _ (by decide +kernel)) ggL_sell_X0_sell
theorem dL_sell_0 : decode cL_sell 0 = .ok (.aload_n 2, 1) := by decide +kernel
theorem dL_sell_1 : decode cL_sell 1 = .ok (.iconst 0, 1) := by decide +kernel
theorem dL_sell_2 : decode cL_sell 2 = .ok (.aload_n 0, 1) := by decide +kernel
theorem dL_sell_3 : decode cL_sell 3 = .ok (.iload_n 1, 1) := by decide +kernel
theorem dL_sell_4 : decode cL_sell 4 = .ok (.invokevirtual 26, 3) := by decide +kernel
theorem dL_sell_7 : decode cL_sell 7 = .ok (.i2l, 1) := by decide +kernel
theorem dL_sell_8 : decode cL_sell 8 = .ok (.lastore, 1) := by decide +kernel
theorem dL_sell_9 : decode cL_sell 9 = .ok (.goto 9, 3) := by decide +kernel
theorem dL_sell_12 : decode cL_sell 12 = .ok (.astore_n 3, 1) := by decide +kernel
theorem dL_sell_13 : decode cL_sell 13 = .ok (.iconst 1, 1) := by decide +kernel
theorem dL_sell_14 : decode cL_sell 14 = .ok (.ireturn, 1) := by decide +kernel
theorem dL_sell_15 : decode cL_sell 15 = .ok (.astore_n 3, 1) := by decide +kernel
theorem dL_sell_16 : decode cL_sell 16 = .ok (.iconst 2, 1) := by decide +kernel
theorem dL_sell_17 : decode cL_sell 17 = .ok (.ireturn, 1) := by decide +kernel
theorem dL_sell_18 : decode cL_sell 18 = .ok (.iconst 0, 1) := by decide +kernel
theorem dL_sell_19 : decode cL_sell 19 = .ok (.ireturn, 1) := by decide +kernel
set_option maxRecDepth 20000 in
theorem ggL_drop_X0_drop : GoodIn wsL_drop wsX0_drop := goodIn_ca (goodIn_ca (goodIn_r _ [7, 8, 9, 10, 11, 12, 13, 14, 15, 6, 16, 17, 18, 19, 20, 21, 22, 23, 24, 25, 26, 27, 28, 29, 30, 31, 32, 33, 34, 35, 36, 37, 38, 39, 40] (by decide +kernel) (by decide +kernel)) (goodIn_sub (fun _ h => List.mem_cons_of_mem _ (List.mem_append_left _ (List.mem_append_right _ h))) (by decide +kernel))) (goodIn_sub (fun _ h => List.mem_cons_of_mem _ (List.mem_append_right _ h)) (by decide +kernel))
set_option maxRecDepth 20000 in
theorem gL_drop_X0_drop : GoodIn wsL_drop (wsV RL 29 RX0 yX0_drop wsX0_drop) := goodIn_app (goodIn_of _ (by decide +kernel)) ggL_drop_X0_drop
theorem dL_drop_0 : decode cL_drop 0 = .ok (.aload_n 2, 1) := by decide +kernel
theorem dL_drop_1 : decode cL_drop 1 = .ok (.iconst 0, 1) := by decide +kernel
theorem dL_drop_2 : decode cL_drop 2 = .ok (.aload_n 0, 1) := by decide +kernel
theorem dL_drop_3 : decode cL_drop 3 = .ok (.iload_n 1, 1) := by decide +kernel
theorem dL_drop_4 : decode cL_drop 4 = .ok (.invokevirtual 29, 3) := by decide +kernel
theorem dL_drop_7 : decode cL_drop 7 = .ok (.i2l, 1) := by decide +kernel
theorem dL_drop_8 : decode cL_drop 8 = .ok (.lastore, 1) := by decide +kernel
theorem dL_drop_9 : decode cL_drop 9 = .ok (.goto 9, 3) := by decide +kernel
theorem dL_drop_12 : decode cL_drop 12 = .ok (.astore_n 3, 1) := by decide +kernel
theorem dL_drop_13 : decode cL_drop 13 = .ok (.iconst 1, 1) := by decide +kernel
theorem dL_drop_14 : decode cL_drop 14 = .ok (.ireturn, 1) := by decide +kernel
theorem dL_drop_15 : decode cL_drop 15 = .ok (.astore_n 3, 1) := by decide +kernel
theorem dL_drop_16 : decode cL_drop 16 = .ok (.iconst 2, 1) := by decide +kernel
theorem dL_drop_17 : decode cL_drop 17 = .ok (.ireturn, 1) := by decide +kernel
theorem dL_drop_18 : decode cL_drop 18 = .ok (.iconst 0, 1) := by decide +kernel
theorem dL_drop_19 : decode cL_drop 19 = .ok (.ireturn, 1) := by decide +kernel
set_option maxRecDepth 20000 in
theorem ggL_touch_X0_touch : GoodIn wsL_touch wsX0_touch := goodIn_ca (goodIn_ca (goodIn_r _ [7, 8, 9, 10, 11, 12, 13, 14, 15, 16, 17, 18, 19, 6, 20, 21, 22, 23, 24, 25, 26, 27, 28, 29, 30, 31, 32, 33, 34, 35, 36, 37, 38, 39, 40, 41, 42, 43, 44, 45, 46, 47, 48, 49, 50, 51, 52, 53, 54, 55, 56, 57, 58, 59, 60, 61, 62, 63, 64, 65, 66, 67, 68, 69, 70, 71, 72, 73, 74, 75, 76, 77, 78, 79, 80, 81, 82, 83, 84, 85, 86, 87, 88, 89, 90, 91, 92, 93, 94, 95, 96, 97, 98, 99, 100, 101, 102, 103, 104, 105, 106, 107] (by decide +kernel) (by decide +kernel)) (goodIn_sub (fun _ h => List.mem_cons_of_mem _ (List.mem_append_left _ (List.mem_append_right _ h))) (by decide +kernel))) (goodIn_sub (fun _ h => List.mem_cons_of_mem _ (List.mem_append_right _ h)) (by decide +kernel))
set_option maxRecDepth 20000 in
theorem gL_touch_X0_touch : GoodIn wsL_touch (wsV RL 32 RX0 yX0_touch wsX0_touch) := goodIn_app (goodIn_of _ (by decide +kernel)) ggL_touch_X0_touch
theorem dL_touch_0 : decode cL_touch 0 = .ok (.aload_n 3, 1) := by decide +kernel
theorem dL_touch_1 : decode cL_touch 1 = .ok (.iconst 0, 1) := by decide +kernel
theorem dL_touch_2 : decode cL_touch 2 = .ok (.aload_n 0, 1) := by decide +kernel
theorem dL_touch_3 : decode cL_touch 3 = .ok (.iload_n 1, 1) := by decide +kernel
theorem dL_touch_4 : decode cL_touch 4 = .ok (.iload_n 2, 1) := by decide +kernel
theorem dL_touch_5 : decode cL_touch 5 = .ok (.invokevirtual 32, 3) := by decide +kernel
theorem dL_touch_8 : decode cL_touch 8 = .ok (.i2l, 1) := by decide +kernel
theorem dL_touch_9 : decode cL_touch 9 = .ok (.lastore, 1) := by decide +kernel
theorem dL_touch_10 : decode cL_touch 10 = .ok (.goto 11, 3) := by decide +kernel
theorem dL_touch_13 : decode cL_touch 13 = .ok (.astore 4, 2) := by decide +kernel
theorem dL_touch_15 : decode cL_touch 15 = .ok (.iconst 1, 1) := by decide +kernel
theorem dL_touch_16 : decode cL_touch 16 = .ok (.ireturn, 1) := by decide +kernel
theorem dL_touch_17 : decode cL_touch 17 = .ok (.astore 4, 2) := by decide +kernel
theorem dL_touch_19 : decode cL_touch 19 = .ok (.iconst 2, 1) := by decide +kernel
theorem dL_touch_20 : decode cL_touch 20 = .ok (.ireturn, 1) := by decide +kernel
theorem dL_touch_21 : decode cL_touch 21 = .ok (.iconst 0, 1) := by decide +kernel
theorem dL_touch_22 : decode cL_touch 22 = .ok (.ireturn, 1) := by decide +kernel
set_option maxRecDepth 20000 in
theorem ggL_payBack_X0_payBack : GoodIn wsL_payBack wsX0_payBack := goodIn_ca (goodIn_ca (goodIn_r _ [7, 8, 9, 10, 11, 12, 13, 14, 15, 16, 17, 6, 18, 19, 20, 21, 22, 23, 24, 25, 26, 27, 28, 29, 30, 31, 32, 33, 34, 35, 36, 37, 38, 39, 40, 41, 42, 43, 44, 45, 46, 47, 48, 49, 50, 51, 52, 53, 54, 55, 56, 57, 58] (by decide +kernel) (by decide +kernel)) (goodIn_sub (fun _ h => List.mem_cons_of_mem _ (List.mem_append_left _ (List.mem_append_right _ h))) (by decide +kernel))) (goodIn_sub (fun _ h => List.mem_cons_of_mem _ (List.mem_append_right _ h)) (by decide +kernel))
set_option maxRecDepth 20000 in
theorem gL_payBack_X0_payBack : GoodIn wsL_payBack (wsV RL 35 RX0 yX0_payBack wsX0_payBack) := goodIn_app (goodIn_of _ (by decide +kernel)) ggL_payBack_X0_payBack
theorem dL_payBack_0 : decode cL_payBack 0 = .ok (.aload_n 2, 1) := by decide +kernel
theorem dL_payBack_1 : decode cL_payBack 1 = .ok (.iconst 0, 1) := by decide +kernel
theorem dL_payBack_2 : decode cL_payBack 2 = .ok (.aload_n 0, 1) := by decide +kernel
theorem dL_payBack_3 : decode cL_payBack 3 = .ok (.iload_n 1, 1) := by decide +kernel
theorem dL_payBack_4 : decode cL_payBack 4 = .ok (.invokevirtual 35, 3) := by decide +kernel
theorem dL_payBack_7 : decode cL_payBack 7 = .ok (.i2l, 1) := by decide +kernel
theorem dL_payBack_8 : decode cL_payBack 8 = .ok (.lastore, 1) := by decide +kernel
theorem dL_payBack_9 : decode cL_payBack 9 = .ok (.goto 9, 3) := by decide +kernel
theorem dL_payBack_12 : decode cL_payBack 12 = .ok (.astore_n 3, 1) := by decide +kernel
theorem dL_payBack_13 : decode cL_payBack 13 = .ok (.iconst 1, 1) := by decide +kernel
theorem dL_payBack_14 : decode cL_payBack 14 = .ok (.ireturn, 1) := by decide +kernel
theorem dL_payBack_15 : decode cL_payBack 15 = .ok (.astore_n 3, 1) := by decide +kernel
theorem dL_payBack_16 : decode cL_payBack 16 = .ok (.iconst 2, 1) := by decide +kernel
theorem dL_payBack_17 : decode cL_payBack 17 = .ok (.ireturn, 1) := by decide +kernel
theorem dL_payBack_18 : decode cL_payBack 18 = .ok (.iconst 0, 1) := by decide +kernel
theorem dL_payBack_19 : decode cL_payBack 19 = .ok (.ireturn, 1) := by decide +kernel
set_option maxRecDepth 20000 in
theorem ggL_advance_X0_advance : GoodIn wsL_advance wsX0_advance := goodIn_ca (goodIn_ca (goodIn_r _ [7, 8, 9, 10, 11, 12, 13, 14, 15, 16, 6, 17, 18, 19, 20, 21, 22, 23, 24, 25, 26, 27, 28, 29, 30, 31, 32, 33, 34, 35, 36, 37, 38, 39, 40, 41, 42, 43, 44, 45, 46, 47, 48, 49, 50, 51, 52, 53, 54, 55, 56, 57, 58, 59, 60, 61, 62, 63, 64, 65, 66, 67, 68, 69, 70, 71, 72, 73, 74, 75, 76, 77, 78, 79, 80, 81, 82, 83, 84, 85, 86, 87, 88, 89, 90, 91, 92, 93, 94, 95, 96, 97, 98, 99, 100, 101, 102, 103, 104, 105, 106, 107, 108, 109, 110, 111, 112, 113, 114, 115] (by decide +kernel) (by decide +kernel)) (goodIn_sub (fun _ h => List.mem_cons_of_mem _ (List.mem_append_left _ (List.mem_append_right _ h))) (by decide +kernel))) (goodIn_sub (fun _ h => List.mem_cons_of_mem _ (List.mem_append_right _ h)) (by decide +kernel))
set_option maxRecDepth 20000 in
theorem gL_advance_X0_advance : GoodIn wsL_advance (wsV RL 38 RX0 yX0_advance wsX0_advance) := goodIn_app (goodIn_of _ (by decide +kernel)) ggL_advance_X0_advance
theorem dL_advance_0 : decode cL_advance 0 = .ok (.aload_n 2, 1) := by decide +kernel
theorem dL_advance_1 : decode cL_advance 1 = .ok (.iconst 0, 1) := by decide +kernel
theorem dL_advance_2 : decode cL_advance 2 = .ok (.aload_n 0, 1) := by decide +kernel
theorem dL_advance_3 : decode cL_advance 3 = .ok (.iload_n 1, 1) := by decide +kernel
theorem dL_advance_4 : decode cL_advance 4 = .ok (.invokevirtual 38, 3) := by decide +kernel
theorem dL_advance_7 : decode cL_advance 7 = .ok (.i2l, 1) := by decide +kernel
theorem dL_advance_8 : decode cL_advance 8 = .ok (.lastore, 1) := by decide +kernel
theorem dL_advance_9 : decode cL_advance 9 = .ok (.goto 9, 3) := by decide +kernel
theorem dL_advance_12 : decode cL_advance 12 = .ok (.astore_n 3, 1) := by decide +kernel
theorem dL_advance_13 : decode cL_advance 13 = .ok (.iconst 1, 1) := by decide +kernel
theorem dL_advance_14 : decode cL_advance 14 = .ok (.ireturn, 1) := by decide +kernel
theorem dL_advance_15 : decode cL_advance 15 = .ok (.astore_n 3, 1) := by decide +kernel
theorem dL_advance_16 : decode cL_advance 16 = .ok (.iconst 2, 1) := by decide +kernel
theorem dL_advance_17 : decode cL_advance 17 = .ok (.ireturn, 1) := by decide +kernel
theorem dL_advance_18 : decode cL_advance 18 = .ok (.iconst 0, 1) := by decide +kernel
theorem dL_advance_19 : decode cL_advance 19 = .ok (.ireturn, 1) := by decide +kernel
set_option maxRecDepth 20000 in
theorem ggL_owner_X0_owner : GoodIn wsL_owner wsX0_owner := goodIn_ca (goodIn_r _ [6, 7, 8, 9, 10, 11, 5, 12, 13, 14, 15, 16, 17, 18, 19, 20, 21, 22, 23, 24, 25, 26, 27, 28, 29, 30, 31] (by decide +kernel) (by decide +kernel)) (goodIn_sub (fun _ h => List.mem_cons_of_mem _ (List.mem_append_right _ h)) (by decide +kernel))
set_option maxRecDepth 20000 in
theorem gL_owner_X0_owner : GoodIn wsL_owner (wsV RL 41 RX0 yX0_owner wsX0_owner) := goodIn_app (goodIn_of _ (by decide +kernel)) ggL_owner_X0_owner
theorem dL_owner_0 : decode cL_owner 0 = .ok (.aload_n 2, 1) := by decide +kernel
theorem dL_owner_1 : decode cL_owner 1 = .ok (.iconst 0, 1) := by decide +kernel
theorem dL_owner_2 : decode cL_owner 2 = .ok (.aload_n 0, 1) := by decide +kernel
theorem dL_owner_3 : decode cL_owner 3 = .ok (.iload_n 1, 1) := by decide +kernel
theorem dL_owner_4 : decode cL_owner 4 = .ok (.invokevirtual 41, 3) := by decide +kernel
theorem dL_owner_7 : decode cL_owner 7 = .ok (.i2l, 1) := by decide +kernel
theorem dL_owner_8 : decode cL_owner 8 = .ok (.lastore, 1) := by decide +kernel
theorem dL_owner_9 : decode cL_owner 9 = .ok (.goto 6, 3) := by decide +kernel
theorem dL_owner_12 : decode cL_owner 12 = .ok (.astore_n 3, 1) := by decide +kernel
theorem dL_owner_13 : decode cL_owner 13 = .ok (.iconst 1, 1) := by decide +kernel
theorem dL_owner_14 : decode cL_owner 14 = .ok (.ireturn, 1) := by decide +kernel
theorem dL_owner_15 : decode cL_owner 15 = .ok (.iconst 0, 1) := by decide +kernel
theorem dL_owner_16 : decode cL_owner 16 = .ok (.ireturn, 1) := by decide +kernel
set_option maxRecDepth 20000 in
theorem ggL_holder_X0_holder : GoodIn wsL_holder wsX0_holder := goodIn_ca (goodIn_r _ [6, 7, 8, 9, 10, 11, 5, 12, 13, 14, 15, 16, 17, 18, 19, 20, 21, 22, 23, 24, 25, 26, 27, 28, 29, 30, 31] (by decide +kernel) (by decide +kernel)) (goodIn_sub (fun _ h => List.mem_cons_of_mem _ (List.mem_append_right _ h)) (by decide +kernel))
set_option maxRecDepth 20000 in
theorem gL_holder_X0_holder : GoodIn wsL_holder (wsV RL 44 RX0 yX0_holder wsX0_holder) := goodIn_app (goodIn_of _ (by decide +kernel)) ggL_holder_X0_holder
theorem dL_holder_0 : decode cL_holder 0 = .ok (.aload_n 2, 1) := by decide +kernel
theorem dL_holder_1 : decode cL_holder 1 = .ok (.iconst 0, 1) := by decide +kernel
theorem dL_holder_2 : decode cL_holder 2 = .ok (.aload_n 0, 1) := by decide +kernel
theorem dL_holder_3 : decode cL_holder 3 = .ok (.iload_n 1, 1) := by decide +kernel
theorem dL_holder_4 : decode cL_holder 4 = .ok (.invokevirtual 44, 3) := by decide +kernel
theorem dL_holder_7 : decode cL_holder 7 = .ok (.i2l, 1) := by decide +kernel
theorem dL_holder_8 : decode cL_holder 8 = .ok (.lastore, 1) := by decide +kernel
theorem dL_holder_9 : decode cL_holder 9 = .ok (.goto 6, 3) := by decide +kernel
theorem dL_holder_12 : decode cL_holder 12 = .ok (.astore_n 3, 1) := by decide +kernel
theorem dL_holder_13 : decode cL_holder 13 = .ok (.iconst 1, 1) := by decide +kernel
theorem dL_holder_14 : decode cL_holder 14 = .ok (.ireturn, 1) := by decide +kernel
theorem dL_holder_15 : decode cL_holder 15 = .ok (.iconst 0, 1) := by decide +kernel
theorem dL_holder_16 : decode cL_holder 16 = .ok (.ireturn, 1) := by decide +kernel
set_option maxRecDepth 20000 in
theorem ggL_holderByLog_X0_holderByLog : GoodIn wsL_holderByLog wsX0_holderByLog := goodIn_ca (goodIn_r _ [6, 7, 8, 9, 10, 11, 12, 13, 14, 15, 5, 16, 17, 18, 19, 20, 21, 22, 23, 24, 25, 26, 27, 28, 29, 30, 31, 32, 33, 34, 35] (by decide +kernel) (by decide +kernel)) (goodIn_sub (fun _ h => List.mem_cons_of_mem _ (List.mem_append_right _ h)) (by decide +kernel))
set_option maxRecDepth 20000 in
theorem gL_holderByLog_X0_holderByLog : GoodIn wsL_holderByLog (wsV RL 47 RX0 yX0_holderByLog wsX0_holderByLog) := goodIn_app (goodIn_of _ (by decide +kernel)) ggL_holderByLog_X0_holderByLog
theorem dL_holderByLog_0 : decode cL_holderByLog 0 = .ok (.aload_n 2, 1) := by decide +kernel
theorem dL_holderByLog_1 : decode cL_holderByLog 1 = .ok (.iconst 0, 1) := by decide +kernel
theorem dL_holderByLog_2 : decode cL_holderByLog 2 = .ok (.aload_n 0, 1) := by decide +kernel
theorem dL_holderByLog_3 : decode cL_holderByLog 3 = .ok (.iload_n 1, 1) := by decide +kernel
theorem dL_holderByLog_4 : decode cL_holderByLog 4 = .ok (.invokevirtual 47, 3) := by decide +kernel
theorem dL_holderByLog_7 : decode cL_holderByLog 7 = .ok (.i2l, 1) := by decide +kernel
theorem dL_holderByLog_8 : decode cL_holderByLog 8 = .ok (.lastore, 1) := by decide +kernel
theorem dL_holderByLog_9 : decode cL_holderByLog 9 = .ok (.goto 6, 3) := by decide +kernel
theorem dL_holderByLog_12 : decode cL_holderByLog 12 = .ok (.astore_n 3, 1) := by decide +kernel
theorem dL_holderByLog_13 : decode cL_holderByLog 13 = .ok (.iconst 1, 1) := by decide +kernel
theorem dL_holderByLog_14 : decode cL_holderByLog 14 = .ok (.ireturn, 1) := by decide +kernel
theorem dL_holderByLog_15 : decode cL_holderByLog 15 = .ok (.iconst 0, 1) := by decide +kernel
theorem dL_holderByLog_16 : decode cL_holderByLog 16 = .ok (.ireturn, 1) := by decide +kernel
set_option maxRecDepth 20000 in
theorem ggL_pageIn_X0_pageIn : GoodIn wsL_pageIn wsX0_pageIn := goodIn_ca (goodIn_r _ [6, 7, 8, 9, 10, 11, 5, 12, 13, 14, 15, 16, 17, 18, 19, 20, 21, 22, 23, 24, 25, 26, 27, 28, 29, 30, 31] (by decide +kernel) (by decide +kernel)) (goodIn_sub (fun _ h => List.mem_cons_of_mem _ (List.mem_append_right _ h)) (by decide +kernel))
set_option maxRecDepth 20000 in
theorem gL_pageIn_X0_pageIn : GoodIn wsL_pageIn (wsV RL 50 RX0 yX0_pageIn wsX0_pageIn) := goodIn_app (goodIn_of _ (by decide +kernel)) ggL_pageIn_X0_pageIn
theorem dL_pageIn_0 : decode cL_pageIn 0 = .ok (.aload_n 2, 1) := by decide +kernel
theorem dL_pageIn_1 : decode cL_pageIn 1 = .ok (.iconst 0, 1) := by decide +kernel
theorem dL_pageIn_2 : decode cL_pageIn 2 = .ok (.aload_n 0, 1) := by decide +kernel
theorem dL_pageIn_3 : decode cL_pageIn 3 = .ok (.iload_n 1, 1) := by decide +kernel
theorem dL_pageIn_4 : decode cL_pageIn 4 = .ok (.invokevirtual 50, 3) := by decide +kernel
theorem dL_pageIn_7 : decode cL_pageIn 7 = .ok (.i2l, 1) := by decide +kernel
theorem dL_pageIn_8 : decode cL_pageIn 8 = .ok (.lastore, 1) := by decide +kernel
theorem dL_pageIn_9 : decode cL_pageIn 9 = .ok (.goto 6, 3) := by decide +kernel
theorem dL_pageIn_12 : decode cL_pageIn 12 = .ok (.astore_n 3, 1) := by decide +kernel
theorem dL_pageIn_13 : decode cL_pageIn 13 = .ok (.iconst 1, 1) := by decide +kernel
theorem dL_pageIn_14 : decode cL_pageIn 14 = .ok (.ireturn, 1) := by decide +kernel
theorem dL_pageIn_15 : decode cL_pageIn 15 = .ok (.iconst 0, 1) := by decide +kernel
theorem dL_pageIn_16 : decode cL_pageIn 16 = .ok (.ireturn, 1) := by decide +kernel
set_option maxRecDepth 20000 in
theorem ggL_age_X0_age : GoodIn wsL_age wsX0_age := goodIn_ca (goodIn_r _ [6, 7, 8, 9, 10, 5, 11, 12, 13, 14, 15, 16, 17, 18, 19, 20, 21, 22, 23, 24, 25, 26, 27, 28, 29, 30, 31, 32, 33, 34, 35, 36, 37] (by decide +kernel) (by decide +kernel)) (goodIn_sub (fun _ h => List.mem_cons_of_mem _ (List.mem_append_right _ h)) (by decide +kernel))
set_option maxRecDepth 20000 in
theorem gL_age_X0_age : GoodIn wsL_age (wsV RL 53 RX0 yX0_age wsX0_age) := goodIn_app (goodIn_of _ (by decide +kernel)) ggL_age_X0_age
theorem dL_age_0 : decode cL_age 0 = .ok (.aload_n 2, 1) := by decide +kernel
theorem dL_age_1 : decode cL_age 1 = .ok (.iconst 0, 1) := by decide +kernel
theorem dL_age_2 : decode cL_age 2 = .ok (.aload_n 0, 1) := by decide +kernel
theorem dL_age_3 : decode cL_age 3 = .ok (.iload_n 1, 1) := by decide +kernel
theorem dL_age_4 : decode cL_age 4 = .ok (.invokevirtual 53, 3) := by decide +kernel
theorem dL_age_7 : decode cL_age 7 = .ok (.i2l, 1) := by decide +kernel
theorem dL_age_8 : decode cL_age 8 = .ok (.lastore, 1) := by decide +kernel
theorem dL_age_9 : decode cL_age 9 = .ok (.goto 6, 3) := by decide +kernel
theorem dL_age_12 : decode cL_age 12 = .ok (.astore_n 3, 1) := by decide +kernel
theorem dL_age_13 : decode cL_age 13 = .ok (.iconst 1, 1) := by decide +kernel
theorem dL_age_14 : decode cL_age 14 = .ok (.ireturn, 1) := by decide +kernel
theorem dL_age_15 : decode cL_age 15 = .ok (.iconst 0, 1) := by decide +kernel
theorem dL_age_16 : decode cL_age 16 = .ok (.ireturn, 1) := by decide +kernel
set_option maxRecDepth 20000 in
theorem ggL_owns_X0_owns : GoodIn wsL_owns wsX0_owns := goodIn_ca (goodIn_r _ [6, 7, 8, 9, 10, 11, 5, 12, 13, 14, 15, 16, 17, 18, 19, 20, 21, 22, 23, 24, 25, 26, 27, 28, 29, 30, 31] (by decide +kernel) (by decide +kernel)) (goodIn_sub (fun _ h => List.mem_cons_of_mem _ (List.mem_append_right _ h)) (by decide +kernel))
set_option maxRecDepth 20000 in
theorem gL_owns_X0_owns : GoodIn wsL_owns (wsV RL 56 RX0 yX0_owns wsX0_owns) := goodIn_app (goodIn_of _ (by decide +kernel)) ggL_owns_X0_owns
theorem dL_owns_0 : decode cL_owns 0 = .ok (.aload_n 2, 1) := by decide +kernel
theorem dL_owns_1 : decode cL_owns 1 = .ok (.iconst 0, 1) := by decide +kernel
theorem dL_owns_2 : decode cL_owns 2 = .ok (.aload_n 0, 1) := by decide +kernel
theorem dL_owns_3 : decode cL_owns 3 = .ok (.iload_n 1, 1) := by decide +kernel
theorem dL_owns_4 : decode cL_owns 4 = .ok (.invokevirtual 56, 3) := by decide +kernel
theorem dL_owns_7 : decode cL_owns 7 = .ok (.i2l, 1) := by decide +kernel
theorem dL_owns_8 : decode cL_owns 8 = .ok (.lastore, 1) := by decide +kernel
theorem dL_owns_9 : decode cL_owns 9 = .ok (.goto 6, 3) := by decide +kernel
theorem dL_owns_12 : decode cL_owns 12 = .ok (.astore_n 3, 1) := by decide +kernel
theorem dL_owns_13 : decode cL_owns 13 = .ok (.iconst 1, 1) := by decide +kernel
theorem dL_owns_14 : decode cL_owns 14 = .ok (.ireturn, 1) := by decide +kernel
theorem dL_owns_15 : decode cL_owns 15 = .ok (.iconst 0, 1) := by decide +kernel
theorem dL_owns_16 : decode cL_owns 16 = .ok (.ireturn, 1) := by decide +kernel
set_option maxRecDepth 20000 in
theorem ggL_borrowed_X0_borrowed : GoodIn wsL_borrowed wsX0_borrowed := goodIn_ca (goodIn_r _ [6, 7, 8, 9, 10, 5, 11, 12, 13, 14, 15, 16, 17, 18, 19, 20, 21, 22, 23, 24, 25, 26, 27, 28, 29, 30, 31, 32, 33, 34, 35, 36] (by decide +kernel) (by decide +kernel)) (goodIn_sub (fun _ h => List.mem_cons_of_mem _ (List.mem_append_right _ h)) (by decide +kernel))
set_option maxRecDepth 20000 in
theorem gL_borrowed_X0_borrowed : GoodIn wsL_borrowed (wsV RL 59 RX0 yX0_borrowed wsX0_borrowed) := goodIn_app (goodIn_of _ (by decide +kernel)) ggL_borrowed_X0_borrowed
theorem dL_borrowed_0 : decode cL_borrowed 0 = .ok (.aload_n 2, 1) := by decide +kernel
theorem dL_borrowed_1 : decode cL_borrowed 1 = .ok (.iconst 0, 1) := by decide +kernel
theorem dL_borrowed_2 : decode cL_borrowed 2 = .ok (.aload_n 0, 1) := by decide +kernel
theorem dL_borrowed_3 : decode cL_borrowed 3 = .ok (.iload_n 1, 1) := by decide +kernel
theorem dL_borrowed_4 : decode cL_borrowed 4 = .ok (.invokevirtual 59, 3) := by decide +kernel
theorem dL_borrowed_7 : decode cL_borrowed 7 = .ok (.i2l, 1) := by decide +kernel
theorem dL_borrowed_8 : decode cL_borrowed 8 = .ok (.lastore, 1) := by decide +kernel
theorem dL_borrowed_9 : decode cL_borrowed 9 = .ok (.goto 6, 3) := by decide +kernel
theorem dL_borrowed_12 : decode cL_borrowed 12 = .ok (.astore_n 3, 1) := by decide +kernel
theorem dL_borrowed_13 : decode cL_borrowed 13 = .ok (.iconst 1, 1) := by decide +kernel
theorem dL_borrowed_14 : decode cL_borrowed 14 = .ok (.ireturn, 1) := by decide +kernel
theorem dL_borrowed_15 : decode cL_borrowed 15 = .ok (.iconst 0, 1) := by decide +kernel
theorem dL_borrowed_16 : decode cL_borrowed 16 = .ok (.ireturn, 1) := by decide +kernel
set_option maxRecDepth 20000 in
theorem ggL_lent_X0_lent : GoodIn wsL_lent wsX0_lent := goodIn_ca (goodIn_r _ [6, 7, 8, 9, 10, 11, 12, 5, 13, 14, 15, 16, 17, 18, 19, 20, 21, 22, 23, 24, 25, 26, 27, 28, 29, 30, 31, 32] (by decide +kernel) (by decide +kernel)) (goodIn_sub (fun _ h => List.mem_cons_of_mem _ (List.mem_append_right _ h)) (by decide +kernel))
set_option maxRecDepth 20000 in
theorem gL_lent_X0_lent : GoodIn wsL_lent (wsV RL 62 RX0 yX0_lent wsX0_lent) := goodIn_app (goodIn_of _ (by decide +kernel)) ggL_lent_X0_lent
theorem dL_lent_0 : decode cL_lent 0 = .ok (.aload_n 2, 1) := by decide +kernel
theorem dL_lent_1 : decode cL_lent 1 = .ok (.iconst 0, 1) := by decide +kernel
theorem dL_lent_2 : decode cL_lent 2 = .ok (.aload_n 0, 1) := by decide +kernel
theorem dL_lent_3 : decode cL_lent 3 = .ok (.iload_n 1, 1) := by decide +kernel
theorem dL_lent_4 : decode cL_lent 4 = .ok (.invokevirtual 62, 3) := by decide +kernel
theorem dL_lent_7 : decode cL_lent 7 = .ok (.i2l, 1) := by decide +kernel
theorem dL_lent_8 : decode cL_lent 8 = .ok (.lastore, 1) := by decide +kernel
theorem dL_lent_9 : decode cL_lent 9 = .ok (.goto 6, 3) := by decide +kernel
theorem dL_lent_12 : decode cL_lent 12 = .ok (.astore_n 3, 1) := by decide +kernel
theorem dL_lent_13 : decode cL_lent 13 = .ok (.iconst 1, 1) := by decide +kernel
theorem dL_lent_14 : decode cL_lent 14 = .ok (.ireturn, 1) := by decide +kernel
theorem dL_lent_15 : decode cL_lent 15 = .ok (.iconst 0, 1) := by decide +kernel
theorem dL_lent_16 : decode cL_lent 16 = .ok (.ireturn, 1) := by decide +kernel
set_option maxRecDepth 20000 in
theorem ggL_stateOf_X0_stateOf : GoodIn wsL_stateOf wsX0_stateOf := goodIn_ca (goodIn_r _ [6, 7, 8, 9, 10, 11, 5, 12, 13, 14, 15, 16, 17, 18, 19, 20, 21, 22, 23, 24, 25, 26, 27, 28, 29, 30, 31] (by decide +kernel) (by decide +kernel)) (goodIn_sub (fun _ h => List.mem_cons_of_mem _ (List.mem_append_right _ h)) (by decide +kernel))
set_option maxRecDepth 20000 in
theorem gL_stateOf_X0_stateOf : GoodIn wsL_stateOf (wsV RL 65 RX0 yX0_stateOf wsX0_stateOf) := goodIn_app (goodIn_of _ (by decide +kernel)) ggL_stateOf_X0_stateOf
theorem dL_stateOf_0 : decode cL_stateOf 0 = .ok (.aload_n 2, 1) := by decide +kernel
theorem dL_stateOf_1 : decode cL_stateOf 1 = .ok (.iconst 0, 1) := by decide +kernel
theorem dL_stateOf_2 : decode cL_stateOf 2 = .ok (.aload_n 0, 1) := by decide +kernel
theorem dL_stateOf_3 : decode cL_stateOf 3 = .ok (.iload_n 1, 1) := by decide +kernel
theorem dL_stateOf_4 : decode cL_stateOf 4 = .ok (.invokevirtual 65, 3) := by decide +kernel
theorem dL_stateOf_7 : decode cL_stateOf 7 = .ok (.i2l, 1) := by decide +kernel
theorem dL_stateOf_8 : decode cL_stateOf 8 = .ok (.lastore, 1) := by decide +kernel
theorem dL_stateOf_9 : decode cL_stateOf 9 = .ok (.goto 6, 3) := by decide +kernel
theorem dL_stateOf_12 : decode cL_stateOf 12 = .ok (.astore_n 3, 1) := by decide +kernel
theorem dL_stateOf_13 : decode cL_stateOf 13 = .ok (.iconst 1, 1) := by decide +kernel
theorem dL_stateOf_14 : decode cL_stateOf 14 = .ok (.ireturn, 1) := by decide +kernel
theorem dL_stateOf_15 : decode cL_stateOf 15 = .ok (.iconst 0, 1) := by decide +kernel
theorem dL_stateOf_16 : decode cL_stateOf 16 = .ok (.ireturn, 1) := by decide +kernel
set_option maxRecDepth 20000 in
theorem ggL_purse_X0_purse : GoodIn wsL_purse wsX0_purse := goodIn_ca (goodIn_r _ [6, 7, 8, 9, 10, 11, 5, 12, 13, 14, 15, 16, 17, 18, 19, 20, 21, 22, 23, 24, 25, 26, 27, 28, 29, 30, 31] (by decide +kernel) (by decide +kernel)) (goodIn_sub (fun _ h => List.mem_cons_of_mem _ (List.mem_append_right _ h)) (by decide +kernel))
set_option maxRecDepth 20000 in
theorem gL_purse_X0_purse : GoodIn wsL_purse (wsV RL 68 RX0 yX0_purse wsX0_purse) := goodIn_app (goodIn_of _ (by decide +kernel)) ggL_purse_X0_purse
theorem dL_purse_0 : decode cL_purse 0 = .ok (.aload_n 2, 1) := by decide +kernel
theorem dL_purse_1 : decode cL_purse 1 = .ok (.iconst 0, 1) := by decide +kernel
theorem dL_purse_2 : decode cL_purse 2 = .ok (.aload_n 0, 1) := by decide +kernel
theorem dL_purse_3 : decode cL_purse 3 = .ok (.iload_n 1, 1) := by decide +kernel
theorem dL_purse_4 : decode cL_purse 4 = .ok (.invokevirtual 68, 3) := by decide +kernel
theorem dL_purse_7 : decode cL_purse 7 = .ok (.i2l, 1) := by decide +kernel
theorem dL_purse_8 : decode cL_purse 8 = .ok (.lastore, 1) := by decide +kernel
theorem dL_purse_9 : decode cL_purse 9 = .ok (.goto 6, 3) := by decide +kernel
theorem dL_purse_12 : decode cL_purse 12 = .ok (.astore_n 3, 1) := by decide +kernel
theorem dL_purse_13 : decode cL_purse 13 = .ok (.iconst 1, 1) := by decide +kernel
theorem dL_purse_14 : decode cL_purse 14 = .ok (.ireturn, 1) := by decide +kernel
theorem dL_purse_15 : decode cL_purse 15 = .ok (.iconst 0, 1) := by decide +kernel
theorem dL_purse_16 : decode cL_purse 16 = .ok (.ireturn, 1) := by decide +kernel
set_option maxRecDepth 20000 in
theorem ggL_faults_X0_faults : GoodIn wsL_faults wsX0_faults := goodIn_ca (goodIn_r _ [6, 7, 8, 9, 10, 11, 5, 12, 13, 14, 15, 16, 17, 18, 19, 20, 21, 22, 23, 24, 25, 26, 27, 28, 29, 30, 31] (by decide +kernel) (by decide +kernel)) (goodIn_sub (fun _ h => List.mem_cons_of_mem _ (List.mem_append_right _ h)) (by decide +kernel))
set_option maxRecDepth 20000 in
theorem gL_faults_X0_faults : GoodIn wsL_faults (wsV RL 71 RX0 yX0_faults wsX0_faults) := goodIn_app (goodIn_of _ (by decide +kernel)) ggL_faults_X0_faults
theorem dL_faults_0 : decode cL_faults 0 = .ok (.aload_n 2, 1) := by decide +kernel
theorem dL_faults_1 : decode cL_faults 1 = .ok (.iconst 0, 1) := by decide +kernel
theorem dL_faults_2 : decode cL_faults 2 = .ok (.aload_n 0, 1) := by decide +kernel
theorem dL_faults_3 : decode cL_faults 3 = .ok (.iload_n 1, 1) := by decide +kernel
theorem dL_faults_4 : decode cL_faults 4 = .ok (.invokevirtual 71, 3) := by decide +kernel
theorem dL_faults_7 : decode cL_faults 7 = .ok (.i2l, 1) := by decide +kernel
theorem dL_faults_8 : decode cL_faults 8 = .ok (.lastore, 1) := by decide +kernel
theorem dL_faults_9 : decode cL_faults 9 = .ok (.goto 6, 3) := by decide +kernel
theorem dL_faults_12 : decode cL_faults 12 = .ok (.astore_n 3, 1) := by decide +kernel
theorem dL_faults_13 : decode cL_faults 13 = .ok (.iconst 1, 1) := by decide +kernel
theorem dL_faults_14 : decode cL_faults 14 = .ok (.ireturn, 1) := by decide +kernel
theorem dL_faults_15 : decode cL_faults 15 = .ok (.iconst 0, 1) := by decide +kernel
theorem dL_faults_16 : decode cL_faults 16 = .ok (.ireturn, 1) := by decide +kernel
set_option maxRecDepth 20000 in
theorem ggL_lasts_X0_lasts : GoodIn wsL_lasts wsX0_lasts := goodIn_ca (goodIn_r _ [6, 7, 8, 9, 10, 11, 12, 5, 13, 14, 15, 16, 17, 18, 19, 20, 21, 22, 23, 24, 25, 26, 27, 28, 29, 30, 31, 32, 33] (by decide +kernel) (by decide +kernel)) (goodIn_sub (fun _ h => List.mem_cons_of_mem _ (List.mem_append_right _ h)) (by decide +kernel))
set_option maxRecDepth 20000 in
theorem gL_lasts_X0_lasts : GoodIn wsL_lasts (wsV RL 74 RX0 yX0_lasts wsX0_lasts) := goodIn_app (goodIn_of _ (by decide +kernel)) ggL_lasts_X0_lasts
theorem dL_lasts_0 : decode cL_lasts 0 = .ok (.aload_n 2, 1) := by decide +kernel
theorem dL_lasts_1 : decode cL_lasts 1 = .ok (.iconst 0, 1) := by decide +kernel
theorem dL_lasts_2 : decode cL_lasts 2 = .ok (.aload_n 0, 1) := by decide +kernel
theorem dL_lasts_3 : decode cL_lasts 3 = .ok (.iload_n 1, 1) := by decide +kernel
theorem dL_lasts_4 : decode cL_lasts 4 = .ok (.invokevirtual 74, 3) := by decide +kernel
theorem dL_lasts_7 : decode cL_lasts 7 = .ok (.ifCond .eq 7, 3) := by decide +kernel
theorem dL_lasts_10 : decode cL_lasts 10 = .ok (.lconst 1, 1) := by decide +kernel
theorem dL_lasts_11 : decode cL_lasts 11 = .ok (.goto 4, 3) := by decide +kernel
theorem dL_lasts_14 : decode cL_lasts 14 = .ok (.lconst 0, 1) := by decide +kernel
theorem dL_lasts_15 : decode cL_lasts 15 = .ok (.lastore, 1) := by decide +kernel
theorem dL_lasts_16 : decode cL_lasts 16 = .ok (.goto 6, 3) := by decide +kernel
theorem dL_lasts_19 : decode cL_lasts 19 = .ok (.astore_n 3, 1) := by decide +kernel
theorem dL_lasts_20 : decode cL_lasts 20 = .ok (.iconst 1, 1) := by decide +kernel
theorem dL_lasts_21 : decode cL_lasts 21 = .ok (.ireturn, 1) := by decide +kernel
theorem dL_lasts_22 : decode cL_lasts 22 = .ok (.iconst 0, 1) := by decide +kernel
theorem dL_lasts_23 : decode cL_lasts 23 = .ok (.ireturn, 1) := by decide +kernel
set_option maxRecDepth 20000 in
theorem ggL_partiesOf_X0_partiesOf : GoodIn wsL_partiesOf wsX0_partiesOf := goodIn_ca (goodIn_r _ [6, 7, 8, 9, 10, 11, 12, 13, 14, 5, 15, 16, 17, 18, 19, 20, 21, 22, 23, 24, 25, 26, 27, 28, 29, 30, 31, 32, 33, 34, 35] (by decide +kernel) (by decide +kernel)) (goodIn_sub (fun _ h => List.mem_cons_of_mem _ (List.mem_append_right _ h)) (by decide +kernel))
set_option maxRecDepth 20000 in
theorem gL_partiesOf_X0_partiesOf : GoodIn wsL_partiesOf (wsV RL 78 RX0 yX0_partiesOf wsX0_partiesOf) := goodIn_app (goodIn_of _ (by decide +kernel)) ggL_partiesOf_X0_partiesOf
theorem dL_partiesOf_0 : decode cL_partiesOf 0 = .ok (.aload_n 2, 1) := by decide +kernel
theorem dL_partiesOf_1 : decode cL_partiesOf 1 = .ok (.iconst 0, 1) := by decide +kernel
theorem dL_partiesOf_2 : decode cL_partiesOf 2 = .ok (.aload_n 0, 1) := by decide +kernel
theorem dL_partiesOf_3 : decode cL_partiesOf 3 = .ok (.iload_n 1, 1) := by decide +kernel
theorem dL_partiesOf_4 : decode cL_partiesOf 4 = .ok (.invokevirtual 78, 3) := by decide +kernel
theorem dL_partiesOf_7 : decode cL_partiesOf 7 = .ok (.i2l, 1) := by decide +kernel
theorem dL_partiesOf_8 : decode cL_partiesOf 8 = .ok (.lastore, 1) := by decide +kernel
theorem dL_partiesOf_9 : decode cL_partiesOf 9 = .ok (.goto 6, 3) := by decide +kernel
theorem dL_partiesOf_12 : decode cL_partiesOf 12 = .ok (.astore_n 3, 1) := by decide +kernel
theorem dL_partiesOf_13 : decode cL_partiesOf 13 = .ok (.iconst 1, 1) := by decide +kernel
theorem dL_partiesOf_14 : decode cL_partiesOf 14 = .ok (.ireturn, 1) := by decide +kernel
theorem dL_partiesOf_15 : decode cL_partiesOf 15 = .ok (.iconst 0, 1) := by decide +kernel
theorem dL_partiesOf_16 : decode cL_partiesOf 16 = .ok (.ireturn, 1) := by decide +kernel
set_option maxRecDepth 20000 in
theorem ggL_interest_X0_interest : GoodIn wsL_interest wsX0_interest := goodIn_ca (goodIn_r _ [6, 7, 8, 9, 10, 11, 12, 5, 13, 14, 15, 16, 17, 18, 19, 20, 21, 22, 23, 24, 25, 26, 27, 28, 29, 30, 31, 32, 33] (by decide +kernel) (by decide +kernel)) (goodIn_sub (fun _ h => List.mem_cons_of_mem _ (List.mem_append_right _ h)) (by decide +kernel))
set_option maxRecDepth 20000 in
theorem gL_interest_X0_interest : GoodIn wsL_interest (wsV RL 81 RX0 yX0_interest wsX0_interest) := goodIn_app (goodIn_of _ (by decide +kernel)) ggL_interest_X0_interest
theorem dL_interest_0 : decode cL_interest 0 = .ok (.aload_n 2, 1) := by decide +kernel
theorem dL_interest_1 : decode cL_interest 1 = .ok (.iconst 0, 1) := by decide +kernel
theorem dL_interest_2 : decode cL_interest 2 = .ok (.aload_n 0, 1) := by decide +kernel
theorem dL_interest_3 : decode cL_interest 3 = .ok (.iload_n 1, 1) := by decide +kernel
theorem dL_interest_4 : decode cL_interest 4 = .ok (.invokevirtual 81, 3) := by decide +kernel
theorem dL_interest_7 : decode cL_interest 7 = .ok (.i2l, 1) := by decide +kernel
theorem dL_interest_8 : decode cL_interest 8 = .ok (.lastore, 1) := by decide +kernel
theorem dL_interest_9 : decode cL_interest 9 = .ok (.goto 6, 3) := by decide +kernel
theorem dL_interest_12 : decode cL_interest 12 = .ok (.astore_n 3, 1) := by decide +kernel
theorem dL_interest_13 : decode cL_interest 13 = .ok (.iconst 1, 1) := by decide +kernel
theorem dL_interest_14 : decode cL_interest 14 = .ok (.ireturn, 1) := by decide +kernel
theorem dL_interest_15 : decode cL_interest 15 = .ok (.iconst 0, 1) := by decide +kernel
theorem dL_interest_16 : decode cL_interest 16 = .ok (.ireturn, 1) := by decide +kernel
set_option maxRecDepth 20000 in
theorem ggL_requestAt_X0_requestAt : GoodIn wsL_requestAt wsX0_requestAt := goodIn_ca (goodIn_r _ [6, 7, 8, 9, 10, 11, 5, 12, 13, 14, 15, 16, 17, 18, 19, 20, 21, 22, 23, 24, 25, 26, 27, 28, 29, 30, 31, 32, 33, 34, 35, 36, 37, 38, 39, 40, 41, 42, 43, 44, 45] (by decide +kernel) (by decide +kernel)) (goodIn_sub (fun _ h => List.mem_cons_of_mem _ (List.mem_append_right _ h)) (by decide +kernel))
set_option maxRecDepth 20000 in
theorem gL_requestAt_X0_requestAt : GoodIn wsL_requestAt (wsV RL 84 RX0 yX0_requestAt wsX0_requestAt) := goodIn_app (goodIn_of _ (by decide +kernel)) ggL_requestAt_X0_requestAt
theorem dL_requestAt_0 : decode cL_requestAt 0 = .ok (.aload_n 2, 1) := by decide +kernel
theorem dL_requestAt_1 : decode cL_requestAt 1 = .ok (.iconst 0, 1) := by decide +kernel
theorem dL_requestAt_2 : decode cL_requestAt 2 = .ok (.aload_n 0, 1) := by decide +kernel
theorem dL_requestAt_3 : decode cL_requestAt 3 = .ok (.iload_n 1, 1) := by decide +kernel
theorem dL_requestAt_4 : decode cL_requestAt 4 = .ok (.invokevirtual 84, 3) := by decide +kernel
theorem dL_requestAt_7 : decode cL_requestAt 7 = .ok (.i2l, 1) := by decide +kernel
theorem dL_requestAt_8 : decode cL_requestAt 8 = .ok (.lastore, 1) := by decide +kernel
theorem dL_requestAt_9 : decode cL_requestAt 9 = .ok (.goto 6, 3) := by decide +kernel
theorem dL_requestAt_12 : decode cL_requestAt 12 = .ok (.astore_n 3, 1) := by decide +kernel
theorem dL_requestAt_13 : decode cL_requestAt 13 = .ok (.iconst 1, 1) := by decide +kernel
theorem dL_requestAt_14 : decode cL_requestAt 14 = .ok (.ireturn, 1) := by decide +kernel
theorem dL_requestAt_15 : decode cL_requestAt 15 = .ok (.iconst 0, 1) := by decide +kernel
theorem dL_requestAt_16 : decode cL_requestAt 16 = .ok (.ireturn, 1) := by decide +kernel
set_option maxRecDepth 20000 in
theorem ggL_law_X0_init : GoodIn wsL_law wsX0_init := goodIn_r _ [9, 10, 11, 12, 13, 14, 15, 16, 17, 18, 19, 20, 21, 22, 23, 24, 25, 26, 27, 28, 29, 30, 31, 32, 33, 34, 35, 36, 37, 617, 618, 619, 620, 621, 622, 623, 624, 625, 626, 627, 628, 629, 630, 631, 632, 633, 634, 635] (by decide +kernel) (by decide +kernel)
set_option maxRecDepth 20000 in
theorem gL_law_X0_init : GoodIn wsL_law (wsX0_init) := ggL_law_X0_init
set_option maxRecDepth 20000 in
theorem ggL_law_X1_init : GoodIn wsL_law wsX1_init := goodIn_r _ [40, 41, 11, 12, 42, 13, 43, 44, 21, 45, 46, 47, 48, 49, 50, 51, 52, 53, 54, 55, 56, 636, 637, 638, 639, 640, 641, 642, 643, 644, 645, 646, 647, 648, 649, 650, 651, 652, 653, 654] (by decide +kernel) (by decide +kernel)
set_option maxRecDepth 20000 in
theorem gL_law_X1_init : GoodIn wsL_law (wsX1_init) := ggL_law_X1_init
set_option maxRecDepth 20000 in
theorem ggL_law_L_setWage : GoodIn wsL_law wsL_setWage := goodIn_ca (goodIn_ca (goodIn_r _ [60, 61, 62, 63, 64, 65, 2, 66, 67, 68, 69, 70, 14, 71, 72, 73, 617, 618, 619, 620, 621, 622, 623, 624, 625, 626, 627, 628, 629, 630, 631, 632, 633, 634, 635] (by decide +kernel) (by decide +kernel)) (goodIn_sub (fun _ h => List.mem_append_left _ (List.mem_append_left _ (List.mem_append_right _ h))) (by decide +kernel))) (goodIn_sub (fun _ h => List.mem_append_left _ (List.mem_append_right _ h)) (by decide +kernel))
set_option maxRecDepth 20000 in
theorem gL_law_L_setWage : GoodIn wsL_law (va_wsS RL 91 yL_setWage wsL_setWage) := goodIn_app (goodIn_of _ (by decide +kernel)) ggL_law_L_setWage
set_option maxRecDepth 20000 in
theorem ggL_law_X1_setWage : GoodIn wsL_law wsX1_setWage := goodIn_r _ [77, 48, 78, 79, 5, 80, 81, 82, 83, 84, 85, 86, 87, 88, 636, 637, 638, 639, 640, 641, 642, 643, 644, 645, 646, 647, 648, 649, 650, 651, 652, 653, 654] (by decide +kernel) (by decide +kernel)
set_option maxRecDepth 20000 in
theorem gL_law_X1_setWage : GoodIn wsL_law (wsV RL 96 RX1 yX1_setWage wsX1_setWage) := goodIn_app (goodIn_of _ (by decide +kernel)) ggL_law_X1_setWage
set_option maxRecDepth 20000 in
theorem ggL_law_X1_thrown : GoodIn wsL_law wsX1_thrown := goodIn_r _ [92, 88, 636, 637, 638, 639, 640, 641, 642, 643, 644, 645, 646, 647, 648, 649, 650, 651, 652, 653, 654] (by decide +kernel) (by decide +kernel)
set_option maxRecDepth 20000 in
theorem gL_law_X1_thrown : GoodIn wsL_law (wsV RL 97 RX1 yX1_thrown wsX1_thrown) := goodIn_app (goodIn_of _ (by decide +kernel)) ggL_law_X1_thrown
set_option maxRecDepth 20000 in
theorem ggL_law_L_setRate : GoodIn wsL_law wsL_setRate := goodIn_ca (goodIn_r _ [95, 62, 96, 97, 98, 2, 99, 69, 70, 30, 617, 618, 619, 620, 621, 622, 623, 624, 625, 626, 627, 628, 629, 630, 631, 632, 633, 634, 635] (by decide +kernel) (by decide +kernel)) (goodIn_sub (fun _ h => List.mem_append_left _ (List.mem_append_right _ h)) (by decide +kernel))
set_option maxRecDepth 20000 in
theorem gL_law_L_setRate : GoodIn wsL_law (va_wsS RL 101 yL_setRate wsL_setRate) := goodIn_app (goodIn_of _ (by decide +kernel)) ggL_law_L_setRate
set_option maxRecDepth 20000 in
theorem ggL_law_X1_setRate : GoodIn wsL_law wsX1_setRate := goodIn_r _ [103, 42, 81, 82, 5, 83, 84, 85, 86, 87, 88, 636, 637, 638, 639, 640, 641, 642, 643, 644, 645, 646, 647, 648, 649, 650, 651, 652, 653, 654] (by decide +kernel) (by decide +kernel)
set_option maxRecDepth 20000 in
theorem gL_law_X1_setRate : GoodIn wsL_law (wsV RL 104 RX1 yX1_setRate wsX1_setRate) := goodIn_app (goodIn_of _ (by decide +kernel)) ggL_law_X1_setRate
set_option maxRecDepth 20000 in
theorem ggL_law_L_buy : GoodIn wsL_law wsL_buy := goodIn_ca (goodIn_ca (goodIn_r _ [106, 61, 107, 108, 109, 110, 2, 111, 67, 68, 112, 113, 16, 15, 18, 19, 71, 72, 73, 114, 115, 116, 117, 20, 118, 119, 120, 617, 618, 619, 620, 621, 622, 623, 624, 625, 626, 627, 628, 629, 630, 631, 632, 633, 634, 635] (by decide +kernel) (by decide +kernel)) (goodIn_sub (fun _ h => List.mem_append_left _ (List.mem_append_left _ (List.mem_append_right _ h))) (by decide +kernel))) (goodIn_sub (fun _ h => List.mem_append_right _ h) (by decide +kernel))
set_option maxRecDepth 20000 in
theorem gL_law_L_buy : GoodIn wsL_law (va_wsS RL 105 yL_buy wsL_buy) := goodIn_app (goodIn_of _ (by decide +kernel)) ggL_law_L_buy
set_option maxRecDepth 20000 in
theorem ggL_law_X1_buy : GoodIn wsL_law wsX1_buy := goodIn_r _ [124, 50, 49, 43, 125, 126, 127, 5, 128, 78, 79, 80, 81, 82, 83, 84, 85, 86, 87, 88, 636, 637, 638, 639, 640, 641, 642, 643, 644, 645, 646, 647, 648, 649, 650, 651, 652, 653, 654] (by decide +kernel) (by decide +kernel)
set_option maxRecDepth 20000 in
theorem gL_law_X1_buy : GoodIn wsL_law (wsV RL 107 RX1 yX1_buy wsX1_buy) := goodIn_app (goodIn_of _ (by decide +kernel)) ggL_law_X1_buy
set_option maxRecDepth 20000 in
theorem ggL_law_L_sell : GoodIn wsL_law wsL_sell := goodIn_ca (goodIn_ca (goodIn_r _ [131, 61, 107, 132, 133, 134, 2, 135, 67, 68, 112, 113, 18, 19, 20, 16, 15, 118, 119, 120, 71, 72, 73, 617, 618, 619, 620, 621, 622, 623, 624, 625, 626, 627, 628, 629, 630, 631, 632, 633, 634, 635] (by decide +kernel) (by decide +kernel)) (goodIn_sub (fun _ h => List.mem_append_left _ (List.mem_append_left _ (List.mem_append_right _ h))) (by decide +kernel))) (goodIn_sub (fun _ h => List.mem_append_right _ h) (by decide +kernel))
set_option maxRecDepth 20000 in
theorem gL_law_L_sell : GoodIn wsL_law (va_wsS RL 108 yL_sell wsL_sell) := goodIn_app (goodIn_of _ (by decide +kernel)) ggL_law_L_sell
set_option maxRecDepth 20000 in
theorem ggL_law_X1_sell : GoodIn wsL_law wsX1_sell := goodIn_r _ [139, 43, 47, 50, 49, 140, 141, 5, 142, 81, 82, 83, 84, 85, 86, 87, 88, 143, 144, 145, 146, 44, 636, 637, 638, 639, 640, 641, 642, 643, 644, 645, 646, 647, 648, 649, 650, 651, 652, 653, 654] (by decide +kernel) (by decide +kernel)
set_option maxRecDepth 20000 in
theorem gL_law_X1_sell : GoodIn wsL_law (wsV RL 110 RX1 yX1_sell wsX1_sell) := goodIn_app (goodIn_of _ (by decide +kernel)) ggL_law_X1_sell
set_option maxRecDepth 20000 in
theorem ggL_law_L_drop : GoodIn wsL_law wsL_drop := goodIn_ca (goodIn_ca (goodIn_r _ [149, 61, 107, 150, 151, 152, 2, 153, 67, 68, 112, 113, 22, 20, 118, 119, 120, 154, 155, 156, 157, 33, 617, 618, 619, 620, 621, 622, 623, 624, 625, 626, 627, 628, 629, 630, 631, 632, 633, 634, 635] (by decide +kernel) (by decide +kernel)) (goodIn_sub (fun _ h => List.mem_append_left _ (List.mem_append_left _ (List.mem_append_right _ h))) (by decide +kernel))) (goodIn_sub (fun _ h => List.mem_append_right _ h) (by decide +kernel))
set_option maxRecDepth 20000 in
theorem gL_law_L_drop : GoodIn wsL_law (va_wsS RL 111 yL_drop wsL_drop) := goodIn_app (goodIn_of _ (by decide +kernel)) ggL_law_L_drop
set_option maxRecDepth 20000 in
theorem ggL_law_X1_drop : GoodIn wsL_law wsX1_drop := goodIn_r _ [161, 44, 140, 141, 5, 142, 81, 82, 83, 162, 163, 164, 165, 45, 84, 85, 86, 87, 88, 636, 637, 638, 639, 640, 641, 642, 643, 644, 645, 646, 647, 648, 649, 650, 651, 652, 653, 654] (by decide +kernel) (by decide +kernel)
set_option maxRecDepth 20000 in
theorem gL_law_X1_drop : GoodIn wsL_law (wsV RL 113 RX1 yX1_drop wsX1_drop) := goodIn_app (goodIn_of _ (by decide +kernel)) ggL_law_X1_drop
set_option maxRecDepth 20000 in
theorem ggL_law_L_touch : GoodIn wsL_law wsL_touch := goodIn_ca (goodIn_ca (goodIn_r _ [168, 61, 107, 169, 170, 171, 2, 172, 67, 68, 112, 113, 16, 23, 31, 20, 22, 17, 71, 72, 73, 173, 174, 175, 176, 177, 178, 179, 19, 118, 119, 120, 180, 181, 182, 183, 114, 115, 116, 117, 184, 185, 186, 187, 29, 27, 25, 24, 188, 189, 190, 191, 192, 193, 194, 195, 18, 154, 155, 156, 157, 33, 196, 197, 198, 199, 15, 30, 26, 200, 201, 202, 203, 204, 205, 206, 207, 208, 209, 210, 211, 212, 213, 214, 215, 216, 217, 218, 219, 617, 618, 619, 620, 621, 622, 623, 624, 625, 626, 627, 628, 629, 630, 631, 632, 633, 634, 635] (by decide +kernel) (by decide +kernel)) (goodIn_sub (fun _ h => List.mem_append_left _ (List.mem_append_left _ (List.mem_append_right _ h))) (by decide +kernel))) (goodIn_sub (fun _ h => List.mem_append_right _ h) (by decide +kernel))
set_option maxRecDepth 20000 in
theorem gL_law_L_touch : GoodIn wsL_law (va_wsS RL 114 yL_touch wsL_touch) := goodIn_app (goodIn_of _ (by decide +kernel)) ggL_law_L_touch
set_option maxRecDepth 20000 in
theorem ggL_law_X1_touch : GoodIn wsL_law wsX1_touch := goodIn_r _ [223, 50, 46, 224, 44, 45, 51, 78, 79, 5, 80, 81, 82, 83, 84, 85, 86, 87, 88, 225, 226, 227, 228, 229, 230, 231, 232, 47, 43, 54, 233, 234, 235, 236, 52, 49, 42, 237, 238, 239, 240, 241, 143, 144, 145, 146, 242, 243, 244, 245, 53, 246, 247, 248, 249, 250, 251, 252, 253, 254, 255, 256, 257, 258, 259, 260, 261, 262, 263, 264, 265, 266, 267, 268, 269, 270, 271, 272, 273, 274, 275, 276, 277, 162, 163, 164, 165, 278, 279, 280, 281, 282, 283, 284, 285, 286, 287, 288, 289, 290, 291, 292, 293, 294, 55, 636, 637, 638, 639, 640, 641, 642, 643, 644, 645, 646, 647, 648, 649, 650, 651, 652, 653, 654] (by decide +kernel) (by decide +kernel)
set_option maxRecDepth 20000 in
theorem gL_law_X1_touch : GoodIn wsL_law (wsV RL 116 RX1 yX1_touch wsX1_touch) := goodIn_app (goodIn_of _ (by decide +kernel)) ggL_law_X1_touch
set_option maxRecDepth 20000 in
theorem ggL_law_L_payBack : GoodIn wsL_law wsL_payBack := goodIn_ca (goodIn_ca (goodIn_r _ [297, 61, 107, 298, 299, 300, 2, 301, 67, 68, 112, 113, 27, 24, 25, 302, 303, 304, 305, 29, 188, 189, 190, 191, 20, 22, 118, 119, 120, 192, 193, 194, 195, 19, 18, 154, 155, 156, 157, 33, 617, 618, 619, 620, 621, 622, 623, 624, 625, 626, 627, 628, 629, 630, 631, 632, 633, 634, 635] (by decide +kernel) (by decide +kernel)) (goodIn_sub (fun _ h => List.mem_append_left _ (List.mem_append_left _ (List.mem_append_right _ h))) (by decide +kernel))) (goodIn_sub (fun _ h => List.mem_append_right _ h) (by decide +kernel))
set_option maxRecDepth 20000 in
theorem gL_law_L_payBack : GoodIn wsL_law (va_wsS RL 117 yL_payBack wsL_payBack) := goodIn_app (goodIn_of _ (by decide +kernel)) ggL_law_L_payBack
set_option maxRecDepth 20000 in
theorem ggL_law_X1_payBack : GoodIn wsL_law wsX1_payBack := goodIn_r _ [309, 52, 53, 310, 311, 312, 5, 313, 237, 81, 82, 83, 84, 85, 86, 87, 88, 246, 247, 248, 249, 47, 250, 251, 252, 253, 44, 45, 254, 255, 256, 257, 636, 637, 638, 639, 640, 641, 642, 643, 644, 645, 646, 647, 648, 649, 650, 651, 652, 653, 654] (by decide +kernel) (by decide +kernel)
set_option maxRecDepth 20000 in
theorem gL_law_X1_payBack : GoodIn wsL_law (wsV RL 119 RX1 yX1_payBack wsX1_payBack) := goodIn_app (goodIn_of _ (by decide +kernel)) ggL_law_X1_payBack
set_option maxRecDepth 20000 in
theorem ggL_law_L_advance : GoodIn wsL_law wsL_advance := goodIn_ca (goodIn_ca (goodIn_r _ [316, 62, 107, 317, 318, 319, 2, 320, 69, 70, 112, 113, 31, 321, 322, 323, 324, 325, 326, 327, 328, 329, 16, 15, 14, 330, 331, 332, 333, 29, 27, 334, 335, 336, 337, 26, 25, 30, 28, 71, 72, 73, 338, 339, 340, 341, 19, 188, 189, 190, 191, 20, 22, 118, 119, 120, 154, 155, 156, 157, 33, 192, 193, 194, 195, 24, 18, 342, 343, 344, 345, 346, 347, 348, 349, 350, 351, 352, 353, 32, 354, 355, 356, 357, 358, 359, 360, 361, 362, 363, 364, 365, 366, 367, 368, 369, 23, 617, 618, 619, 620, 621, 622, 623, 624, 625, 626, 627, 628, 629, 630, 631, 632, 633, 634, 635] (by decide +kernel) (by decide +kernel)) (goodIn_sub (fun _ h => List.mem_append_left _ (List.mem_append_right _ h)) (by decide +kernel))) (goodIn_sub (fun _ h => List.mem_append_right _ h) (by decide +kernel))
set_option maxRecDepth 20000 in
theorem gL_law_L_advance : GoodIn wsL_law (va_wsS RL 120 yL_advance wsL_advance) := goodIn_app (goodIn_of _ (by decide +kernel)) ggL_law_L_advance
set_option maxRecDepth 20000 in
theorem ggL_law_X1_advance : GoodIn wsL_law wsX1_advance := goodIn_r _ [373, 224, 374, 49, 50, 48, 81, 82, 5, 83, 84, 85, 86, 87, 88, 375, 376, 377, 378, 237, 54, 42, 53, 55, 246, 247, 248, 249, 47, 52, 379, 380, 381, 382, 56, 44, 229, 230, 231, 232, 43, 250, 251, 252, 253, 45, 254, 255, 256, 257, 383, 384, 385, 386, 387, 388, 389, 390, 391, 392, 393, 394, 395, 46, 396, 397, 398, 399, 400, 401, 402, 403, 404, 405, 406, 407, 636, 637, 638, 639, 640, 641, 642, 643, 644, 645, 646, 647, 648, 649, 650, 651, 652, 653, 654] (by decide +kernel) (by decide +kernel)
set_option maxRecDepth 20000 in
theorem gL_law_X1_advance : GoodIn wsL_law (wsV RL 122 RX1 yX1_advance wsX1_advance) := goodIn_app (goodIn_of _ (by decide +kernel)) ggL_law_X1_advance
set_option maxRecDepth 20000 in
theorem ggL_law_X0_tick : GoodIn wsL_law wsX0_tick := goodIn_r _ [411, 31, 617, 618, 619, 620, 621, 622, 623, 624, 625, 626, 627, 628, 629, 630, 631, 632, 633, 634, 635] (by decide +kernel) (by decide +kernel)
set_option maxRecDepth 20000 in
theorem gL_law_X0_tick : GoodIn wsL_law (wsV RL 123 RX0 yX0_tick wsX0_tick) := goodIn_app (goodIn_of _ (by decide +kernel)) ggL_law_X0_tick
set_option maxRecDepth 20000 in
theorem ggL_law_X1_tick : GoodIn wsL_law wsX1_tick := goodIn_r _ [415, 88, 224, 636, 637, 638, 639, 640, 641, 642, 643, 644, 645, 646, 647, 648, 649, 650, 651, 652, 653, 654] (by decide +kernel) (by decide +kernel)
set_option maxRecDepth 20000 in
theorem gL_law_X1_tick : GoodIn wsL_law (wsV RL 126 RX1 yX1_tick wsX1_tick) := goodIn_app (goodIn_of _ (by decide +kernel)) ggL_law_X1_tick
set_option maxRecDepth 20000 in
theorem ggL_law_L_owner : GoodIn wsL_law wsL_owner := goodIn_ca (goodIn_r _ [418, 61, 419, 420, 421, 2, 422, 67, 68, 18, 118, 119, 120, 617, 618, 619, 620, 621, 622, 623, 624, 625, 626, 627, 628, 629, 630, 631, 632, 633, 634, 635] (by decide +kernel) (by decide +kernel)) (goodIn_sub (fun _ h => List.mem_append_left _ (List.mem_append_left _ (List.mem_append_right _ h))) (by decide +kernel))
set_option maxRecDepth 20000 in
theorem gL_law_L_owner : GoodIn wsL_law (va_wsS RL 127 yL_owner wsL_owner) := goodIn_app (goodIn_of _ (by decide +kernel)) ggL_law_L_owner
set_option maxRecDepth 20000 in
theorem ggL_law_X1_owner : GoodIn wsL_law wsX1_owner := goodIn_r _ [426, 43, 140, 141, 5, 142, 81, 82, 83, 84, 85, 86, 87, 88, 636, 637, 638, 639, 640, 641, 642, 643, 644, 645, 646, 647, 648, 649, 650, 651, 652, 653, 654] (by decide +kernel) (by decide +kernel)
set_option maxRecDepth 20000 in
theorem gL_law_X1_owner : GoodIn wsL_law (wsV RL 129 RX1 yX1_owner wsX1_owner) := goodIn_app (goodIn_of _ (by decide +kernel)) ggL_law_X1_owner
set_option maxRecDepth 20000 in
theorem ggL_law_L_holder : GoodIn wsL_law wsL_holder := goodIn_ca (goodIn_r _ [429, 61, 430, 431, 432, 2, 433, 67, 68, 19, 118, 119, 120, 617, 618, 619, 620, 621, 622, 623, 624, 625, 626, 627, 628, 629, 630, 631, 632, 633, 634, 635] (by decide +kernel) (by decide +kernel)) (goodIn_sub (fun _ h => List.mem_append_left _ (List.mem_append_left _ (List.mem_append_right _ h))) (by decide +kernel))
set_option maxRecDepth 20000 in
theorem gL_law_L_holder : GoodIn wsL_law (va_wsS RL 130 yL_holder wsL_holder) := goodIn_app (goodIn_of _ (by decide +kernel)) ggL_law_L_holder
set_option maxRecDepth 20000 in
theorem ggL_law_X1_holder : GoodIn wsL_law wsX1_holder := goodIn_r _ [437, 140, 141, 5, 142, 81, 82, 83, 84, 85, 86, 87, 88, 229, 230, 231, 232, 47, 43, 54, 636, 637, 638, 639, 640, 641, 642, 643, 644, 645, 646, 647, 648, 649, 650, 651, 652, 653, 654] (by decide +kernel) (by decide +kernel)
set_option maxRecDepth 20000 in
theorem gL_law_X1_holder : GoodIn wsL_law (wsV RL 132 RX1 yX1_holder wsX1_holder) := goodIn_app (goodIn_of _ (by decide +kernel)) ggL_law_X1_holder
set_option maxRecDepth 20000 in
theorem ggL_law_L_holderByLog : GoodIn wsL_law wsL_holderByLog := goodIn_ca (goodIn_r _ [440, 61, 441, 442, 443, 2, 444, 67, 68, 29, 27, 24, 26, 18, 118, 119, 120, 617, 618, 619, 620, 621, 622, 623, 624, 625, 626, 627, 628, 629, 630, 631, 632, 633, 634, 635] (by decide +kernel) (by decide +kernel)) (goodIn_sub (fun _ h => List.mem_append_left _ (List.mem_append_left _ (List.mem_append_right _ h))) (by decide +kernel))
set_option maxRecDepth 20000 in
theorem gL_law_L_holderByLog : GoodIn wsL_law (va_wsS RL 133 yL_holderByLog wsL_holderByLog) := goodIn_app (goodIn_of _ (by decide +kernel)) ggL_law_L_holderByLog
set_option maxRecDepth 20000 in
theorem ggL_law_X1_holderByLog : GoodIn wsL_law wsX1_holderByLog := goodIn_r _ [448, 140, 141, 5, 142, 81, 82, 83, 84, 85, 86, 87, 88, 229, 230, 231, 232, 47, 43, 54, 636, 637, 638, 639, 640, 641, 642, 643, 644, 645, 646, 647, 648, 649, 650, 651, 652, 653, 654] (by decide +kernel) (by decide +kernel)
set_option maxRecDepth 20000 in
theorem gL_law_X1_holderByLog : GoodIn wsL_law (wsV RL 135 RX1 yX1_holderByLog wsX1_holderByLog) := goodIn_app (goodIn_of _ (by decide +kernel)) ggL_law_X1_holderByLog
set_option maxRecDepth 20000 in
theorem ggL_law_L_pageIn : GoodIn wsL_law wsL_pageIn := goodIn_ca (goodIn_r _ [451, 61, 452, 453, 454, 2, 455, 67, 68, 20, 118, 119, 120, 617, 618, 619, 620, 621, 622, 623, 624, 625, 626, 627, 628, 629, 630, 631, 632, 633, 634, 635] (by decide +kernel) (by decide +kernel)) (goodIn_sub (fun _ h => List.mem_append_left _ (List.mem_append_left _ (List.mem_append_right _ h))) (by decide +kernel))
set_option maxRecDepth 20000 in
theorem gL_law_L_pageIn : GoodIn wsL_law (va_wsS RL 136 yL_pageIn wsL_pageIn) := goodIn_app (goodIn_of _ (by decide +kernel)) ggL_law_L_pageIn
set_option maxRecDepth 20000 in
theorem ggL_law_X1_pageIn : GoodIn wsL_law wsX1_pageIn := goodIn_r _ [459, 44, 140, 141, 5, 142, 81, 82, 83, 84, 85, 86, 87, 88, 636, 637, 638, 639, 640, 641, 642, 643, 644, 645, 646, 647, 648, 649, 650, 651, 652, 653, 654] (by decide +kernel) (by decide +kernel)
set_option maxRecDepth 20000 in
theorem gL_law_X1_pageIn : GoodIn wsL_law (wsV RL 138 RX1 yX1_pageIn wsX1_pageIn) := goodIn_app (goodIn_of _ (by decide +kernel)) ggL_law_X1_pageIn
set_option maxRecDepth 20000 in
theorem ggL_law_L_age : GoodIn wsL_law wsL_age := goodIn_ca (goodIn_r _ [462, 61, 463, 464, 465, 2, 466, 67, 68, 118, 119, 120, 212, 213, 214, 215, 22, 31, 23, 617, 618, 619, 620, 621, 622, 623, 624, 625, 626, 627, 628, 629, 630, 631, 632, 633, 634, 635] (by decide +kernel) (by decide +kernel)) (goodIn_sub (fun _ h => List.mem_append_left _ (List.mem_append_left _ (List.mem_append_right _ h))) (by decide +kernel))
set_option maxRecDepth 20000 in
theorem gL_law_L_age : GoodIn wsL_law (va_wsS RL 139 yL_age wsL_age) := goodIn_app (goodIn_of _ (by decide +kernel)) ggL_law_L_age
set_option maxRecDepth 20000 in
theorem ggL_law_X1_age : GoodIn wsL_law wsX1_age := goodIn_r _ [470, 140, 141, 5, 142, 81, 82, 83, 84, 85, 86, 87, 88, 274, 275, 276, 277, 224, 46, 162, 163, 164, 165, 44, 45, 636, 637, 638, 639, 640, 641, 642, 643, 644, 645, 646, 647, 648, 649, 650, 651, 652, 653, 654] (by decide +kernel) (by decide +kernel)
set_option maxRecDepth 20000 in
theorem gL_law_X1_age : GoodIn wsL_law (wsV RL 141 RX1 yX1_age wsX1_age) := goodIn_app (goodIn_of _ (by decide +kernel)) ggL_law_X1_age
set_option maxRecDepth 20000 in
theorem ggL_law_X0_free : GoodIn wsL_law wsX0_free := goodIn_r _ [474, 18, 617, 618, 619, 620, 621, 622, 623, 624, 625, 626, 627, 628, 629, 630, 631, 632, 633, 634, 635] (by decide +kernel) (by decide +kernel)
set_option maxRecDepth 20000 in
theorem gL_law_X0_free : GoodIn wsL_law (wsV RL 142 RX0 yX0_free wsX0_free) := goodIn_app (goodIn_of _ (by decide +kernel)) ggL_law_X0_free
set_option maxRecDepth 20000 in
theorem ggL_law_X1_free : GoodIn wsL_law wsX1_free := goodIn_r _ [478, 88, 43, 636, 637, 638, 639, 640, 641, 642, 643, 644, 645, 646, 647, 648, 649, 650, 651, 652, 653, 654] (by decide +kernel) (by decide +kernel)
set_option maxRecDepth 20000 in
theorem gL_law_X1_free : GoodIn wsL_law (wsV RL 145 RX1 yX1_free wsX1_free) := goodIn_app (goodIn_of _ (by decide +kernel)) ggL_law_X1_free
set_option maxRecDepth 20000 in
theorem ggL_law_L_owns : GoodIn wsL_law wsL_owns := goodIn_ca (goodIn_r _ [481, 61, 482, 483, 484, 2, 485, 67, 68, 18, 71, 72, 73, 617, 618, 619, 620, 621, 622, 623, 624, 625, 626, 627, 628, 629, 630, 631, 632, 633, 634, 635] (by decide +kernel) (by decide +kernel)) (goodIn_sub (fun _ h => List.mem_append_left _ (List.mem_append_left _ (List.mem_append_right _ h))) (by decide +kernel))
set_option maxRecDepth 20000 in
theorem gL_law_L_owns : GoodIn wsL_law (va_wsS RL 146 yL_owns wsL_owns) := goodIn_app (goodIn_of _ (by decide +kernel)) ggL_law_L_owns
set_option maxRecDepth 20000 in
theorem ggL_law_X1_owns : GoodIn wsL_law wsX1_owns := goodIn_r _ [489, 43, 78, 79, 5, 80, 81, 82, 83, 84, 85, 86, 87, 88, 636, 637, 638, 639, 640, 641, 642, 643, 644, 645, 646, 647, 648, 649, 650, 651, 652, 653, 654] (by decide +kernel) (by decide +kernel)
set_option maxRecDepth 20000 in
theorem gL_law_X1_owns : GoodIn wsL_law (wsV RL 148 RX1 yX1_owns wsX1_owns) := goodIn_app (goodIn_of _ (by decide +kernel)) ggL_law_X1_owns
set_option maxRecDepth 20000 in
theorem ggL_law_L_borrowed : GoodIn wsL_law wsL_borrowed := goodIn_ca (goodIn_r _ [492, 61, 493, 494, 495, 2, 496, 67, 68, 71, 72, 73, 200, 201, 202, 203, 19, 18, 617, 618, 619, 620, 621, 622, 623, 624, 625, 626, 627, 628, 629, 630, 631, 632, 633, 634, 635] (by decide +kernel) (by decide +kernel)) (goodIn_sub (fun _ h => List.mem_append_left _ (List.mem_append_left _ (List.mem_append_right _ h))) (by decide +kernel))
set_option maxRecDepth 20000 in
theorem gL_law_L_borrowed : GoodIn wsL_law (va_wsS RL 149 yL_borrowed wsL_borrowed) := goodIn_app (goodIn_of _ (by decide +kernel)) ggL_law_L_borrowed
set_option maxRecDepth 20000 in
theorem ggL_law_X1_borrowed : GoodIn wsL_law wsX1_borrowed := goodIn_r _ [500, 78, 79, 5, 80, 81, 82, 83, 84, 85, 86, 87, 88, 258, 259, 260, 261, 47, 54, 636, 637, 638, 639, 640, 641, 642, 643, 644, 645, 646, 647, 648, 649, 650, 651, 652, 653, 654] (by decide +kernel) (by decide +kernel)
set_option maxRecDepth 20000 in
theorem gL_law_X1_borrowed : GoodIn wsL_law (wsV RL 151 RX1 yX1_borrowed wsX1_borrowed) := goodIn_app (goodIn_of _ (by decide +kernel)) ggL_law_X1_borrowed
set_option maxRecDepth 20000 in
theorem ggL_law_L_lent : GoodIn wsL_law wsL_lent := goodIn_ca (goodIn_r _ [503, 61, 504, 505, 506, 2, 507, 67, 68, 18, 19, 71, 72, 73, 617, 618, 619, 620, 621, 622, 623, 624, 625, 626, 627, 628, 629, 630, 631, 632, 633, 634, 635] (by decide +kernel) (by decide +kernel)) (goodIn_sub (fun _ h => List.mem_append_left _ (List.mem_append_left _ (List.mem_append_right _ h))) (by decide +kernel))
set_option maxRecDepth 20000 in
theorem gL_law_L_lent : GoodIn wsL_law (va_wsS RL 152 yL_lent wsL_lent) := goodIn_app (goodIn_of _ (by decide +kernel)) ggL_law_L_lent
set_option maxRecDepth 20000 in
theorem ggL_law_X1_lent : GoodIn wsL_law wsX1_lent := goodIn_r _ [511, 43, 47, 78, 79, 5, 80, 81, 82, 83, 84, 85, 86, 87, 88, 636, 637, 638, 639, 640, 641, 642, 643, 644, 645, 646, 647, 648, 649, 650, 651, 652, 653, 654] (by decide +kernel) (by decide +kernel)
set_option maxRecDepth 20000 in
theorem gL_law_X1_lent : GoodIn wsL_law (wsV RL 154 RX1 yX1_lent wsX1_lent) := goodIn_app (goodIn_of _ (by decide +kernel)) ggL_law_X1_lent
set_option maxRecDepth 20000 in
theorem ggL_law_L_stateOf : GoodIn wsL_law wsL_stateOf := goodIn_ca (goodIn_r _ [514, 61, 515, 516, 517, 2, 518, 67, 68, 16, 71, 72, 73, 617, 618, 619, 620, 621, 622, 623, 624, 625, 626, 627, 628, 629, 630, 631, 632, 633, 634, 635] (by decide +kernel) (by decide +kernel)) (goodIn_sub (fun _ h => List.mem_append_left _ (List.mem_append_left _ (List.mem_append_right _ h))) (by decide +kernel))
set_option maxRecDepth 20000 in
theorem gL_law_L_stateOf : GoodIn wsL_law (va_wsS RL 155 yL_stateOf wsL_stateOf) := goodIn_app (goodIn_of _ (by decide +kernel)) ggL_law_L_stateOf
set_option maxRecDepth 20000 in
theorem ggL_law_X1_stateOf : GoodIn wsL_law wsX1_stateOf := goodIn_r _ [522, 50, 78, 79, 5, 80, 81, 82, 83, 84, 85, 86, 87, 88, 636, 637, 638, 639, 640, 641, 642, 643, 644, 645, 646, 647, 648, 649, 650, 651, 652, 653, 654] (by decide +kernel) (by decide +kernel)
set_option maxRecDepth 20000 in
theorem gL_law_X1_stateOf : GoodIn wsL_law (wsV RL 157 RX1 yX1_stateOf wsX1_stateOf) := goodIn_app (goodIn_of _ (by decide +kernel)) ggL_law_X1_stateOf
set_option maxRecDepth 20000 in
theorem ggL_law_L_purse : GoodIn wsL_law wsL_purse := goodIn_ca (goodIn_r _ [525, 61, 526, 527, 528, 2, 529, 67, 68, 15, 71, 72, 73, 617, 618, 619, 620, 621, 622, 623, 624, 625, 626, 627, 628, 629, 630, 631, 632, 633, 634, 635] (by decide +kernel) (by decide +kernel)) (goodIn_sub (fun _ h => List.mem_append_left _ (List.mem_append_left _ (List.mem_append_right _ h))) (by decide +kernel))
set_option maxRecDepth 20000 in
theorem gL_law_L_purse : GoodIn wsL_law (va_wsS RL 158 yL_purse wsL_purse) := goodIn_app (goodIn_of _ (by decide +kernel)) ggL_law_L_purse
set_option maxRecDepth 20000 in
theorem ggL_law_X1_purse : GoodIn wsL_law wsX1_purse := goodIn_r _ [533, 49, 78, 79, 5, 80, 81, 82, 83, 84, 85, 86, 87, 88, 636, 637, 638, 639, 640, 641, 642, 643, 644, 645, 646, 647, 648, 649, 650, 651, 652, 653, 654] (by decide +kernel) (by decide +kernel)
set_option maxRecDepth 20000 in
theorem gL_law_X1_purse : GoodIn wsL_law (wsV RL 160 RX1 yX1_purse wsX1_purse) := goodIn_app (goodIn_of _ (by decide +kernel)) ggL_law_X1_purse
set_option maxRecDepth 20000 in
theorem ggL_law_L_faults : GoodIn wsL_law wsL_faults := goodIn_ca (goodIn_r _ [536, 61, 537, 538, 539, 2, 540, 67, 68, 17, 71, 72, 73, 617, 618, 619, 620, 621, 622, 623, 624, 625, 626, 627, 628, 629, 630, 631, 632, 633, 634, 635] (by decide +kernel) (by decide +kernel)) (goodIn_sub (fun _ h => List.mem_append_left _ (List.mem_append_left _ (List.mem_append_right _ h))) (by decide +kernel))
set_option maxRecDepth 20000 in
theorem gL_law_L_faults : GoodIn wsL_law (va_wsS RL 161 yL_faults wsL_faults) := goodIn_app (goodIn_of _ (by decide +kernel)) ggL_law_L_faults
set_option maxRecDepth 20000 in
theorem ggL_law_X1_faults : GoodIn wsL_law wsX1_faults := goodIn_r _ [544, 51, 78, 79, 5, 80, 81, 82, 83, 84, 85, 86, 87, 88, 636, 637, 638, 639, 640, 641, 642, 643, 644, 645, 646, 647, 648, 649, 650, 651, 652, 653, 654] (by decide +kernel) (by decide +kernel)
set_option maxRecDepth 20000 in
theorem gL_law_X1_faults : GoodIn wsL_law (wsV RL 163 RX1 yX1_faults wsX1_faults) := goodIn_app (goodIn_of _ (by decide +kernel)) ggL_law_X1_faults
set_option maxRecDepth 20000 in
theorem ggL_law_X0_loans : GoodIn wsL_law wsX0_loans := goodIn_r _ [548, 29, 617, 618, 619, 620, 621, 622, 623, 624, 625, 626, 627, 628, 629, 630, 631, 632, 633, 634, 635] (by decide +kernel) (by decide +kernel)
set_option maxRecDepth 20000 in
theorem gL_law_X0_loans : GoodIn wsL_law (wsV RL 164 RX0 yX0_loans wsX0_loans) := goodIn_app (goodIn_of _ (by decide +kernel)) ggL_law_X0_loans
set_option maxRecDepth 20000 in
theorem ggL_law_X1_loans : GoodIn wsL_law wsX1_loans := goodIn_r _ [552, 88, 237, 636, 637, 638, 639, 640, 641, 642, 643, 644, 645, 646, 647, 648, 649, 650, 651, 652, 653, 654] (by decide +kernel) (by decide +kernel)
set_option maxRecDepth 20000 in
theorem gL_law_X1_loans : GoodIn wsL_law (wsV RL 167 RX1 yX1_loans wsX1_loans) := goodIn_app (goodIn_of _ (by decide +kernel)) ggL_law_X1_loans
set_option maxRecDepth 20000 in
theorem ggL_law_L_lasts : GoodIn wsL_law wsL_lasts := goodIn_ca (goodIn_r _ [555, 61, 556, 557, 558, 2, 559, 67, 68, 27, 302, 303, 304, 305, 29, 617, 618, 619, 620, 621, 622, 623, 624, 625, 626, 627, 628, 629, 630, 631, 632, 633, 634, 635] (by decide +kernel) (by decide +kernel)) (goodIn_sub (fun _ h => List.mem_append_left _ (List.mem_append_left _ (List.mem_append_right _ h))) (by decide +kernel))
set_option maxRecDepth 20000 in
theorem gL_law_L_lasts : GoodIn wsL_law (va_wsS RL 168 yL_lasts wsL_lasts) := goodIn_app (goodIn_of _ (by decide +kernel)) ggL_law_L_lasts
set_option maxRecDepth 20000 in
theorem ggL_law_X1_lasts : GoodIn wsL_law wsX1_lasts := goodIn_r _ [563, 310, 311, 312, 5, 313, 237, 81, 82, 83, 84, 85, 86, 87, 88, 246, 247, 248, 249, 47, 52, 636, 637, 638, 639, 640, 641, 642, 643, 644, 645, 646, 647, 648, 649, 650, 651, 652, 653, 654] (by decide +kernel) (by decide +kernel)
set_option maxRecDepth 20000 in
theorem gL_law_X1_lasts : GoodIn wsL_law (wsV RL 170 RX1 yX1_lasts wsX1_lasts) := goodIn_app (goodIn_of _ (by decide +kernel)) ggL_law_X1_lasts
set_option maxRecDepth 20000 in
theorem ggL_law_L_partiesOf : GoodIn wsL_law wsL_partiesOf := goodIn_ca (goodIn_r _ [566, 61, 567, 568, 569, 2, 570, 67, 68, 24, 25, 26, 302, 303, 304, 305, 29, 617, 618, 619, 620, 621, 622, 623, 624, 625, 626, 627, 628, 629, 630, 631, 632, 633, 634, 635] (by decide +kernel) (by decide +kernel)) (goodIn_sub (fun _ h => List.mem_append_left _ (List.mem_append_left _ (List.mem_append_right _ h))) (by decide +kernel))
set_option maxRecDepth 20000 in
theorem gL_law_L_partiesOf : GoodIn wsL_law (va_wsS RL 171 yL_partiesOf wsL_partiesOf) := goodIn_app (goodIn_of _ (by decide +kernel)) ggL_law_L_partiesOf
set_option maxRecDepth 20000 in
theorem ggL_law_X1_partiesOf : GoodIn wsL_law wsX1_partiesOf := goodIn_r _ [574, 52, 53, 54, 310, 311, 312, 5, 313, 237, 81, 82, 83, 84, 85, 86, 87, 88, 636, 637, 638, 639, 640, 641, 642, 643, 644, 645, 646, 647, 648, 649, 650, 651, 652, 653, 654] (by decide +kernel) (by decide +kernel)
set_option maxRecDepth 20000 in
theorem gL_law_X1_partiesOf : GoodIn wsL_law (wsV RL 173 RX1 yX1_partiesOf wsX1_partiesOf) := goodIn_app (goodIn_of _ (by decide +kernel)) ggL_law_X1_partiesOf
set_option maxRecDepth 20000 in
theorem ggL_law_L_interest : GoodIn wsL_law wsL_interest := goodIn_ca (goodIn_r _ [577, 61, 578, 579, 580, 2, 581, 67, 68, 28, 302, 303, 304, 305, 29, 617, 618, 619, 620, 621, 622, 623, 624, 625, 626, 627, 628, 629, 630, 631, 632, 633, 634, 635] (by decide +kernel) (by decide +kernel)) (goodIn_sub (fun _ h => List.mem_append_left _ (List.mem_append_left _ (List.mem_append_right _ h))) (by decide +kernel))
set_option maxRecDepth 20000 in
theorem gL_law_L_interest : GoodIn wsL_law (va_wsS RL 174 yL_interest wsL_interest) := goodIn_app (goodIn_of _ (by decide +kernel)) ggL_law_L_interest
set_option maxRecDepth 20000 in
theorem ggL_law_X1_interest : GoodIn wsL_law wsX1_interest := goodIn_r _ [585, 55, 310, 311, 312, 5, 313, 237, 81, 82, 83, 84, 85, 86, 87, 88, 636, 637, 638, 639, 640, 641, 642, 643, 644, 645, 646, 647, 648, 649, 650, 651, 652, 653, 654] (by decide +kernel) (by decide +kernel)
set_option maxRecDepth 20000 in
theorem gL_law_X1_interest : GoodIn wsL_law (wsV RL 176 RX1 yX1_interest wsX1_interest) := goodIn_app (goodIn_of _ (by decide +kernel)) ggL_law_X1_interest
set_option maxRecDepth 20000 in
theorem ggL_law_X0_head : GoodIn wsL_law wsX0_head := goodIn_r _ [589, 32, 617, 618, 619, 620, 621, 622, 623, 624, 625, 626, 627, 628, 629, 630, 631, 632, 633, 634, 635] (by decide +kernel) (by decide +kernel)
set_option maxRecDepth 20000 in
theorem gL_law_X0_head : GoodIn wsL_law (wsV RL 177 RX0 yX0_head wsX0_head) := goodIn_app (goodIn_of _ (by decide +kernel)) ggL_law_X0_head
set_option maxRecDepth 20000 in
theorem ggL_law_X1_head : GoodIn wsL_law wsX1_head := goodIn_r _ [593, 88, 395, 636, 637, 638, 639, 640, 641, 642, 643, 644, 645, 646, 647, 648, 649, 650, 651, 652, 653, 654] (by decide +kernel) (by decide +kernel)
set_option maxRecDepth 20000 in
theorem gL_law_X1_head : GoodIn wsL_law (wsV RL 180 RX1 yX1_head wsX1_head) := goodIn_app (goodIn_of _ (by decide +kernel)) ggL_law_X1_head
set_option maxRecDepth 20000 in
theorem ggL_law_X0_requests : GoodIn wsL_law wsX0_requests := goodIn_r _ [597, 188, 189, 190, 2, 191, 20, 22, 118, 119, 120, 617, 618, 619, 620, 621, 622, 623, 624, 625, 626, 627, 628, 629, 630, 631, 632, 633, 634, 635] (by decide +kernel) (by decide +kernel)
set_option maxRecDepth 20000 in
theorem gL_law_X0_requests : GoodIn wsL_law (wsV RL 181 RX0 yX0_requests wsX0_requests) := goodIn_app (goodIn_of _ (by decide +kernel)) ggL_law_X0_requests
set_option maxRecDepth 20000 in
theorem ggL_law_X1_requests : GoodIn wsL_law wsX1_requests := goodIn_r _ [601, 88, 250, 251, 252, 5, 253, 44, 45, 636, 637, 638, 639, 640, 641, 642, 643, 644, 645, 646, 647, 648, 649, 650, 651, 652, 653, 654] (by decide +kernel) (by decide +kernel)
set_option maxRecDepth 20000 in
theorem gL_law_X1_requests : GoodIn wsL_law (wsV RL 184 RX1 yX1_requests wsX1_requests) := goodIn_app (goodIn_of _ (by decide +kernel)) ggL_law_X1_requests
set_option maxRecDepth 20000 in
theorem ggL_law_L_requestAt : GoodIn wsL_law wsL_requestAt := goodIn_ca (goodIn_r _ [604, 61, 605, 606, 607, 2, 608, 67, 68, 609, 610, 611, 612, 188, 189, 190, 191, 20, 22, 118, 119, 120, 362, 363, 364, 365, 19, 617, 618, 619, 620, 621, 622, 623, 624, 625, 626, 627, 628, 629, 630, 631, 632, 633, 634, 635] (by decide +kernel) (by decide +kernel)) (goodIn_sub (fun _ h => List.mem_append_left _ (List.mem_append_left _ (List.mem_append_right _ h))) (by decide +kernel))
set_option maxRecDepth 20000 in
theorem gL_law_L_requestAt : GoodIn wsL_law (va_wsS RL 185 yL_requestAt wsL_requestAt) := goodIn_app (goodIn_of _ (by decide +kernel)) ggL_law_L_requestAt
set_option maxRecDepth 20000 in
theorem ggL_law_X1_requestAt : GoodIn wsL_law wsX1_requestAt := goodIn_r _ [616, 84, 85, 86, 5, 87, 88, 250, 251, 252, 253, 44, 45, 404, 405, 406, 407, 229, 230, 231, 232, 47, 43, 54, 636, 637, 638, 639, 640, 641, 642, 643, 644, 645, 646, 647, 648, 649, 650, 651, 652, 653, 654] (by decide +kernel) (by decide +kernel)
set_option maxRecDepth 20000 in
theorem gL_law_X1_requestAt : GoodIn wsL_law (wsV RL 187 RX1 yX1_requestAt wsX1_requestAt) := goodIn_app (goodIn_of _ (by decide +kernel)) ggL_law_X1_requestAt
theorem dL_law_0 : decode cL_law 0 = .ok (.new 8, 3) := by decide +kernel
theorem dL_law_3 : decode cL_law 3 = .ok (.dup, 1) := by decide +kernel
theorem dL_law_4 : decode cL_law 4 = .ok (.invokespecial 87, 3) := by decide +kernel
theorem dL_law_7 : decode cL_law 7 = .ok (.astore_n 1, 1) := by decide +kernel
theorem dL_law_8 : decode cL_law 8 = .ok (.new 88, 3) := by decide +kernel
theorem dL_law_11 : decode cL_law 11 = .ok (.dup, 1) := by decide +kernel
theorem dL_law_12 : decode cL_law 12 = .ok (.invokespecial 90, 3) := by decide +kernel
theorem dL_law_15 : decode cL_law 15 = .ok (.astore_n 2, 1) := by decide +kernel
theorem dL_law_16 : decode cL_law 16 = .ok (.iconst 1, 1) := by decide +kernel
theorem dL_law_17 : decode cL_law 17 = .ok (.newarray .long, 2) := by decide +kernel
theorem dL_law_19 : decode cL_law 19 = .ok (.astore_n 3, 1) := by decide +kernel
theorem dL_law_20 : decode cL_law 20 = .ok (.iconst 0, 1) := by decide +kernel
theorem dL_law_21 : decode cL_law 21 = .ok (.istore 4, 2) := by decide +kernel
theorem dL_law_23 : decode cL_law 23 = .ok (.iload 4, 2) := by decide +kernel
theorem dL_law_25 : decode cL_law 25 = .ok (.aload_n 0, 1) := by decide +kernel
theorem dL_law_26 : decode cL_law 26 = .ok (.arraylength, 1) := by decide +kernel
theorem dL_law_27 : decode cL_law 27 = .ok (.iconst 3, 1) := by decide +kernel
theorem dL_law_28 : decode cL_law 28 = .ok (.isub, 1) := by decide +kernel
theorem dL_law_29 : decode cL_law 29 = .ok (.if_icmp .gt 1525, 3) := by decide +kernel
theorem dL_law_32 : decode cL_law 32 = .ok (.aload_n 0, 1) := by decide +kernel
theorem dL_law_33 : decode cL_law 33 = .ok (.iload 4, 2) := by decide +kernel
theorem dL_law_35 : decode cL_law 35 = .ok (.iaload, 1) := by decide +kernel
theorem dL_law_36 : decode cL_law 36 = .ok (.bipush 31, 2) := by decide +kernel
theorem dL_law_38 : decode cL_law 38 = .ok (.iand, 1) := by decide +kernel
theorem dL_law_39 : decode cL_law 39 = .ok (.tableswitch 1509 0 27 #[125, 193, 249, 305, 361, 417, 485, 541, 597, 610, 666, 722, 778, 834, 890, 903, 959, 1015, 1071, 1127, 1183, 1239, 1252, 1315, 1371, 1427, 1440, 1453], 125) := by decide +kernel
theorem dL_law_164 : decode cL_law 164 = .ok (.aload_n 1, 1) := by decide +kernel
theorem dL_law_165 : decode cL_law 165 = .ok (.aload_n 0, 1) := by decide +kernel
theorem dL_law_166 : decode cL_law 166 = .ok (.iload 4, 2) := by decide +kernel
theorem dL_law_168 : decode cL_law 168 = .ok (.iconst 1, 1) := by decide +kernel
theorem dL_law_169 : decode cL_law 169 = .ok (.iadd, 1) := by decide +kernel
theorem dL_law_170 : decode cL_law 170 = .ok (.iaload, 1) := by decide +kernel
theorem dL_law_171 : decode cL_law 171 = .ok (.aload_n 0, 1) := by decide +kernel
theorem dL_law_172 : decode cL_law 172 = .ok (.iload 4, 2) := by decide +kernel
theorem dL_law_174 : decode cL_law 174 = .ok (.iconst 2, 1) := by decide +kernel
theorem dL_law_175 : decode cL_law 175 = .ok (.iadd, 1) := by decide +kernel
theorem dL_law_176 : decode cL_law 176 = .ok (.iaload, 1) := by decide +kernel
theorem dL_law_177 : decode cL_law 177 = .ok (.aload_n 3, 1) := by decide +kernel
theorem dL_law_178 : decode cL_law 178 = .ok (.invokestatic 91, 3) := by decide +kernel
theorem dL_law_181 : decode cL_law 181 = .ok (.istore 5, 2) := by decide +kernel
theorem dL_law_183 : decode cL_law 183 = .ok (.aload_n 2, 1) := by decide +kernel
theorem dL_law_184 : decode cL_law 184 = .ok (.aload_n 0, 1) := by decide +kernel
theorem dL_law_185 : decode cL_law 185 = .ok (.iload 4, 2) := by decide +kernel
theorem dL_law_187 : decode cL_law 187 = .ok (.iconst 1, 1) := by decide +kernel
theorem dL_law_188 : decode cL_law 188 = .ok (.iadd, 1) := by decide +kernel
theorem dL_law_189 : decode cL_law 189 = .ok (.iaload, 1) := by decide +kernel
theorem dL_law_190 : decode cL_law 190 = .ok (.aload_n 0, 1) := by decide +kernel
theorem dL_law_191 : decode cL_law 191 = .ok (.iload 4, 2) := by decide +kernel
theorem dL_law_193 : decode cL_law 193 = .ok (.iconst 2, 1) := by decide +kernel
theorem dL_law_194 : decode cL_law 194 = .ok (.iadd, 1) := by decide +kernel
theorem dL_law_195 : decode cL_law 195 = .ok (.iaload, 1) := by decide +kernel
theorem dL_law_196 : decode cL_law 196 = .ok (.invokevirtual 96, 3) := by decide +kernel
theorem dL_law_199 : decode cL_law 199 = .ok (.istore 6, 2) := by decide +kernel
theorem dL_law_201 : decode cL_law 201 = .ok (.aload_n 2, 1) := by decide +kernel
theorem dL_law_202 : decode cL_law 202 = .ok (.invokevirtual 97, 3) := by decide +kernel
theorem dL_law_205 : decode cL_law 205 = .ok (.iload 5, 2) := by decide +kernel
theorem dL_law_207 : decode cL_law 207 = .ok (.if_icmp .eq 5, 3) := by decide +kernel
theorem dL_law_210 : decode cL_law 210 = .ok (.iconst 0, 1) := by decide +kernel
theorem dL_law_211 : decode cL_law 211 = .ok (.ireturn, 1) := by decide +kernel
theorem dL_law_212 : decode cL_law 212 = .ok (.iload 5, 2) := by decide +kernel
theorem dL_law_214 : decode cL_law 214 = .ok (.ifCond .ne 15, 3) := by decide +kernel
theorem dL_law_217 : decode cL_law 217 = .ok (.aload_n 3, 1) := by decide +kernel
theorem dL_law_218 : decode cL_law 218 = .ok (.iconst 0, 1) := by decide +kernel
theorem dL_law_219 : decode cL_law 219 = .ok (.laload, 1) := by decide +kernel
theorem dL_law_220 : decode cL_law 220 = .ok (.iload 6, 2) := by decide +kernel
theorem dL_law_222 : decode cL_law 222 = .ok (.i2l, 1) := by decide +kernel
theorem dL_law_223 : decode cL_law 223 = .ok (.lcmp, 1) := by decide +kernel
theorem dL_law_224 : decode cL_law 224 = .ok (.ifCond .eq 5, 3) := by decide +kernel
theorem dL_law_227 : decode cL_law 227 = .ok (.iconst 0, 1) := by decide +kernel
theorem dL_law_228 : decode cL_law 228 = .ok (.ireturn, 1) := by decide +kernel
theorem dL_law_229 : decode cL_law 229 = .ok (.goto 1319, 3) := by decide +kernel
theorem dL_law_232 : decode cL_law 232 = .ok (.aload_n 1, 1) := by decide +kernel
theorem dL_law_233 : decode cL_law 233 = .ok (.aload_n 0, 1) := by decide +kernel
theorem dL_law_234 : decode cL_law 234 = .ok (.iload 4, 2) := by decide +kernel
theorem dL_law_236 : decode cL_law 236 = .ok (.iconst 1, 1) := by decide +kernel
theorem dL_law_237 : decode cL_law 237 = .ok (.iadd, 1) := by decide +kernel
theorem dL_law_238 : decode cL_law 238 = .ok (.iaload, 1) := by decide +kernel
theorem dL_law_239 : decode cL_law 239 = .ok (.aload_n 3, 1) := by decide +kernel
theorem dL_law_240 : decode cL_law 240 = .ok (.invokestatic 101, 3) := by decide +kernel
theorem dL_law_243 : decode cL_law 243 = .ok (.istore 5, 2) := by decide +kernel
theorem dL_law_245 : decode cL_law 245 = .ok (.aload_n 2, 1) := by decide +kernel
theorem dL_law_246 : decode cL_law 246 = .ok (.aload_n 0, 1) := by decide +kernel
theorem dL_law_247 : decode cL_law 247 = .ok (.iload 4, 2) := by decide +kernel
theorem dL_law_249 : decode cL_law 249 = .ok (.iconst 1, 1) := by decide +kernel
theorem dL_law_250 : decode cL_law 250 = .ok (.iadd, 1) := by decide +kernel
theorem dL_law_251 : decode cL_law 251 = .ok (.iaload, 1) := by decide +kernel
theorem dL_law_252 : decode cL_law 252 = .ok (.invokevirtual 104, 3) := by decide +kernel
theorem dL_law_255 : decode cL_law 255 = .ok (.istore 6, 2) := by decide +kernel
theorem dL_law_257 : decode cL_law 257 = .ok (.aload_n 2, 1) := by decide +kernel
theorem dL_law_258 : decode cL_law 258 = .ok (.invokevirtual 97, 3) := by decide +kernel
theorem dL_law_261 : decode cL_law 261 = .ok (.iload 5, 2) := by decide +kernel
theorem dL_law_263 : decode cL_law 263 = .ok (.if_icmp .eq 5, 3) := by decide +kernel
theorem dL_law_266 : decode cL_law 266 = .ok (.iconst 0, 1) := by decide +kernel
theorem dL_law_267 : decode cL_law 267 = .ok (.ireturn, 1) := by decide +kernel
theorem dL_law_268 : decode cL_law 268 = .ok (.iload 5, 2) := by decide +kernel
theorem dL_law_270 : decode cL_law 270 = .ok (.ifCond .ne 15, 3) := by decide +kernel
theorem dL_law_273 : decode cL_law 273 = .ok (.aload_n 3, 1) := by decide +kernel
theorem dL_law_274 : decode cL_law 274 = .ok (.iconst 0, 1) := by decide +kernel
theorem dL_law_275 : decode cL_law 275 = .ok (.laload, 1) := by decide +kernel
theorem dL_law_276 : decode cL_law 276 = .ok (.iload 6, 2) := by decide +kernel
theorem dL_law_278 : decode cL_law 278 = .ok (.i2l, 1) := by decide +kernel
theorem dL_law_279 : decode cL_law 279 = .ok (.lcmp, 1) := by decide +kernel
theorem dL_law_280 : decode cL_law 280 = .ok (.ifCond .eq 5, 3) := by decide +kernel
theorem dL_law_283 : decode cL_law 283 = .ok (.iconst 0, 1) := by decide +kernel
theorem dL_law_284 : decode cL_law 284 = .ok (.ireturn, 1) := by decide +kernel
theorem dL_law_285 : decode cL_law 285 = .ok (.goto 1263, 3) := by decide +kernel
theorem dL_law_288 : decode cL_law 288 = .ok (.aload_n 1, 1) := by decide +kernel
theorem dL_law_289 : decode cL_law 289 = .ok (.aload_n 0, 1) := by decide +kernel
theorem dL_law_290 : decode cL_law 290 = .ok (.iload 4, 2) := by decide +kernel
theorem dL_law_292 : decode cL_law 292 = .ok (.iconst 1, 1) := by decide +kernel
theorem dL_law_293 : decode cL_law 293 = .ok (.iadd, 1) := by decide +kernel
theorem dL_law_294 : decode cL_law 294 = .ok (.iaload, 1) := by decide +kernel
theorem dL_law_295 : decode cL_law 295 = .ok (.aload_n 3, 1) := by decide +kernel
theorem dL_law_296 : decode cL_law 296 = .ok (.invokestatic 105, 3) := by decide +kernel
theorem dL_law_299 : decode cL_law 299 = .ok (.istore 5, 2) := by decide +kernel
theorem dL_law_301 : decode cL_law 301 = .ok (.aload_n 2, 1) := by decide +kernel
theorem dL_law_302 : decode cL_law 302 = .ok (.aload_n 0, 1) := by decide +kernel
theorem dL_law_303 : decode cL_law 303 = .ok (.iload 4, 2) := by decide +kernel
theorem dL_law_305 : decode cL_law 305 = .ok (.iconst 1, 1) := by decide +kernel
theorem dL_law_306 : decode cL_law 306 = .ok (.iadd, 1) := by decide +kernel
end
section
theorem dL_law_307 : decode cL_law 307 = .ok (.iaload, 1) := by decide +kernel
theorem dL_law_308 : decode cL_law 308 = .ok (.invokevirtual 107, 3) := by decide +kernel
theorem dL_law_311 : decode cL_law 311 = .ok (.istore 6, 2) := by decide +kernel
theorem dL_law_313 : decode cL_law 313 = .ok (.aload_n 2, 1) := by decide +kernel
theorem dL_law_314 : decode cL_law 314 = .ok (.invokevirtual 97, 3) := by decide +kernel
theorem dL_law_317 : decode cL_law 317 = .ok (.iload 5, 2) := by decide +kernel
theorem dL_law_319 : decode cL_law 319 = .ok (.if_icmp .eq 5, 3) := by decide +kernel
theorem dL_law_322 : decode cL_law 322 = .ok (.iconst 0, 1) := by decide +kernel
theorem dL_law_323 : decode cL_law 323 = .ok (.ireturn, 1) := by decide +kernel
theorem dL_law_324 : decode cL_law 324 = .ok (.iload 5, 2) := by decide +kernel
theorem dL_law_326 : decode cL_law 326 = .ok (.ifCond .ne 15, 3) := by decide +kernel
theorem dL_law_329 : decode cL_law 329 = .ok (.aload_n 3, 1) := by decide +kernel
theorem dL_law_330 : decode cL_law 330 = .ok (.iconst 0, 1) := by decide +kernel
theorem dL_law_331 : decode cL_law 331 = .ok (.laload, 1) := by decide +kernel
theorem dL_law_332 : decode cL_law 332 = .ok (.iload 6, 2) := by decide +kernel
theorem dL_law_334 : decode cL_law 334 = .ok (.i2l, 1) := by decide +kernel
theorem dL_law_335 : decode cL_law 335 = .ok (.lcmp, 1) := by decide +kernel
theorem dL_law_336 : decode cL_law 336 = .ok (.ifCond .eq 5, 3) := by decide +kernel
theorem dL_law_339 : decode cL_law 339 = .ok (.iconst 0, 1) := by decide +kernel
theorem dL_law_340 : decode cL_law 340 = .ok (.ireturn, 1) := by decide +kernel
theorem dL_law_341 : decode cL_law 341 = .ok (.goto 1207, 3) := by decide +kernel
theorem dL_law_344 : decode cL_law 344 = .ok (.aload_n 1, 1) := by decide +kernel
theorem dL_law_345 : decode cL_law 345 = .ok (.aload_n 0, 1) := by decide +kernel
theorem dL_law_346 : decode cL_law 346 = .ok (.iload 4, 2) := by decide +kernel
theorem dL_law_348 : decode cL_law 348 = .ok (.iconst 1, 1) := by decide +kernel
theorem dL_law_349 : decode cL_law 349 = .ok (.iadd, 1) := by decide +kernel
theorem dL_law_350 : decode cL_law 350 = .ok (.iaload, 1) := by decide +kernel
theorem dL_law_351 : decode cL_law 351 = .ok (.aload_n 3, 1) := by decide +kernel
theorem dL_law_352 : decode cL_law 352 = .ok (.invokestatic 108, 3) := by decide +kernel
theorem dL_law_355 : decode cL_law 355 = .ok (.istore 5, 2) := by decide +kernel
theorem dL_law_357 : decode cL_law 357 = .ok (.aload_n 2, 1) := by decide +kernel
theorem dL_law_358 : decode cL_law 358 = .ok (.aload_n 0, 1) := by decide +kernel
theorem dL_law_359 : decode cL_law 359 = .ok (.iload 4, 2) := by decide +kernel
theorem dL_law_361 : decode cL_law 361 = .ok (.iconst 1, 1) := by decide +kernel
theorem dL_law_362 : decode cL_law 362 = .ok (.iadd, 1) := by decide +kernel
theorem dL_law_363 : decode cL_law 363 = .ok (.iaload, 1) := by decide +kernel
theorem dL_law_364 : decode cL_law 364 = .ok (.invokevirtual 110, 3) := by decide +kernel
theorem dL_law_367 : decode cL_law 367 = .ok (.istore 6, 2) := by decide +kernel
theorem dL_law_369 : decode cL_law 369 = .ok (.aload_n 2, 1) := by decide +kernel
theorem dL_law_370 : decode cL_law 370 = .ok (.invokevirtual 97, 3) := by decide +kernel
theorem dL_law_373 : decode cL_law 373 = .ok (.iload 5, 2) := by decide +kernel
theorem dL_law_375 : decode cL_law 375 = .ok (.if_icmp .eq 5, 3) := by decide +kernel
theorem dL_law_378 : decode cL_law 378 = .ok (.iconst 0, 1) := by decide +kernel
theorem dL_law_379 : decode cL_law 379 = .ok (.ireturn, 1) := by decide +kernel
theorem dL_law_380 : decode cL_law 380 = .ok (.iload 5, 2) := by decide +kernel
theorem dL_law_382 : decode cL_law 382 = .ok (.ifCond .ne 15, 3) := by decide +kernel
theorem dL_law_385 : decode cL_law 385 = .ok (.aload_n 3, 1) := by decide +kernel
theorem dL_law_386 : decode cL_law 386 = .ok (.iconst 0, 1) := by decide +kernel
theorem dL_law_387 : decode cL_law 387 = .ok (.laload, 1) := by decide +kernel
theorem dL_law_388 : decode cL_law 388 = .ok (.iload 6, 2) := by decide +kernel
theorem dL_law_390 : decode cL_law 390 = .ok (.i2l, 1) := by decide +kernel
theorem dL_law_391 : decode cL_law 391 = .ok (.lcmp, 1) := by decide +kernel
theorem dL_law_392 : decode cL_law 392 = .ok (.ifCond .eq 5, 3) := by decide +kernel
theorem dL_law_395 : decode cL_law 395 = .ok (.iconst 0, 1) := by decide +kernel
theorem dL_law_396 : decode cL_law 396 = .ok (.ireturn, 1) := by decide +kernel
theorem dL_law_397 : decode cL_law 397 = .ok (.goto 1151, 3) := by decide +kernel
theorem dL_law_400 : decode cL_law 400 = .ok (.aload_n 1, 1) := by decide +kernel
theorem dL_law_401 : decode cL_law 401 = .ok (.aload_n 0, 1) := by decide +kernel
theorem dL_law_402 : decode cL_law 402 = .ok (.iload 4, 2) := by decide +kernel
theorem dL_law_404 : decode cL_law 404 = .ok (.iconst 1, 1) := by decide +kernel
theorem dL_law_405 : decode cL_law 405 = .ok (.iadd, 1) := by decide +kernel
theorem dL_law_406 : decode cL_law 406 = .ok (.iaload, 1) := by decide +kernel
theorem dL_law_407 : decode cL_law 407 = .ok (.aload_n 3, 1) := by decide +kernel
theorem dL_law_408 : decode cL_law 408 = .ok (.invokestatic 111, 3) := by decide +kernel
theorem dL_law_411 : decode cL_law 411 = .ok (.istore 5, 2) := by decide +kernel
theorem dL_law_413 : decode cL_law 413 = .ok (.aload_n 2, 1) := by decide +kernel
theorem dL_law_414 : decode cL_law 414 = .ok (.aload_n 0, 1) := by decide +kernel
theorem dL_law_415 : decode cL_law 415 = .ok (.iload 4, 2) := by decide +kernel
theorem dL_law_417 : decode cL_law 417 = .ok (.iconst 1, 1) := by decide +kernel
theorem dL_law_418 : decode cL_law 418 = .ok (.iadd, 1) := by decide +kernel
theorem dL_law_419 : decode cL_law 419 = .ok (.iaload, 1) := by decide +kernel
theorem dL_law_420 : decode cL_law 420 = .ok (.invokevirtual 113, 3) := by decide +kernel
theorem dL_law_423 : decode cL_law 423 = .ok (.istore 6, 2) := by decide +kernel
theorem dL_law_425 : decode cL_law 425 = .ok (.aload_n 2, 1) := by decide +kernel
theorem dL_law_426 : decode cL_law 426 = .ok (.invokevirtual 97, 3) := by decide +kernel
theorem dL_law_429 : decode cL_law 429 = .ok (.iload 5, 2) := by decide +kernel
theorem dL_law_431 : decode cL_law 431 = .ok (.if_icmp .eq 5, 3) := by decide +kernel
theorem dL_law_434 : decode cL_law 434 = .ok (.iconst 0, 1) := by decide +kernel
theorem dL_law_435 : decode cL_law 435 = .ok (.ireturn, 1) := by decide +kernel
theorem dL_law_436 : decode cL_law 436 = .ok (.iload 5, 2) := by decide +kernel
theorem dL_law_438 : decode cL_law 438 = .ok (.ifCond .ne 15, 3) := by decide +kernel
theorem dL_law_441 : decode cL_law 441 = .ok (.aload_n 3, 1) := by decide +kernel
theorem dL_law_442 : decode cL_law 442 = .ok (.iconst 0, 1) := by decide +kernel
theorem dL_law_443 : decode cL_law 443 = .ok (.laload, 1) := by decide +kernel
theorem dL_law_444 : decode cL_law 444 = .ok (.iload 6, 2) := by decide +kernel
theorem dL_law_446 : decode cL_law 446 = .ok (.i2l, 1) := by decide +kernel
theorem dL_law_447 : decode cL_law 447 = .ok (.lcmp, 1) := by decide +kernel
theorem dL_law_448 : decode cL_law 448 = .ok (.ifCond .eq 5, 3) := by decide +kernel
theorem dL_law_451 : decode cL_law 451 = .ok (.iconst 0, 1) := by decide +kernel
theorem dL_law_452 : decode cL_law 452 = .ok (.ireturn, 1) := by decide +kernel
theorem dL_law_453 : decode cL_law 453 = .ok (.goto 1095, 3) := by decide +kernel
theorem dL_law_456 : decode cL_law 456 = .ok (.aload_n 1, 1) := by decide +kernel
theorem dL_law_457 : decode cL_law 457 = .ok (.aload_n 0, 1) := by decide +kernel
theorem dL_law_458 : decode cL_law 458 = .ok (.iload 4, 2) := by decide +kernel
theorem dL_law_460 : decode cL_law 460 = .ok (.iconst 1, 1) := by decide +kernel
theorem dL_law_461 : decode cL_law 461 = .ok (.iadd, 1) := by decide +kernel
theorem dL_law_462 : decode cL_law 462 = .ok (.iaload, 1) := by decide +kernel
theorem dL_law_463 : decode cL_law 463 = .ok (.aload_n 0, 1) := by decide +kernel
theorem dL_law_464 : decode cL_law 464 = .ok (.iload 4, 2) := by decide +kernel
theorem dL_law_466 : decode cL_law 466 = .ok (.iconst 2, 1) := by decide +kernel
theorem dL_law_467 : decode cL_law 467 = .ok (.iadd, 1) := by decide +kernel
theorem dL_law_468 : decode cL_law 468 = .ok (.iaload, 1) := by decide +kernel
theorem dL_law_469 : decode cL_law 469 = .ok (.aload_n 3, 1) := by decide +kernel
theorem dL_law_470 : decode cL_law 470 = .ok (.invokestatic 114, 3) := by decide +kernel
theorem dL_law_473 : decode cL_law 473 = .ok (.istore 5, 2) := by decide +kernel
theorem dL_law_475 : decode cL_law 475 = .ok (.aload_n 2, 1) := by decide +kernel
theorem dL_law_476 : decode cL_law 476 = .ok (.aload_n 0, 1) := by decide +kernel
theorem dL_law_477 : decode cL_law 477 = .ok (.iload 4, 2) := by decide +kernel
theorem dL_law_479 : decode cL_law 479 = .ok (.iconst 1, 1) := by decide +kernel
theorem dL_law_480 : decode cL_law 480 = .ok (.iadd, 1) := by decide +kernel
theorem dL_law_481 : decode cL_law 481 = .ok (.iaload, 1) := by decide +kernel
theorem dL_law_482 : decode cL_law 482 = .ok (.aload_n 0, 1) := by decide +kernel
theorem dL_law_483 : decode cL_law 483 = .ok (.iload 4, 2) := by decide +kernel
theorem dL_law_485 : decode cL_law 485 = .ok (.iconst 2, 1) := by decide +kernel
theorem dL_law_486 : decode cL_law 486 = .ok (.iadd, 1) := by decide +kernel
theorem dL_law_487 : decode cL_law 487 = .ok (.iaload, 1) := by decide +kernel
theorem dL_law_488 : decode cL_law 488 = .ok (.invokevirtual 116, 3) := by decide +kernel
theorem dL_law_491 : decode cL_law 491 = .ok (.istore 6, 2) := by decide +kernel
theorem dL_law_493 : decode cL_law 493 = .ok (.aload_n 2, 1) := by decide +kernel
theorem dL_law_494 : decode cL_law 494 = .ok (.invokevirtual 97, 3) := by decide +kernel
theorem dL_law_497 : decode cL_law 497 = .ok (.iload 5, 2) := by decide +kernel
theorem dL_law_499 : decode cL_law 499 = .ok (.if_icmp .eq 5, 3) := by decide +kernel
theorem dL_law_502 : decode cL_law 502 = .ok (.iconst 0, 1) := by decide +kernel
theorem dL_law_503 : decode cL_law 503 = .ok (.ireturn, 1) := by decide +kernel
theorem dL_law_504 : decode cL_law 504 = .ok (.iload 5, 2) := by decide +kernel
theorem dL_law_506 : decode cL_law 506 = .ok (.ifCond .ne 15, 3) := by decide +kernel
theorem dL_law_509 : decode cL_law 509 = .ok (.aload_n 3, 1) := by decide +kernel
theorem dL_law_510 : decode cL_law 510 = .ok (.iconst 0, 1) := by decide +kernel
theorem dL_law_511 : decode cL_law 511 = .ok (.laload, 1) := by decide +kernel
theorem dL_law_512 : decode cL_law 512 = .ok (.iload 6, 2) := by decide +kernel
theorem dL_law_514 : decode cL_law 514 = .ok (.i2l, 1) := by decide +kernel
theorem dL_law_515 : decode cL_law 515 = .ok (.lcmp, 1) := by decide +kernel
theorem dL_law_516 : decode cL_law 516 = .ok (.ifCond .eq 5, 3) := by decide +kernel
theorem dL_law_519 : decode cL_law 519 = .ok (.iconst 0, 1) := by decide +kernel
theorem dL_law_520 : decode cL_law 520 = .ok (.ireturn, 1) := by decide +kernel
theorem dL_law_521 : decode cL_law 521 = .ok (.goto 1027, 3) := by decide +kernel
theorem dL_law_524 : decode cL_law 524 = .ok (.aload_n 1, 1) := by decide +kernel
theorem dL_law_525 : decode cL_law 525 = .ok (.aload_n 0, 1) := by decide +kernel
theorem dL_law_526 : decode cL_law 526 = .ok (.iload 4, 2) := by decide +kernel
theorem dL_law_528 : decode cL_law 528 = .ok (.iconst 1, 1) := by decide +kernel
theorem dL_law_529 : decode cL_law 529 = .ok (.iadd, 1) := by decide +kernel
theorem dL_law_530 : decode cL_law 530 = .ok (.iaload, 1) := by decide +kernel
theorem dL_law_531 : decode cL_law 531 = .ok (.aload_n 3, 1) := by decide +kernel
theorem dL_law_532 : decode cL_law 532 = .ok (.invokestatic 117, 3) := by decide +kernel
theorem dL_law_535 : decode cL_law 535 = .ok (.istore 5, 2) := by decide +kernel
theorem dL_law_537 : decode cL_law 537 = .ok (.aload_n 2, 1) := by decide +kernel
theorem dL_law_538 : decode cL_law 538 = .ok (.aload_n 0, 1) := by decide +kernel
theorem dL_law_539 : decode cL_law 539 = .ok (.iload 4, 2) := by decide +kernel
theorem dL_law_541 : decode cL_law 541 = .ok (.iconst 1, 1) := by decide +kernel
theorem dL_law_542 : decode cL_law 542 = .ok (.iadd, 1) := by decide +kernel
theorem dL_law_543 : decode cL_law 543 = .ok (.iaload, 1) := by decide +kernel
theorem dL_law_544 : decode cL_law 544 = .ok (.invokevirtual 119, 3) := by decide +kernel
theorem dL_law_547 : decode cL_law 547 = .ok (.istore 6, 2) := by decide +kernel
theorem dL_law_549 : decode cL_law 549 = .ok (.aload_n 2, 1) := by decide +kernel
theorem dL_law_550 : decode cL_law 550 = .ok (.invokevirtual 97, 3) := by decide +kernel
theorem dL_law_553 : decode cL_law 553 = .ok (.iload 5, 2) := by decide +kernel
theorem dL_law_555 : decode cL_law 555 = .ok (.if_icmp .eq 5, 3) := by decide +kernel
theorem dL_law_558 : decode cL_law 558 = .ok (.iconst 0, 1) := by decide +kernel
theorem dL_law_559 : decode cL_law 559 = .ok (.ireturn, 1) := by decide +kernel
theorem dL_law_560 : decode cL_law 560 = .ok (.iload 5, 2) := by decide +kernel
theorem dL_law_562 : decode cL_law 562 = .ok (.ifCond .ne 15, 3) := by decide +kernel
theorem dL_law_565 : decode cL_law 565 = .ok (.aload_n 3, 1) := by decide +kernel
theorem dL_law_566 : decode cL_law 566 = .ok (.iconst 0, 1) := by decide +kernel
theorem dL_law_567 : decode cL_law 567 = .ok (.laload, 1) := by decide +kernel
theorem dL_law_568 : decode cL_law 568 = .ok (.iload 6, 2) := by decide +kernel
theorem dL_law_570 : decode cL_law 570 = .ok (.i2l, 1) := by decide +kernel
theorem dL_law_571 : decode cL_law 571 = .ok (.lcmp, 1) := by decide +kernel
theorem dL_law_572 : decode cL_law 572 = .ok (.ifCond .eq 5, 3) := by decide +kernel
theorem dL_law_575 : decode cL_law 575 = .ok (.iconst 0, 1) := by decide +kernel
theorem dL_law_576 : decode cL_law 576 = .ok (.ireturn, 1) := by decide +kernel
theorem dL_law_577 : decode cL_law 577 = .ok (.goto 971, 3) := by decide +kernel
theorem dL_law_580 : decode cL_law 580 = .ok (.aload_n 1, 1) := by decide +kernel
theorem dL_law_581 : decode cL_law 581 = .ok (.aload_n 0, 1) := by decide +kernel
theorem dL_law_582 : decode cL_law 582 = .ok (.iload 4, 2) := by decide +kernel
theorem dL_law_584 : decode cL_law 584 = .ok (.iconst 1, 1) := by decide +kernel
theorem dL_law_585 : decode cL_law 585 = .ok (.iadd, 1) := by decide +kernel
theorem dL_law_586 : decode cL_law 586 = .ok (.iaload, 1) := by decide +kernel
theorem dL_law_587 : decode cL_law 587 = .ok (.aload_n 3, 1) := by decide +kernel
theorem dL_law_588 : decode cL_law 588 = .ok (.invokestatic 120, 3) := by decide +kernel
theorem dL_law_591 : decode cL_law 591 = .ok (.istore 5, 2) := by decide +kernel
theorem dL_law_593 : decode cL_law 593 = .ok (.aload_n 2, 1) := by decide +kernel
theorem dL_law_594 : decode cL_law 594 = .ok (.aload_n 0, 1) := by decide +kernel
theorem dL_law_595 : decode cL_law 595 = .ok (.iload 4, 2) := by decide +kernel
theorem dL_law_597 : decode cL_law 597 = .ok (.iconst 1, 1) := by decide +kernel
theorem dL_law_598 : decode cL_law 598 = .ok (.iadd, 1) := by decide +kernel
theorem dL_law_599 : decode cL_law 599 = .ok (.iaload, 1) := by decide +kernel
theorem dL_law_600 : decode cL_law 600 = .ok (.invokevirtual 122, 3) := by decide +kernel
theorem dL_law_603 : decode cL_law 603 = .ok (.istore 6, 2) := by decide +kernel
theorem dL_law_605 : decode cL_law 605 = .ok (.aload_n 2, 1) := by decide +kernel
theorem dL_law_606 : decode cL_law 606 = .ok (.invokevirtual 97, 3) := by decide +kernel
theorem dL_law_609 : decode cL_law 609 = .ok (.iload 5, 2) := by decide +kernel
theorem dL_law_611 : decode cL_law 611 = .ok (.if_icmp .eq 5, 3) := by decide +kernel
theorem dL_law_614 : decode cL_law 614 = .ok (.iconst 0, 1) := by decide +kernel
theorem dL_law_615 : decode cL_law 615 = .ok (.ireturn, 1) := by decide +kernel
theorem dL_law_616 : decode cL_law 616 = .ok (.iload 5, 2) := by decide +kernel
theorem dL_law_618 : decode cL_law 618 = .ok (.ifCond .ne 15, 3) := by decide +kernel
theorem dL_law_621 : decode cL_law 621 = .ok (.aload_n 3, 1) := by decide +kernel
theorem dL_law_622 : decode cL_law 622 = .ok (.iconst 0, 1) := by decide +kernel
theorem dL_law_623 : decode cL_law 623 = .ok (.laload, 1) := by decide +kernel
theorem dL_law_624 : decode cL_law 624 = .ok (.iload 6, 2) := by decide +kernel
theorem dL_law_626 : decode cL_law 626 = .ok (.i2l, 1) := by decide +kernel
theorem dL_law_627 : decode cL_law 627 = .ok (.lcmp, 1) := by decide +kernel
theorem dL_law_628 : decode cL_law 628 = .ok (.ifCond .eq 5, 3) := by decide +kernel
theorem dL_law_631 : decode cL_law 631 = .ok (.iconst 0, 1) := by decide +kernel
theorem dL_law_632 : decode cL_law 632 = .ok (.ireturn, 1) := by decide +kernel
theorem dL_law_633 : decode cL_law 633 = .ok (.goto 915, 3) := by decide +kernel
theorem dL_law_636 : decode cL_law 636 = .ok (.aload_n 1, 1) := by decide +kernel
theorem dL_law_637 : decode cL_law 637 = .ok (.invokevirtual 123, 3) := by decide +kernel
theorem dL_law_640 : decode cL_law 640 = .ok (.aload_n 2, 1) := by decide +kernel
theorem dL_law_641 : decode cL_law 641 = .ok (.invokevirtual 126, 3) := by decide +kernel
theorem dL_law_644 : decode cL_law 644 = .ok (.if_icmp .eq 904, 3) := by decide +kernel
theorem dL_law_647 : decode cL_law 647 = .ok (.iconst 0, 1) := by decide +kernel
theorem dL_law_648 : decode cL_law 648 = .ok (.ireturn, 1) := by decide +kernel
theorem dL_law_649 : decode cL_law 649 = .ok (.aload_n 1, 1) := by decide +kernel
theorem dL_law_650 : decode cL_law 650 = .ok (.aload_n 0, 1) := by decide +kernel
theorem dL_law_651 : decode cL_law 651 = .ok (.iload 4, 2) := by decide +kernel
theorem dL_law_653 : decode cL_law 653 = .ok (.iconst 1, 1) := by decide +kernel
theorem dL_law_654 : decode cL_law 654 = .ok (.iadd, 1) := by decide +kernel
theorem dL_law_655 : decode cL_law 655 = .ok (.iaload, 1) := by decide +kernel
theorem dL_law_656 : decode cL_law 656 = .ok (.aload_n 3, 1) := by decide +kernel
theorem dL_law_657 : decode cL_law 657 = .ok (.invokestatic 127, 3) := by decide +kernel
theorem dL_law_660 : decode cL_law 660 = .ok (.istore 5, 2) := by decide +kernel
theorem dL_law_662 : decode cL_law 662 = .ok (.aload_n 2, 1) := by decide +kernel
theorem dL_law_663 : decode cL_law 663 = .ok (.aload_n 0, 1) := by decide +kernel
theorem dL_law_664 : decode cL_law 664 = .ok (.iload 4, 2) := by decide +kernel
theorem dL_law_666 : decode cL_law 666 = .ok (.iconst 1, 1) := by decide +kernel
theorem dL_law_667 : decode cL_law 667 = .ok (.iadd, 1) := by decide +kernel
theorem dL_law_668 : decode cL_law 668 = .ok (.iaload, 1) := by decide +kernel
theorem dL_law_669 : decode cL_law 669 = .ok (.invokevirtual 129, 3) := by decide +kernel
theorem dL_law_672 : decode cL_law 672 = .ok (.istore 6, 2) := by decide +kernel
theorem dL_law_674 : decode cL_law 674 = .ok (.aload_n 2, 1) := by decide +kernel
theorem dL_law_675 : decode cL_law 675 = .ok (.invokevirtual 97, 3) := by decide +kernel
theorem dL_law_678 : decode cL_law 678 = .ok (.iload 5, 2) := by decide +kernel
theorem dL_law_680 : decode cL_law 680 = .ok (.if_icmp .eq 5, 3) := by decide +kernel
theorem dL_law_683 : decode cL_law 683 = .ok (.iconst 0, 1) := by decide +kernel
theorem dL_law_684 : decode cL_law 684 = .ok (.ireturn, 1) := by decide +kernel
theorem dL_law_685 : decode cL_law 685 = .ok (.iload 5, 2) := by decide +kernel
theorem dL_law_687 : decode cL_law 687 = .ok (.ifCond .ne 15, 3) := by decide +kernel
theorem dL_law_690 : decode cL_law 690 = .ok (.aload_n 3, 1) := by decide +kernel
theorem dL_law_691 : decode cL_law 691 = .ok (.iconst 0, 1) := by decide +kernel
theorem dL_law_692 : decode cL_law 692 = .ok (.laload, 1) := by decide +kernel
theorem dL_law_693 : decode cL_law 693 = .ok (.iload 6, 2) := by decide +kernel
theorem dL_law_695 : decode cL_law 695 = .ok (.i2l, 1) := by decide +kernel
theorem dL_law_696 : decode cL_law 696 = .ok (.lcmp, 1) := by decide +kernel
theorem dL_law_697 : decode cL_law 697 = .ok (.ifCond .eq 5, 3) := by decide +kernel
theorem dL_law_700 : decode cL_law 700 = .ok (.iconst 0, 1) := by decide +kernel
theorem dL_law_701 : decode cL_law 701 = .ok (.ireturn, 1) := by decide +kernel
theorem dL_law_702 : decode cL_law 702 = .ok (.goto 846, 3) := by decide +kernel
theorem dL_law_705 : decode cL_law 705 = .ok (.aload_n 1, 1) := by decide +kernel
theorem dL_law_706 : decode cL_law 706 = .ok (.aload_n 0, 1) := by decide +kernel
theorem dL_law_707 : decode cL_law 707 = .ok (.iload 4, 2) := by decide +kernel
theorem dL_law_709 : decode cL_law 709 = .ok (.iconst 1, 1) := by decide +kernel
theorem dL_law_710 : decode cL_law 710 = .ok (.iadd, 1) := by decide +kernel
theorem dL_law_711 : decode cL_law 711 = .ok (.iaload, 1) := by decide +kernel
theorem dL_law_712 : decode cL_law 712 = .ok (.aload_n 3, 1) := by decide +kernel
theorem dL_law_713 : decode cL_law 713 = .ok (.invokestatic 130, 3) := by decide +kernel
theorem dL_law_716 : decode cL_law 716 = .ok (.istore 5, 2) := by decide +kernel
theorem dL_law_718 : decode cL_law 718 = .ok (.aload_n 2, 1) := by decide +kernel
theorem dL_law_719 : decode cL_law 719 = .ok (.aload_n 0, 1) := by decide +kernel
theorem dL_law_720 : decode cL_law 720 = .ok (.iload 4, 2) := by decide +kernel
theorem dL_law_722 : decode cL_law 722 = .ok (.iconst 1, 1) := by decide +kernel
theorem dL_law_723 : decode cL_law 723 = .ok (.iadd, 1) := by decide +kernel
theorem dL_law_724 : decode cL_law 724 = .ok (.iaload, 1) := by decide +kernel
theorem dL_law_725 : decode cL_law 725 = .ok (.invokevirtual 132, 3) := by decide +kernel
theorem dL_law_728 : decode cL_law 728 = .ok (.istore 6, 2) := by decide +kernel
theorem dL_law_730 : decode cL_law 730 = .ok (.aload_n 2, 1) := by decide +kernel
theorem dL_law_731 : decode cL_law 731 = .ok (.invokevirtual 97, 3) := by decide +kernel
theorem dL_law_734 : decode cL_law 734 = .ok (.iload 5, 2) := by decide +kernel
theorem dL_law_736 : decode cL_law 736 = .ok (.if_icmp .eq 5, 3) := by decide +kernel
theorem dL_law_739 : decode cL_law 739 = .ok (.iconst 0, 1) := by decide +kernel
theorem dL_law_740 : decode cL_law 740 = .ok (.ireturn, 1) := by decide +kernel
theorem dL_law_741 : decode cL_law 741 = .ok (.iload 5, 2) := by decide +kernel
theorem dL_law_743 : decode cL_law 743 = .ok (.ifCond .ne 15, 3) := by decide +kernel
theorem dL_law_746 : decode cL_law 746 = .ok (.aload_n 3, 1) := by decide +kernel
theorem dL_law_747 : decode cL_law 747 = .ok (.iconst 0, 1) := by decide +kernel
theorem dL_law_748 : decode cL_law 748 = .ok (.laload, 1) := by decide +kernel
theorem dL_law_749 : decode cL_law 749 = .ok (.iload 6, 2) := by decide +kernel
theorem dL_law_751 : decode cL_law 751 = .ok (.i2l, 1) := by decide +kernel
theorem dL_law_752 : decode cL_law 752 = .ok (.lcmp, 1) := by decide +kernel
theorem dL_law_753 : decode cL_law 753 = .ok (.ifCond .eq 5, 3) := by decide +kernel
theorem dL_law_756 : decode cL_law 756 = .ok (.iconst 0, 1) := by decide +kernel
theorem dL_law_757 : decode cL_law 757 = .ok (.ireturn, 1) := by decide +kernel
theorem dL_law_758 : decode cL_law 758 = .ok (.goto 790, 3) := by decide +kernel
theorem dL_law_761 : decode cL_law 761 = .ok (.aload_n 1, 1) := by decide +kernel
theorem dL_law_762 : decode cL_law 762 = .ok (.aload_n 0, 1) := by decide +kernel
theorem dL_law_763 : decode cL_law 763 = .ok (.iload 4, 2) := by decide +kernel
theorem dL_law_765 : decode cL_law 765 = .ok (.iconst 1, 1) := by decide +kernel
theorem dL_law_766 : decode cL_law 766 = .ok (.iadd, 1) := by decide +kernel
theorem dL_law_767 : decode cL_law 767 = .ok (.iaload, 1) := by decide +kernel
theorem dL_law_768 : decode cL_law 768 = .ok (.aload_n 3, 1) := by decide +kernel
theorem dL_law_769 : decode cL_law 769 = .ok (.invokestatic 133, 3) := by decide +kernel
theorem dL_law_772 : decode cL_law 772 = .ok (.istore 5, 2) := by decide +kernel
theorem dL_law_774 : decode cL_law 774 = .ok (.aload_n 2, 1) := by decide +kernel
theorem dL_law_775 : decode cL_law 775 = .ok (.aload_n 0, 1) := by decide +kernel
theorem dL_law_776 : decode cL_law 776 = .ok (.iload 4, 2) := by decide +kernel
theorem dL_law_778 : decode cL_law 778 = .ok (.iconst 1, 1) := by decide +kernel
theorem dL_law_779 : decode cL_law 779 = .ok (.iadd, 1) := by decide +kernel
theorem dL_law_780 : decode cL_law 780 = .ok (.iaload, 1) := by decide +kernel
theorem dL_law_781 : decode cL_law 781 = .ok (.invokevirtual 135, 3) := by decide +kernel
theorem dL_law_784 : decode cL_law 784 = .ok (.istore 6, 2) := by decide +kernel
theorem dL_law_786 : decode cL_law 786 = .ok (.aload_n 2, 1) := by decide +kernel
theorem dL_law_787 : decode cL_law 787 = .ok (.invokevirtual 97, 3) := by decide +kernel
theorem dL_law_790 : decode cL_law 790 = .ok (.iload 5, 2) := by decide +kernel
theorem dL_law_792 : decode cL_law 792 = .ok (.if_icmp .eq 5, 3) := by decide +kernel
theorem dL_law_795 : decode cL_law 795 = .ok (.iconst 0, 1) := by decide +kernel
theorem dL_law_796 : decode cL_law 796 = .ok (.ireturn, 1) := by decide +kernel
theorem dL_law_797 : decode cL_law 797 = .ok (.iload 5, 2) := by decide +kernel
theorem dL_law_799 : decode cL_law 799 = .ok (.ifCond .ne 15, 3) := by decide +kernel
theorem dL_law_802 : decode cL_law 802 = .ok (.aload_n 3, 1) := by decide +kernel
theorem dL_law_803 : decode cL_law 803 = .ok (.iconst 0, 1) := by decide +kernel
theorem dL_law_804 : decode cL_law 804 = .ok (.laload, 1) := by decide +kernel
theorem dL_law_805 : decode cL_law 805 = .ok (.iload 6, 2) := by decide +kernel
theorem dL_law_807 : decode cL_law 807 = .ok (.i2l, 1) := by decide +kernel
theorem dL_law_808 : decode cL_law 808 = .ok (.lcmp, 1) := by decide +kernel
theorem dL_law_809 : decode cL_law 809 = .ok (.ifCond .eq 5, 3) := by decide +kernel
theorem dL_law_812 : decode cL_law 812 = .ok (.iconst 0, 1) := by decide +kernel
theorem dL_law_813 : decode cL_law 813 = .ok (.ireturn, 1) := by decide +kernel
theorem dL_law_814 : decode cL_law 814 = .ok (.goto 734, 3) := by decide +kernel
theorem dL_law_817 : decode cL_law 817 = .ok (.aload_n 1, 1) := by decide +kernel
theorem dL_law_818 : decode cL_law 818 = .ok (.aload_n 0, 1) := by decide +kernel
theorem dL_law_819 : decode cL_law 819 = .ok (.iload 4, 2) := by decide +kernel
theorem dL_law_821 : decode cL_law 821 = .ok (.iconst 1, 1) := by decide +kernel
theorem dL_law_822 : decode cL_law 822 = .ok (.iadd, 1) := by decide +kernel
theorem dL_law_823 : decode cL_law 823 = .ok (.iaload, 1) := by decide +kernel
theorem dL_law_824 : decode cL_law 824 = .ok (.aload_n 3, 1) := by decide +kernel
theorem dL_law_825 : decode cL_law 825 = .ok (.invokestatic 136, 3) := by decide +kernel
theorem dL_law_828 : decode cL_law 828 = .ok (.istore 5, 2) := by decide +kernel
theorem dL_law_830 : decode cL_law 830 = .ok (.aload_n 2, 1) := by decide +kernel
theorem dL_law_831 : decode cL_law 831 = .ok (.aload_n 0, 1) := by decide +kernel
theorem dL_law_832 : decode cL_law 832 = .ok (.iload 4, 2) := by decide +kernel
theorem dL_law_834 : decode cL_law 834 = .ok (.iconst 1, 1) := by decide +kernel
theorem dL_law_835 : decode cL_law 835 = .ok (.iadd, 1) := by decide +kernel
theorem dL_law_836 : decode cL_law 836 = .ok (.iaload, 1) := by decide +kernel
theorem dL_law_837 : decode cL_law 837 = .ok (.invokevirtual 138, 3) := by decide +kernel
theorem dL_law_840 : decode cL_law 840 = .ok (.istore 6, 2) := by decide +kernel
theorem dL_law_842 : decode cL_law 842 = .ok (.aload_n 2, 1) := by decide +kernel
theorem dL_law_843 : decode cL_law 843 = .ok (.invokevirtual 97, 3) := by decide +kernel
theorem dL_law_846 : decode cL_law 846 = .ok (.iload 5, 2) := by decide +kernel
theorem dL_law_848 : decode cL_law 848 = .ok (.if_icmp .eq 5, 3) := by decide +kernel
theorem dL_law_851 : decode cL_law 851 = .ok (.iconst 0, 1) := by decide +kernel
theorem dL_law_852 : decode cL_law 852 = .ok (.ireturn, 1) := by decide +kernel
theorem dL_law_853 : decode cL_law 853 = .ok (.iload 5, 2) := by decide +kernel
theorem dL_law_855 : decode cL_law 855 = .ok (.ifCond .ne 15, 3) := by decide +kernel
theorem dL_law_858 : decode cL_law 858 = .ok (.aload_n 3, 1) := by decide +kernel
theorem dL_law_859 : decode cL_law 859 = .ok (.iconst 0, 1) := by decide +kernel
theorem dL_law_860 : decode cL_law 860 = .ok (.laload, 1) := by decide +kernel
theorem dL_law_861 : decode cL_law 861 = .ok (.iload 6, 2) := by decide +kernel
theorem dL_law_863 : decode cL_law 863 = .ok (.i2l, 1) := by decide +kernel
theorem dL_law_864 : decode cL_law 864 = .ok (.lcmp, 1) := by decide +kernel
theorem dL_law_865 : decode cL_law 865 = .ok (.ifCond .eq 5, 3) := by decide +kernel
theorem dL_law_868 : decode cL_law 868 = .ok (.iconst 0, 1) := by decide +kernel
theorem dL_law_869 : decode cL_law 869 = .ok (.ireturn, 1) := by decide +kernel
theorem dL_law_870 : decode cL_law 870 = .ok (.goto 678, 3) := by decide +kernel
theorem dL_law_873 : decode cL_law 873 = .ok (.aload_n 1, 1) := by decide +kernel
theorem dL_law_874 : decode cL_law 874 = .ok (.aload_n 0, 1) := by decide +kernel
theorem dL_law_875 : decode cL_law 875 = .ok (.iload 4, 2) := by decide +kernel
theorem dL_law_877 : decode cL_law 877 = .ok (.iconst 1, 1) := by decide +kernel
theorem dL_law_878 : decode cL_law 878 = .ok (.iadd, 1) := by decide +kernel
theorem dL_law_879 : decode cL_law 879 = .ok (.iaload, 1) := by decide +kernel
theorem dL_law_880 : decode cL_law 880 = .ok (.aload_n 3, 1) := by decide +kernel
theorem dL_law_881 : decode cL_law 881 = .ok (.invokestatic 139, 3) := by decide +kernel
theorem dL_law_884 : decode cL_law 884 = .ok (.istore 5, 2) := by decide +kernel
theorem dL_law_886 : decode cL_law 886 = .ok (.aload_n 2, 1) := by decide +kernel
theorem dL_law_887 : decode cL_law 887 = .ok (.aload_n 0, 1) := by decide +kernel
theorem dL_law_888 : decode cL_law 888 = .ok (.iload 4, 2) := by decide +kernel
theorem dL_law_890 : decode cL_law 890 = .ok (.iconst 1, 1) := by decide +kernel
theorem dL_law_891 : decode cL_law 891 = .ok (.iadd, 1) := by decide +kernel
theorem dL_law_892 : decode cL_law 892 = .ok (.iaload, 1) := by decide +kernel
theorem dL_law_893 : decode cL_law 893 = .ok (.invokevirtual 141, 3) := by decide +kernel
theorem dL_law_896 : decode cL_law 896 = .ok (.istore 6, 2) := by decide +kernel
theorem dL_law_898 : decode cL_law 898 = .ok (.aload_n 2, 1) := by decide +kernel
theorem dL_law_899 : decode cL_law 899 = .ok (.invokevirtual 97, 3) := by decide +kernel
theorem dL_law_902 : decode cL_law 902 = .ok (.iload 5, 2) := by decide +kernel
theorem dL_law_904 : decode cL_law 904 = .ok (.if_icmp .eq 5, 3) := by decide +kernel
theorem dL_law_907 : decode cL_law 907 = .ok (.iconst 0, 1) := by decide +kernel
theorem dL_law_908 : decode cL_law 908 = .ok (.ireturn, 1) := by decide +kernel
theorem dL_law_909 : decode cL_law 909 = .ok (.iload 5, 2) := by decide +kernel
theorem dL_law_911 : decode cL_law 911 = .ok (.ifCond .ne 15, 3) := by decide +kernel
theorem dL_law_914 : decode cL_law 914 = .ok (.aload_n 3, 1) := by decide +kernel
theorem dL_law_915 : decode cL_law 915 = .ok (.iconst 0, 1) := by decide +kernel
theorem dL_law_916 : decode cL_law 916 = .ok (.laload, 1) := by decide +kernel
theorem dL_law_917 : decode cL_law 917 = .ok (.iload 6, 2) := by decide +kernel
theorem dL_law_919 : decode cL_law 919 = .ok (.i2l, 1) := by decide +kernel
theorem dL_law_920 : decode cL_law 920 = .ok (.lcmp, 1) := by decide +kernel
theorem dL_law_921 : decode cL_law 921 = .ok (.ifCond .eq 5, 3) := by decide +kernel
theorem dL_law_924 : decode cL_law 924 = .ok (.iconst 0, 1) := by decide +kernel
theorem dL_law_925 : decode cL_law 925 = .ok (.ireturn, 1) := by decide +kernel
theorem dL_law_926 : decode cL_law 926 = .ok (.goto 622, 3) := by decide +kernel
theorem dL_law_929 : decode cL_law 929 = .ok (.aload_n 1, 1) := by decide +kernel
theorem dL_law_930 : decode cL_law 930 = .ok (.invokevirtual 142, 3) := by decide +kernel
theorem dL_law_933 : decode cL_law 933 = .ok (.aload_n 2, 1) := by decide +kernel
theorem dL_law_934 : decode cL_law 934 = .ok (.invokevirtual 145, 3) := by decide +kernel
theorem dL_law_937 : decode cL_law 937 = .ok (.if_icmp .eq 611, 3) := by decide +kernel
theorem dL_law_940 : decode cL_law 940 = .ok (.iconst 0, 1) := by decide +kernel
theorem dL_law_941 : decode cL_law 941 = .ok (.ireturn, 1) := by decide +kernel
theorem dL_law_942 : decode cL_law 942 = .ok (.aload_n 1, 1) := by decide +kernel
theorem dL_law_943 : decode cL_law 943 = .ok (.aload_n 0, 1) := by decide +kernel
theorem dL_law_944 : decode cL_law 944 = .ok (.iload 4, 2) := by decide +kernel
theorem dL_law_946 : decode cL_law 946 = .ok (.iconst 1, 1) := by decide +kernel
theorem dL_law_947 : decode cL_law 947 = .ok (.iadd, 1) := by decide +kernel
theorem dL_law_948 : decode cL_law 948 = .ok (.iaload, 1) := by decide +kernel
theorem dL_law_949 : decode cL_law 949 = .ok (.aload_n 3, 1) := by decide +kernel
theorem dL_law_950 : decode cL_law 950 = .ok (.invokestatic 146, 3) := by decide +kernel
theorem dL_law_953 : decode cL_law 953 = .ok (.istore 5, 2) := by decide +kernel
theorem dL_law_955 : decode cL_law 955 = .ok (.aload_n 2, 1) := by decide +kernel
theorem dL_law_956 : decode cL_law 956 = .ok (.aload_n 0, 1) := by decide +kernel
theorem dL_law_957 : decode cL_law 957 = .ok (.iload 4, 2) := by decide +kernel
theorem dL_law_959 : decode cL_law 959 = .ok (.iconst 1, 1) := by decide +kernel
theorem dL_law_960 : decode cL_law 960 = .ok (.iadd, 1) := by decide +kernel
theorem dL_law_961 : decode cL_law 961 = .ok (.iaload, 1) := by decide +kernel
theorem dL_law_962 : decode cL_law 962 = .ok (.invokevirtual 148, 3) := by decide +kernel
theorem dL_law_965 : decode cL_law 965 = .ok (.istore 6, 2) := by decide +kernel
theorem dL_law_967 : decode cL_law 967 = .ok (.aload_n 2, 1) := by decide +kernel
theorem dL_law_968 : decode cL_law 968 = .ok (.invokevirtual 97, 3) := by decide +kernel
theorem dL_law_971 : decode cL_law 971 = .ok (.iload 5, 2) := by decide +kernel
theorem dL_law_973 : decode cL_law 973 = .ok (.if_icmp .eq 5, 3) := by decide +kernel
theorem dL_law_976 : decode cL_law 976 = .ok (.iconst 0, 1) := by decide +kernel
theorem dL_law_977 : decode cL_law 977 = .ok (.ireturn, 1) := by decide +kernel
theorem dL_law_978 : decode cL_law 978 = .ok (.iload 5, 2) := by decide +kernel
theorem dL_law_980 : decode cL_law 980 = .ok (.ifCond .ne 15, 3) := by decide +kernel
theorem dL_law_983 : decode cL_law 983 = .ok (.aload_n 3, 1) := by decide +kernel
theorem dL_law_984 : decode cL_law 984 = .ok (.iconst 0, 1) := by decide +kernel
theorem dL_law_985 : decode cL_law 985 = .ok (.laload, 1) := by decide +kernel
theorem dL_law_986 : decode cL_law 986 = .ok (.iload 6, 2) := by decide +kernel
theorem dL_law_988 : decode cL_law 988 = .ok (.i2l, 1) := by decide +kernel
theorem dL_law_989 : decode cL_law 989 = .ok (.lcmp, 1) := by decide +kernel
theorem dL_law_990 : decode cL_law 990 = .ok (.ifCond .eq 5, 3) := by decide +kernel
theorem dL_law_993 : decode cL_law 993 = .ok (.iconst 0, 1) := by decide +kernel
theorem dL_law_994 : decode cL_law 994 = .ok (.ireturn, 1) := by decide +kernel
theorem dL_law_995 : decode cL_law 995 = .ok (.goto 553, 3) := by decide +kernel
theorem dL_law_998 : decode cL_law 998 = .ok (.aload_n 1, 1) := by decide +kernel
theorem dL_law_999 : decode cL_law 999 = .ok (.aload_n 0, 1) := by decide +kernel
theorem dL_law_1000 : decode cL_law 1000 = .ok (.iload 4, 2) := by decide +kernel
theorem dL_law_1002 : decode cL_law 1002 = .ok (.iconst 1, 1) := by decide +kernel
theorem dL_law_1003 : decode cL_law 1003 = .ok (.iadd, 1) := by decide +kernel
theorem dL_law_1004 : decode cL_law 1004 = .ok (.iaload, 1) := by decide +kernel
theorem dL_law_1005 : decode cL_law 1005 = .ok (.aload_n 3, 1) := by decide +kernel
theorem dL_law_1006 : decode cL_law 1006 = .ok (.invokestatic 149, 3) := by decide +kernel
theorem dL_law_1009 : decode cL_law 1009 = .ok (.istore 5, 2) := by decide +kernel
theorem dL_law_1011 : decode cL_law 1011 = .ok (.aload_n 2, 1) := by decide +kernel
theorem dL_law_1012 : decode cL_law 1012 = .ok (.aload_n 0, 1) := by decide +kernel
theorem dL_law_1013 : decode cL_law 1013 = .ok (.iload 4, 2) := by decide +kernel
theorem dL_law_1015 : decode cL_law 1015 = .ok (.iconst 1, 1) := by decide +kernel
theorem dL_law_1016 : decode cL_law 1016 = .ok (.iadd, 1) := by decide +kernel
theorem dL_law_1017 : decode cL_law 1017 = .ok (.iaload, 1) := by decide +kernel
theorem dL_law_1018 : decode cL_law 1018 = .ok (.invokevirtual 151, 3) := by decide +kernel
theorem dL_law_1021 : decode cL_law 1021 = .ok (.istore 6, 2) := by decide +kernel
theorem dL_law_1023 : decode cL_law 1023 = .ok (.aload_n 2, 1) := by decide +kernel
theorem dL_law_1024 : decode cL_law 1024 = .ok (.invokevirtual 97, 3) := by decide +kernel
theorem dL_law_1027 : decode cL_law 1027 = .ok (.iload 5, 2) := by decide +kernel
theorem dL_law_1029 : decode cL_law 1029 = .ok (.if_icmp .eq 5, 3) := by decide +kernel
theorem dL_law_1032 : decode cL_law 1032 = .ok (.iconst 0, 1) := by decide +kernel
theorem dL_law_1033 : decode cL_law 1033 = .ok (.ireturn, 1) := by decide +kernel
theorem dL_law_1034 : decode cL_law 1034 = .ok (.iload 5, 2) := by decide +kernel
theorem dL_law_1036 : decode cL_law 1036 = .ok (.ifCond .ne 15, 3) := by decide +kernel
theorem dL_law_1039 : decode cL_law 1039 = .ok (.aload_n 3, 1) := by decide +kernel
theorem dL_law_1040 : decode cL_law 1040 = .ok (.iconst 0, 1) := by decide +kernel
theorem dL_law_1041 : decode cL_law 1041 = .ok (.laload, 1) := by decide +kernel
theorem dL_law_1042 : decode cL_law 1042 = .ok (.iload 6, 2) := by decide +kernel
theorem dL_law_1044 : decode cL_law 1044 = .ok (.i2l, 1) := by decide +kernel
theorem dL_law_1045 : decode cL_law 1045 = .ok (.lcmp, 1) := by decide +kernel
theorem dL_law_1046 : decode cL_law 1046 = .ok (.ifCond .eq 5, 3) := by decide +kernel
theorem dL_law_1049 : decode cL_law 1049 = .ok (.iconst 0, 1) := by decide +kernel
theorem dL_law_1050 : decode cL_law 1050 = .ok (.ireturn, 1) := by decide +kernel
theorem dL_law_1051 : decode cL_law 1051 = .ok (.goto 497, 3) := by decide +kernel
theorem dL_law_1054 : decode cL_law 1054 = .ok (.aload_n 1, 1) := by decide +kernel
theorem dL_law_1055 : decode cL_law 1055 = .ok (.aload_n 0, 1) := by decide +kernel
theorem dL_law_1056 : decode cL_law 1056 = .ok (.iload 4, 2) := by decide +kernel
theorem dL_law_1058 : decode cL_law 1058 = .ok (.iconst 1, 1) := by decide +kernel
theorem dL_law_1059 : decode cL_law 1059 = .ok (.iadd, 1) := by decide +kernel
theorem dL_law_1060 : decode cL_law 1060 = .ok (.iaload, 1) := by decide +kernel
theorem dL_law_1061 : decode cL_law 1061 = .ok (.aload_n 3, 1) := by decide +kernel
theorem dL_law_1062 : decode cL_law 1062 = .ok (.invokestatic 152, 3) := by decide +kernel
theorem dL_law_1065 : decode cL_law 1065 = .ok (.istore 5, 2) := by decide +kernel
theorem dL_law_1067 : decode cL_law 1067 = .ok (.aload_n 2, 1) := by decide +kernel
theorem dL_law_1068 : decode cL_law 1068 = .ok (.aload_n 0, 1) := by decide +kernel
theorem dL_law_1069 : decode cL_law 1069 = .ok (.iload 4, 2) := by decide +kernel
theorem dL_law_1071 : decode cL_law 1071 = .ok (.iconst 1, 1) := by decide +kernel
theorem dL_law_1072 : decode cL_law 1072 = .ok (.iadd, 1) := by decide +kernel
theorem dL_law_1073 : decode cL_law 1073 = .ok (.iaload, 1) := by decide +kernel
theorem dL_law_1074 : decode cL_law 1074 = .ok (.invokevirtual 154, 3) := by decide +kernel
theorem dL_law_1077 : decode cL_law 1077 = .ok (.istore 6, 2) := by decide +kernel
theorem dL_law_1079 : decode cL_law 1079 = .ok (.aload_n 2, 1) := by decide +kernel
theorem dL_law_1080 : decode cL_law 1080 = .ok (.invokevirtual 97, 3) := by decide +kernel
theorem dL_law_1083 : decode cL_law 1083 = .ok (.iload 5, 2) := by decide +kernel
theorem dL_law_1085 : decode cL_law 1085 = .ok (.if_icmp .eq 5, 3) := by decide +kernel
theorem dL_law_1088 : decode cL_law 1088 = .ok (.iconst 0, 1) := by decide +kernel
theorem dL_law_1089 : decode cL_law 1089 = .ok (.ireturn, 1) := by decide +kernel
theorem dL_law_1090 : decode cL_law 1090 = .ok (.iload 5, 2) := by decide +kernel
theorem dL_law_1092 : decode cL_law 1092 = .ok (.ifCond .ne 15, 3) := by decide +kernel
theorem dL_law_1095 : decode cL_law 1095 = .ok (.aload_n 3, 1) := by decide +kernel
theorem dL_law_1096 : decode cL_law 1096 = .ok (.iconst 0, 1) := by decide +kernel
theorem dL_law_1097 : decode cL_law 1097 = .ok (.laload, 1) := by decide +kernel
theorem dL_law_1098 : decode cL_law 1098 = .ok (.iload 6, 2) := by decide +kernel
theorem dL_law_1100 : decode cL_law 1100 = .ok (.i2l, 1) := by decide +kernel
theorem dL_law_1101 : decode cL_law 1101 = .ok (.lcmp, 1) := by decide +kernel
theorem dL_law_1102 : decode cL_law 1102 = .ok (.ifCond .eq 5, 3) := by decide +kernel
theorem dL_law_1105 : decode cL_law 1105 = .ok (.iconst 0, 1) := by decide +kernel
theorem dL_law_1106 : decode cL_law 1106 = .ok (.ireturn, 1) := by decide +kernel
theorem dL_law_1107 : decode cL_law 1107 = .ok (.goto 441, 3) := by decide +kernel
theorem dL_law_1110 : decode cL_law 1110 = .ok (.aload_n 1, 1) := by decide +kernel
theorem dL_law_1111 : decode cL_law 1111 = .ok (.aload_n 0, 1) := by decide +kernel
theorem dL_law_1112 : decode cL_law 1112 = .ok (.iload 4, 2) := by decide +kernel
theorem dL_law_1114 : decode cL_law 1114 = .ok (.iconst 1, 1) := by decide +kernel
theorem dL_law_1115 : decode cL_law 1115 = .ok (.iadd, 1) := by decide +kernel
theorem dL_law_1116 : decode cL_law 1116 = .ok (.iaload, 1) := by decide +kernel
theorem dL_law_1117 : decode cL_law 1117 = .ok (.aload_n 3, 1) := by decide +kernel
theorem dL_law_1118 : decode cL_law 1118 = .ok (.invokestatic 155, 3) := by decide +kernel
theorem dL_law_1121 : decode cL_law 1121 = .ok (.istore 5, 2) := by decide +kernel
theorem dL_law_1123 : decode cL_law 1123 = .ok (.aload_n 2, 1) := by decide +kernel
theorem dL_law_1124 : decode cL_law 1124 = .ok (.aload_n 0, 1) := by decide +kernel
theorem dL_law_1125 : decode cL_law 1125 = .ok (.iload 4, 2) := by decide +kernel
theorem dL_law_1127 : decode cL_law 1127 = .ok (.iconst 1, 1) := by decide +kernel
theorem dL_law_1128 : decode cL_law 1128 = .ok (.iadd, 1) := by decide +kernel
theorem dL_law_1129 : decode cL_law 1129 = .ok (.iaload, 1) := by decide +kernel
theorem dL_law_1130 : decode cL_law 1130 = .ok (.invokevirtual 157, 3) := by decide +kernel
theorem dL_law_1133 : decode cL_law 1133 = .ok (.istore 6, 2) := by decide +kernel
theorem dL_law_1135 : decode cL_law 1135 = .ok (.aload_n 2, 1) := by decide +kernel
theorem dL_law_1136 : decode cL_law 1136 = .ok (.invokevirtual 97, 3) := by decide +kernel
theorem dL_law_1139 : decode cL_law 1139 = .ok (.iload 5, 2) := by decide +kernel
theorem dL_law_1141 : decode cL_law 1141 = .ok (.if_icmp .eq 5, 3) := by decide +kernel
theorem dL_law_1144 : decode cL_law 1144 = .ok (.iconst 0, 1) := by decide +kernel
theorem dL_law_1145 : decode cL_law 1145 = .ok (.ireturn, 1) := by decide +kernel
theorem dL_law_1146 : decode cL_law 1146 = .ok (.iload 5, 2) := by decide +kernel
theorem dL_law_1148 : decode cL_law 1148 = .ok (.ifCond .ne 15, 3) := by decide +kernel
theorem dL_law_1151 : decode cL_law 1151 = .ok (.aload_n 3, 1) := by decide +kernel
theorem dL_law_1152 : decode cL_law 1152 = .ok (.iconst 0, 1) := by decide +kernel
theorem dL_law_1153 : decode cL_law 1153 = .ok (.laload, 1) := by decide +kernel
theorem dL_law_1154 : decode cL_law 1154 = .ok (.iload 6, 2) := by decide +kernel
theorem dL_law_1156 : decode cL_law 1156 = .ok (.i2l, 1) := by decide +kernel
theorem dL_law_1157 : decode cL_law 1157 = .ok (.lcmp, 1) := by decide +kernel
theorem dL_law_1158 : decode cL_law 1158 = .ok (.ifCond .eq 5, 3) := by decide +kernel
theorem dL_law_1161 : decode cL_law 1161 = .ok (.iconst 0, 1) := by decide +kernel
theorem dL_law_1162 : decode cL_law 1162 = .ok (.ireturn, 1) := by decide +kernel
theorem dL_law_1163 : decode cL_law 1163 = .ok (.goto 385, 3) := by decide +kernel
theorem dL_law_1166 : decode cL_law 1166 = .ok (.aload_n 1, 1) := by decide +kernel
theorem dL_law_1167 : decode cL_law 1167 = .ok (.aload_n 0, 1) := by decide +kernel
theorem dL_law_1168 : decode cL_law 1168 = .ok (.iload 4, 2) := by decide +kernel
theorem dL_law_1170 : decode cL_law 1170 = .ok (.iconst 1, 1) := by decide +kernel
theorem dL_law_1171 : decode cL_law 1171 = .ok (.iadd, 1) := by decide +kernel
theorem dL_law_1172 : decode cL_law 1172 = .ok (.iaload, 1) := by decide +kernel
theorem dL_law_1173 : decode cL_law 1173 = .ok (.aload_n 3, 1) := by decide +kernel
theorem dL_law_1174 : decode cL_law 1174 = .ok (.invokestatic 158, 3) := by decide +kernel
theorem dL_law_1177 : decode cL_law 1177 = .ok (.istore 5, 2) := by decide +kernel
theorem dL_law_1179 : decode cL_law 1179 = .ok (.aload_n 2, 1) := by decide +kernel
theorem dL_law_1180 : decode cL_law 1180 = .ok (.aload_n 0, 1) := by decide +kernel
theorem dL_law_1181 : decode cL_law 1181 = .ok (.iload 4, 2) := by decide +kernel
theorem dL_law_1183 : decode cL_law 1183 = .ok (.iconst 1, 1) := by decide +kernel
theorem dL_law_1184 : decode cL_law 1184 = .ok (.iadd, 1) := by decide +kernel
theorem dL_law_1185 : decode cL_law 1185 = .ok (.iaload, 1) := by decide +kernel
theorem dL_law_1186 : decode cL_law 1186 = .ok (.invokevirtual 160, 3) := by decide +kernel
theorem dL_law_1189 : decode cL_law 1189 = .ok (.istore 6, 2) := by decide +kernel
theorem dL_law_1191 : decode cL_law 1191 = .ok (.aload_n 2, 1) := by decide +kernel
theorem dL_law_1192 : decode cL_law 1192 = .ok (.invokevirtual 97, 3) := by decide +kernel
theorem dL_law_1195 : decode cL_law 1195 = .ok (.iload 5, 2) := by decide +kernel
theorem dL_law_1197 : decode cL_law 1197 = .ok (.if_icmp .eq 5, 3) := by decide +kernel
theorem dL_law_1200 : decode cL_law 1200 = .ok (.iconst 0, 1) := by decide +kernel
theorem dL_law_1201 : decode cL_law 1201 = .ok (.ireturn, 1) := by decide +kernel
theorem dL_law_1202 : decode cL_law 1202 = .ok (.iload 5, 2) := by decide +kernel
theorem dL_law_1204 : decode cL_law 1204 = .ok (.ifCond .ne 15, 3) := by decide +kernel
theorem dL_law_1207 : decode cL_law 1207 = .ok (.aload_n 3, 1) := by decide +kernel
theorem dL_law_1208 : decode cL_law 1208 = .ok (.iconst 0, 1) := by decide +kernel
theorem dL_law_1209 : decode cL_law 1209 = .ok (.laload, 1) := by decide +kernel
theorem dL_law_1210 : decode cL_law 1210 = .ok (.iload 6, 2) := by decide +kernel
theorem dL_law_1212 : decode cL_law 1212 = .ok (.i2l, 1) := by decide +kernel
theorem dL_law_1213 : decode cL_law 1213 = .ok (.lcmp, 1) := by decide +kernel
theorem dL_law_1214 : decode cL_law 1214 = .ok (.ifCond .eq 5, 3) := by decide +kernel
theorem dL_law_1217 : decode cL_law 1217 = .ok (.iconst 0, 1) := by decide +kernel
theorem dL_law_1218 : decode cL_law 1218 = .ok (.ireturn, 1) := by decide +kernel
theorem dL_law_1219 : decode cL_law 1219 = .ok (.goto 329, 3) := by decide +kernel
theorem dL_law_1222 : decode cL_law 1222 = .ok (.aload_n 1, 1) := by decide +kernel
theorem dL_law_1223 : decode cL_law 1223 = .ok (.aload_n 0, 1) := by decide +kernel
theorem dL_law_1224 : decode cL_law 1224 = .ok (.iload 4, 2) := by decide +kernel
theorem dL_law_1226 : decode cL_law 1226 = .ok (.iconst 1, 1) := by decide +kernel
theorem dL_law_1227 : decode cL_law 1227 = .ok (.iadd, 1) := by decide +kernel
theorem dL_law_1228 : decode cL_law 1228 = .ok (.iaload, 1) := by decide +kernel
theorem dL_law_1229 : decode cL_law 1229 = .ok (.aload_n 3, 1) := by decide +kernel
theorem dL_law_1230 : decode cL_law 1230 = .ok (.invokestatic 161, 3) := by decide +kernel
theorem dL_law_1233 : decode cL_law 1233 = .ok (.istore 5, 2) := by decide +kernel
theorem dL_law_1235 : decode cL_law 1235 = .ok (.aload_n 2, 1) := by decide +kernel
theorem dL_law_1236 : decode cL_law 1236 = .ok (.aload_n 0, 1) := by decide +kernel
theorem dL_law_1237 : decode cL_law 1237 = .ok (.iload 4, 2) := by decide +kernel
theorem dL_law_1239 : decode cL_law 1239 = .ok (.iconst 1, 1) := by decide +kernel
theorem dL_law_1240 : decode cL_law 1240 = .ok (.iadd, 1) := by decide +kernel
theorem dL_law_1241 : decode cL_law 1241 = .ok (.iaload, 1) := by decide +kernel
theorem dL_law_1242 : decode cL_law 1242 = .ok (.invokevirtual 163, 3) := by decide +kernel
theorem dL_law_1245 : decode cL_law 1245 = .ok (.istore 6, 2) := by decide +kernel
theorem dL_law_1247 : decode cL_law 1247 = .ok (.aload_n 2, 1) := by decide +kernel
theorem dL_law_1248 : decode cL_law 1248 = .ok (.invokevirtual 97, 3) := by decide +kernel
theorem dL_law_1251 : decode cL_law 1251 = .ok (.iload 5, 2) := by decide +kernel
theorem dL_law_1253 : decode cL_law 1253 = .ok (.if_icmp .eq 5, 3) := by decide +kernel
theorem dL_law_1256 : decode cL_law 1256 = .ok (.iconst 0, 1) := by decide +kernel
theorem dL_law_1257 : decode cL_law 1257 = .ok (.ireturn, 1) := by decide +kernel
theorem dL_law_1258 : decode cL_law 1258 = .ok (.iload 5, 2) := by decide +kernel
theorem dL_law_1260 : decode cL_law 1260 = .ok (.ifCond .ne 15, 3) := by decide +kernel
theorem dL_law_1263 : decode cL_law 1263 = .ok (.aload_n 3, 1) := by decide +kernel
theorem dL_law_1264 : decode cL_law 1264 = .ok (.iconst 0, 1) := by decide +kernel
theorem dL_law_1265 : decode cL_law 1265 = .ok (.laload, 1) := by decide +kernel
theorem dL_law_1266 : decode cL_law 1266 = .ok (.iload 6, 2) := by decide +kernel
theorem dL_law_1268 : decode cL_law 1268 = .ok (.i2l, 1) := by decide +kernel
theorem dL_law_1269 : decode cL_law 1269 = .ok (.lcmp, 1) := by decide +kernel
theorem dL_law_1270 : decode cL_law 1270 = .ok (.ifCond .eq 5, 3) := by decide +kernel
theorem dL_law_1273 : decode cL_law 1273 = .ok (.iconst 0, 1) := by decide +kernel
theorem dL_law_1274 : decode cL_law 1274 = .ok (.ireturn, 1) := by decide +kernel
theorem dL_law_1275 : decode cL_law 1275 = .ok (.goto 273, 3) := by decide +kernel
theorem dL_law_1278 : decode cL_law 1278 = .ok (.aload_n 1, 1) := by decide +kernel
theorem dL_law_1279 : decode cL_law 1279 = .ok (.invokevirtual 164, 3) := by decide +kernel
theorem dL_law_1282 : decode cL_law 1282 = .ok (.aload_n 2, 1) := by decide +kernel
theorem dL_law_1283 : decode cL_law 1283 = .ok (.invokevirtual 167, 3) := by decide +kernel
theorem dL_law_1286 : decode cL_law 1286 = .ok (.if_icmp .eq 262, 3) := by decide +kernel
theorem dL_law_1289 : decode cL_law 1289 = .ok (.iconst 0, 1) := by decide +kernel
theorem dL_law_1290 : decode cL_law 1290 = .ok (.ireturn, 1) := by decide +kernel
theorem dL_law_1291 : decode cL_law 1291 = .ok (.aload_n 1, 1) := by decide +kernel
theorem dL_law_1292 : decode cL_law 1292 = .ok (.aload_n 0, 1) := by decide +kernel
theorem dL_law_1293 : decode cL_law 1293 = .ok (.iload 4, 2) := by decide +kernel
theorem dL_law_1295 : decode cL_law 1295 = .ok (.iconst 1, 1) := by decide +kernel
theorem dL_law_1296 : decode cL_law 1296 = .ok (.iadd, 1) := by decide +kernel
theorem dL_law_1297 : decode cL_law 1297 = .ok (.iaload, 1) := by decide +kernel
theorem dL_law_1298 : decode cL_law 1298 = .ok (.aload_n 3, 1) := by decide +kernel
theorem dL_law_1299 : decode cL_law 1299 = .ok (.invokestatic 168, 3) := by decide +kernel
theorem dL_law_1302 : decode cL_law 1302 = .ok (.istore 5, 2) := by decide +kernel
theorem dL_law_1304 : decode cL_law 1304 = .ok (.aload_n 2, 1) := by decide +kernel
theorem dL_law_1305 : decode cL_law 1305 = .ok (.aload_n 0, 1) := by decide +kernel
theorem dL_law_1306 : decode cL_law 1306 = .ok (.iload 4, 2) := by decide +kernel
theorem dL_law_1308 : decode cL_law 1308 = .ok (.iconst 1, 1) := by decide +kernel
theorem dL_law_1309 : decode cL_law 1309 = .ok (.iadd, 1) := by decide +kernel
theorem dL_law_1310 : decode cL_law 1310 = .ok (.iaload, 1) := by decide +kernel
theorem dL_law_1311 : decode cL_law 1311 = .ok (.invokevirtual 170, 3) := by decide +kernel
theorem dL_law_1314 : decode cL_law 1314 = .ok (.istore 6, 2) := by decide +kernel
theorem dL_law_1316 : decode cL_law 1316 = .ok (.aload_n 2, 1) := by decide +kernel
theorem dL_law_1317 : decode cL_law 1317 = .ok (.invokevirtual 97, 3) := by decide +kernel
theorem dL_law_1320 : decode cL_law 1320 = .ok (.iload 5, 2) := by decide +kernel
theorem dL_law_1322 : decode cL_law 1322 = .ok (.if_icmp .eq 5, 3) := by decide +kernel
theorem dL_law_1325 : decode cL_law 1325 = .ok (.iconst 0, 1) := by decide +kernel
theorem dL_law_1326 : decode cL_law 1326 = .ok (.ireturn, 1) := by decide +kernel
theorem dL_law_1327 : decode cL_law 1327 = .ok (.iload 5, 2) := by decide +kernel
theorem dL_law_1329 : decode cL_law 1329 = .ok (.ifCond .ne 22, 3) := by decide +kernel
theorem dL_law_1332 : decode cL_law 1332 = .ok (.aload_n 3, 1) := by decide +kernel
theorem dL_law_1333 : decode cL_law 1333 = .ok (.iconst 0, 1) := by decide +kernel
theorem dL_law_1334 : decode cL_law 1334 = .ok (.laload, 1) := by decide +kernel
theorem dL_law_1335 : decode cL_law 1335 = .ok (.iload 6, 2) := by decide +kernel
theorem dL_law_1337 : decode cL_law 1337 = .ok (.ifCond .eq 7, 3) := by decide +kernel
theorem dL_law_1340 : decode cL_law 1340 = .ok (.lconst 1, 1) := by decide +kernel
theorem dL_law_1341 : decode cL_law 1341 = .ok (.goto 4, 3) := by decide +kernel
theorem dL_law_1344 : decode cL_law 1344 = .ok (.lconst 0, 1) := by decide +kernel
theorem dL_law_1345 : decode cL_law 1345 = .ok (.lcmp, 1) := by decide +kernel
theorem dL_law_1346 : decode cL_law 1346 = .ok (.ifCond .eq 5, 3) := by decide +kernel
theorem dL_law_1349 : decode cL_law 1349 = .ok (.iconst 0, 1) := by decide +kernel
theorem dL_law_1350 : decode cL_law 1350 = .ok (.ireturn, 1) := by decide +kernel
theorem dL_law_1351 : decode cL_law 1351 = .ok (.goto 197, 3) := by decide +kernel
theorem dL_law_1354 : decode cL_law 1354 = .ok (.aload_n 1, 1) := by decide +kernel
theorem dL_law_1355 : decode cL_law 1355 = .ok (.aload_n 0, 1) := by decide +kernel
theorem dL_law_1356 : decode cL_law 1356 = .ok (.iload 4, 2) := by decide +kernel
theorem dL_law_1358 : decode cL_law 1358 = .ok (.iconst 1, 1) := by decide +kernel
theorem dL_law_1359 : decode cL_law 1359 = .ok (.iadd, 1) := by decide +kernel
theorem dL_law_1360 : decode cL_law 1360 = .ok (.iaload, 1) := by decide +kernel
theorem dL_law_1361 : decode cL_law 1361 = .ok (.aload_n 3, 1) := by decide +kernel
theorem dL_law_1362 : decode cL_law 1362 = .ok (.invokestatic 171, 3) := by decide +kernel
theorem dL_law_1365 : decode cL_law 1365 = .ok (.istore 5, 2) := by decide +kernel
theorem dL_law_1367 : decode cL_law 1367 = .ok (.aload_n 2, 1) := by decide +kernel
theorem dL_law_1368 : decode cL_law 1368 = .ok (.aload_n 0, 1) := by decide +kernel
theorem dL_law_1369 : decode cL_law 1369 = .ok (.iload 4, 2) := by decide +kernel
theorem dL_law_1371 : decode cL_law 1371 = .ok (.iconst 1, 1) := by decide +kernel
theorem dL_law_1372 : decode cL_law 1372 = .ok (.iadd, 1) := by decide +kernel
theorem dL_law_1373 : decode cL_law 1373 = .ok (.iaload, 1) := by decide +kernel
theorem dL_law_1374 : decode cL_law 1374 = .ok (.invokevirtual 173, 3) := by decide +kernel
theorem dL_law_1377 : decode cL_law 1377 = .ok (.istore 6, 2) := by decide +kernel
theorem dL_law_1379 : decode cL_law 1379 = .ok (.aload_n 2, 1) := by decide +kernel
theorem dL_law_1380 : decode cL_law 1380 = .ok (.invokevirtual 97, 3) := by decide +kernel
theorem dL_law_1383 : decode cL_law 1383 = .ok (.iload 5, 2) := by decide +kernel
theorem dL_law_1385 : decode cL_law 1385 = .ok (.if_icmp .eq 5, 3) := by decide +kernel
theorem dL_law_1388 : decode cL_law 1388 = .ok (.iconst 0, 1) := by decide +kernel
theorem dL_law_1389 : decode cL_law 1389 = .ok (.ireturn, 1) := by decide +kernel
theorem dL_law_1390 : decode cL_law 1390 = .ok (.iload 5, 2) := by decide +kernel
theorem dL_law_1392 : decode cL_law 1392 = .ok (.ifCond .ne 15, 3) := by decide +kernel
theorem dL_law_1395 : decode cL_law 1395 = .ok (.aload_n 3, 1) := by decide +kernel
theorem dL_law_1396 : decode cL_law 1396 = .ok (.iconst 0, 1) := by decide +kernel
theorem dL_law_1397 : decode cL_law 1397 = .ok (.laload, 1) := by decide +kernel
theorem dL_law_1398 : decode cL_law 1398 = .ok (.iload 6, 2) := by decide +kernel
theorem dL_law_1400 : decode cL_law 1400 = .ok (.i2l, 1) := by decide +kernel
theorem dL_law_1401 : decode cL_law 1401 = .ok (.lcmp, 1) := by decide +kernel
theorem dL_law_1402 : decode cL_law 1402 = .ok (.ifCond .eq 5, 3) := by decide +kernel
theorem dL_law_1405 : decode cL_law 1405 = .ok (.iconst 0, 1) := by decide +kernel
theorem dL_law_1406 : decode cL_law 1406 = .ok (.ireturn, 1) := by decide +kernel
theorem dL_law_1407 : decode cL_law 1407 = .ok (.goto 141, 3) := by decide +kernel
theorem dL_law_1410 : decode cL_law 1410 = .ok (.aload_n 1, 1) := by decide +kernel
theorem dL_law_1411 : decode cL_law 1411 = .ok (.aload_n 0, 1) := by decide +kernel
theorem dL_law_1412 : decode cL_law 1412 = .ok (.iload 4, 2) := by decide +kernel
theorem dL_law_1414 : decode cL_law 1414 = .ok (.iconst 1, 1) := by decide +kernel
theorem dL_law_1415 : decode cL_law 1415 = .ok (.iadd, 1) := by decide +kernel
theorem dL_law_1416 : decode cL_law 1416 = .ok (.iaload, 1) := by decide +kernel
theorem dL_law_1417 : decode cL_law 1417 = .ok (.aload_n 3, 1) := by decide +kernel
theorem dL_law_1418 : decode cL_law 1418 = .ok (.invokestatic 174, 3) := by decide +kernel
theorem dL_law_1421 : decode cL_law 1421 = .ok (.istore 5, 2) := by decide +kernel
theorem dL_law_1423 : decode cL_law 1423 = .ok (.aload_n 2, 1) := by decide +kernel
theorem dL_law_1424 : decode cL_law 1424 = .ok (.aload_n 0, 1) := by decide +kernel
theorem dL_law_1425 : decode cL_law 1425 = .ok (.iload 4, 2) := by decide +kernel
theorem dL_law_1427 : decode cL_law 1427 = .ok (.iconst 1, 1) := by decide +kernel
theorem dL_law_1428 : decode cL_law 1428 = .ok (.iadd, 1) := by decide +kernel
theorem dL_law_1429 : decode cL_law 1429 = .ok (.iaload, 1) := by decide +kernel
theorem dL_law_1430 : decode cL_law 1430 = .ok (.invokevirtual 176, 3) := by decide +kernel
theorem dL_law_1433 : decode cL_law 1433 = .ok (.istore 6, 2) := by decide +kernel
theorem dL_law_1435 : decode cL_law 1435 = .ok (.aload_n 2, 1) := by decide +kernel
theorem dL_law_1436 : decode cL_law 1436 = .ok (.invokevirtual 97, 3) := by decide +kernel
theorem dL_law_1439 : decode cL_law 1439 = .ok (.iload 5, 2) := by decide +kernel
theorem dL_law_1441 : decode cL_law 1441 = .ok (.if_icmp .eq 5, 3) := by decide +kernel
theorem dL_law_1444 : decode cL_law 1444 = .ok (.iconst 0, 1) := by decide +kernel
theorem dL_law_1445 : decode cL_law 1445 = .ok (.ireturn, 1) := by decide +kernel
theorem dL_law_1446 : decode cL_law 1446 = .ok (.iload 5, 2) := by decide +kernel
theorem dL_law_1448 : decode cL_law 1448 = .ok (.ifCond .ne 15, 3) := by decide +kernel
theorem dL_law_1451 : decode cL_law 1451 = .ok (.aload_n 3, 1) := by decide +kernel
theorem dL_law_1452 : decode cL_law 1452 = .ok (.iconst 0, 1) := by decide +kernel
theorem dL_law_1453 : decode cL_law 1453 = .ok (.laload, 1) := by decide +kernel
theorem dL_law_1454 : decode cL_law 1454 = .ok (.iload 6, 2) := by decide +kernel
theorem dL_law_1456 : decode cL_law 1456 = .ok (.i2l, 1) := by decide +kernel
theorem dL_law_1457 : decode cL_law 1457 = .ok (.lcmp, 1) := by decide +kernel
theorem dL_law_1458 : decode cL_law 1458 = .ok (.ifCond .eq 5, 3) := by decide +kernel
theorem dL_law_1461 : decode cL_law 1461 = .ok (.iconst 0, 1) := by decide +kernel
theorem dL_law_1462 : decode cL_law 1462 = .ok (.ireturn, 1) := by decide +kernel
theorem dL_law_1463 : decode cL_law 1463 = .ok (.goto 85, 3) := by decide +kernel
theorem dL_law_1466 : decode cL_law 1466 = .ok (.aload_n 1, 1) := by decide +kernel
theorem dL_law_1467 : decode cL_law 1467 = .ok (.invokevirtual 177, 3) := by decide +kernel
theorem dL_law_1470 : decode cL_law 1470 = .ok (.aload_n 2, 1) := by decide +kernel
theorem dL_law_1471 : decode cL_law 1471 = .ok (.invokevirtual 180, 3) := by decide +kernel
theorem dL_law_1474 : decode cL_law 1474 = .ok (.if_icmp .eq 74, 3) := by decide +kernel
theorem dL_law_1477 : decode cL_law 1477 = .ok (.iconst 0, 1) := by decide +kernel
theorem dL_law_1478 : decode cL_law 1478 = .ok (.ireturn, 1) := by decide +kernel
theorem dL_law_1479 : decode cL_law 1479 = .ok (.aload_n 1, 1) := by decide +kernel
theorem dL_law_1480 : decode cL_law 1480 = .ok (.invokevirtual 181, 3) := by decide +kernel
theorem dL_law_1483 : decode cL_law 1483 = .ok (.aload_n 2, 1) := by decide +kernel
theorem dL_law_1484 : decode cL_law 1484 = .ok (.invokevirtual 184, 3) := by decide +kernel
theorem dL_law_1487 : decode cL_law 1487 = .ok (.if_icmp .eq 61, 3) := by decide +kernel
theorem dL_law_1490 : decode cL_law 1490 = .ok (.iconst 0, 1) := by decide +kernel
theorem dL_law_1491 : decode cL_law 1491 = .ok (.ireturn, 1) := by decide +kernel
theorem dL_law_1492 : decode cL_law 1492 = .ok (.aload_n 1, 1) := by decide +kernel
theorem dL_law_1493 : decode cL_law 1493 = .ok (.aload_n 0, 1) := by decide +kernel
theorem dL_law_1494 : decode cL_law 1494 = .ok (.iload 4, 2) := by decide +kernel
theorem dL_law_1496 : decode cL_law 1496 = .ok (.iconst 1, 1) := by decide +kernel
theorem dL_law_1497 : decode cL_law 1497 = .ok (.iadd, 1) := by decide +kernel
theorem dL_law_1498 : decode cL_law 1498 = .ok (.iaload, 1) := by decide +kernel
theorem dL_law_1499 : decode cL_law 1499 = .ok (.aload_n 3, 1) := by decide +kernel
theorem dL_law_1500 : decode cL_law 1500 = .ok (.invokestatic 185, 3) := by decide +kernel
theorem dL_law_1503 : decode cL_law 1503 = .ok (.istore 5, 2) := by decide +kernel
theorem dL_law_1505 : decode cL_law 1505 = .ok (.aload_n 2, 1) := by decide +kernel
theorem dL_law_1506 : decode cL_law 1506 = .ok (.aload_n 0, 1) := by decide +kernel
theorem dL_law_1507 : decode cL_law 1507 = .ok (.iload 4, 2) := by decide +kernel
theorem dL_law_1509 : decode cL_law 1509 = .ok (.iconst 1, 1) := by decide +kernel
theorem dL_law_1510 : decode cL_law 1510 = .ok (.iadd, 1) := by decide +kernel
theorem dL_law_1511 : decode cL_law 1511 = .ok (.iaload, 1) := by decide +kernel
theorem dL_law_1512 : decode cL_law 1512 = .ok (.invokevirtual 187, 3) := by decide +kernel
theorem dL_law_1515 : decode cL_law 1515 = .ok (.istore 6, 2) := by decide +kernel
theorem dL_law_1517 : decode cL_law 1517 = .ok (.aload_n 2, 1) := by decide +kernel
theorem dL_law_1518 : decode cL_law 1518 = .ok (.invokevirtual 97, 3) := by decide +kernel
theorem dL_law_1521 : decode cL_law 1521 = .ok (.iload 5, 2) := by decide +kernel
theorem dL_law_1523 : decode cL_law 1523 = .ok (.if_icmp .eq 5, 3) := by decide +kernel
theorem dL_law_1526 : decode cL_law 1526 = .ok (.iconst 0, 1) := by decide +kernel
theorem dL_law_1527 : decode cL_law 1527 = .ok (.ireturn, 1) := by decide +kernel
theorem dL_law_1528 : decode cL_law 1528 = .ok (.iload 5, 2) := by decide +kernel
theorem dL_law_1530 : decode cL_law 1530 = .ok (.ifCond .ne 15, 3) := by decide +kernel
theorem dL_law_1533 : decode cL_law 1533 = .ok (.aload_n 3, 1) := by decide +kernel
theorem dL_law_1534 : decode cL_law 1534 = .ok (.iconst 0, 1) := by decide +kernel
theorem dL_law_1535 : decode cL_law 1535 = .ok (.laload, 1) := by decide +kernel
theorem dL_law_1536 : decode cL_law 1536 = .ok (.iload 6, 2) := by decide +kernel
theorem dL_law_1538 : decode cL_law 1538 = .ok (.i2l, 1) := by decide +kernel
theorem dL_law_1539 : decode cL_law 1539 = .ok (.lcmp, 1) := by decide +kernel
theorem dL_law_1540 : decode cL_law 1540 = .ok (.ifCond .eq 5, 3) := by decide +kernel
theorem dL_law_1543 : decode cL_law 1543 = .ok (.iconst 0, 1) := by decide +kernel
theorem dL_law_1544 : decode cL_law 1544 = .ok (.ireturn, 1) := by decide +kernel
theorem dL_law_1545 : decode cL_law 1545 = .ok (.goto 3, 3) := by decide +kernel
theorem dL_law_1548 : decode cL_law 1548 = .ok (.iinc 4 3, 3) := by decide +kernel
theorem dL_law_1551 : decode cL_law 1551 = .ok (.goto (-1528), 3) := by decide +kernel
theorem dL_law_1554 : decode cL_law 1554 = .ok (.iconst 1, 1) := by decide +kernel
theorem dL_law_1555 : decode cL_law 1555 = .ok (.ireturn, 1) := by decide +kernel
end
section
/-! THE WORLD OF ONE OBJECT AND ITS ROWS: st 0 j is the number in the field j, st (j + 1) the row that the field j points to; ly: for each field the length of its row (0: a number) and whether it holds booleans; al 0 the object, al (j + 1) the row of the field j. -/
abbrev ST : Type := Nat → Nat → Int32
abbrev Res : Type := Nat × Int32 × ST
abbrev LY : Type := List (Nat × Bool)
def oz_us (st : ST) (k : Nat) (f : Nat → Int32) : ST := fun a => if a = k then f else st a
/-- one number of a row (or, in row 0, of a field) is changed -/
def oz_se (st : ST) (k i : Nat) (v : Int32) : ST := oz_us st k (upd (st k) i v)
def oz_fl (ad : Nat → Nat) (st : ST) : Nat → LY → List Value
  | _, [] => []
  | j, (0, _) :: r => .int (st 0 j) :: oz_fl ad st (j + 1) r
  | j, (_ + 1, _) :: r => .ref (ad (j + 1)) :: oz_fl ad st (j + 1) r
def oz_al (cI cZ : ClassId) (ad : Nat → Nat) (st : ST) : Nat → LY → va_W
  | _, [] => []
  | j, (0, _) :: r => oz_al cI cZ ad st (j + 1) r
  | j, (n + 1, b) :: r => (ad (j + 1), .inl (if b then cZ else cI, n + 1, .inl (st (j + 1)))) :: oz_al cI cZ ad st (j + 1) r
def oz_wd (ci : Nat) (cI cZ : ClassId) (ad : Nat → Nat) (ly : LY) (st : ST) : va_W := (ad 0, .inr (ci, oz_fl ad st 0 ly)) :: oz_al cI cZ ad st 0 ly
theorem oz_us_same (st : ST) (k : Nat) (f : Nat → Int32) : oz_us st k f k = f := by simp [oz_us]
theorem oz_us_ne (st : ST) {k a : Nat} (f : Nat → Int32) (h : a ≠ k) : oz_us st k f a = st a := by simp [oz_us, h]
theorem oz_se_at (st : ST) (k i : Nat) (v : Int32) (a b : Nat) : oz_se st k i v a b = if a = k ∧ b = i then v else st a b := by
  by_cases h : a = k
  · subst h
    by_cases h2 : b = i
    · simp [oz_se, oz_us, upd, h2]
    · simp [oz_se, oz_us, upd, h2]
  · simp [oz_se, oz_us, h]
theorem oz_fl_len (ad : Nat → Nat) (st : ST) : ∀ (ly : LY) (j : Nat), (oz_fl ad st j ly).length = ly.length
  | [], _ => rfl
  | (0, _) :: r, j => by simp [oz_fl, oz_fl_len ad st r]
  | (_ + 1, _) :: r, j => by simp [oz_fl, oz_fl_len ad st r]
theorem oz_fl_int (ad : Nat → Nat) (st : ST) : ∀ (ly : LY) (j i : Nat) {b : Bool}, ly[i]? = some (0, b) → (oz_fl ad st j ly)[i]? = some (.int (st 0 (j + i)))
  | [], _, _, _, h => by simp at h
  | (0, _) :: r, j, 0, _, h => by simp [oz_fl]
  | (_ + 1, _) :: r, j, 0, _, h => by simp at h
  | (0, _) :: r, j, i + 1, _, h => by
    have := oz_fl_int ad st r (j + 1) i (by simpa using h)
    simp only [oz_fl, List.getElem?_cons_succ]
    rw [this, show j + 1 + i = j + (i + 1) by omega]
  | (_ + 1, _) :: r, j, i + 1, _, h => by
    have := oz_fl_int ad st r (j + 1) i (by simpa using h)
    simp only [oz_fl, List.getElem?_cons_succ]
    rw [this, show j + 1 + i = j + (i + 1) by omega]
theorem oz_fl_ref (ad : Nat → Nat) (st : ST) : ∀ (ly : LY) (j i : Nat) {n : Nat} {b : Bool}, ly[i]? = some (n + 1, b) → (oz_fl ad st j ly)[i]? = some (.ref (ad (j + i + 1)))
  | [], _, _, _, _, h => by simp at h
  | (0, _) :: r, j, 0, _, _, h => by simp at h
  | (_ + 1, _) :: r, j, 0, _, _, h => by simp [oz_fl]
  | (0, _) :: r, j, i + 1, _, _, h => by
    have := oz_fl_ref ad st r (j + 1) i (by simpa using h)
    simp only [oz_fl, List.getElem?_cons_succ]
    rw [this, show j + 1 + i + 1 = j + (i + 1) + 1 by omega]
  | (_ + 1, _) :: r, j, i + 1, _, _, h => by
    have := oz_fl_ref ad st r (j + 1) i (by simpa using h)
    simp only [oz_fl, List.getElem?_cons_succ]
    rw [this, show j + 1 + i + 1 = j + (i + 1) + 1 by omega]
theorem oz_fl_cong (ad : Nat → Nat) {st st2 : ST} : ∀ (ly : LY) (j : Nat), (∀ a, j ≤ a → st 0 a = st2 0 a) → oz_fl ad st j ly = oz_fl ad st2 j ly
  | [], _, _ => rfl
  | (0, _) :: r, j, h => by simp only [oz_fl]; rw [h j (Nat.le_refl j), oz_fl_cong ad r (j + 1) (fun a q => h a (by omega))]
  | (_ + 1, _) :: r, j, h => by simp only [oz_fl]; rw [oz_fl_cong ad r (j + 1) (fun a q => h a (by omega))]
theorem oz_fl_set (ad : Nat → Nat) (st : ST) (v : Int32) : ∀ (ly : LY) (j i : Nat) {b : Bool}, ly[i]? = some (0, b) → (oz_fl ad st j ly).set i (.int v) = oz_fl ad (oz_se st 0 (j + i) v) j ly
  | [], _, _, _, h => by simp at h
  | (0, _) :: r, j, 0, _, h => by
    simp only [oz_fl, List.set_cons_zero]
    rw [oz_se_at, if_pos ⟨rfl, rfl⟩, oz_fl_cong ad (st := st) (st2 := oz_se st 0 (j + 0) v) r (j + 1) (fun a q => by rw [oz_se_at, if_neg (by omega)])]
  | (_ + 1, _) :: r, j, 0, _, h => by simp at h
  | (0, _) :: r, j, i + 1, _, h => by
    have := oz_fl_set ad st v r (j + 1) i (by simpa using h)
    simp only [oz_fl, List.set_cons_succ]
    rw [this, show j + 1 + i = j + (i + 1) by omega, oz_se_at, if_neg (by omega)]
  | (_ + 1, _) :: r, j, i + 1, _, h => by
    have := oz_fl_set ad st v r (j + 1) i (by simpa using h)
    simp only [oz_fl, List.set_cons_succ]
    rw [this, show j + 1 + i = j + (i + 1) by omega]
theorem oz_al_cong (cI cZ : ClassId) (ad : Nat → Nat) {st st2 : ST} : ∀ (ly : LY) (j : Nat), (∀ a, j < a → st a = st2 a) → oz_al cI cZ ad st j ly = oz_al cI cZ ad st2 j ly
  | [], _, _ => rfl
  | (0, _) :: r, j, h => by simp only [oz_al]; exact oz_al_cong cI cZ ad r (j + 1) (fun a q => h a (by omega))
  | (_ + 1, _) :: r, j, h => by simp only [oz_al]; rw [h (j + 1) (by omega), oz_al_cong cI cZ ad r (j + 1) (fun a q => h a (by omega))]
theorem oz_al_get (cI cZ : ClassId) (ad : Nat → Nat) (st : ST) : ∀ (ly : LY) (j i : Nat) {n : Nat} {b : Bool}, ly[i]? = some (n + 1, b) →
    ∃ q, (oz_al cI cZ ad st j ly)[q]? = some (ad (j + i + 1), .inl (if b then cZ else cI, n + 1, .inl (st (j + i + 1)))) ∧ ∀ f, (oz_al cI cZ ad st j ly).set q (ad (j + i + 1), .inl (if b then cZ else cI, n + 1, .inl f)) = oz_al cI cZ ad (oz_us st (j + i + 1) f) j ly
  | [], _, _, _, _, h => by simp at h
  | (0, _) :: r, j, 0, _, _, h => by simp at h
  | (m + 1, b0) :: r, j, 0, n, b, h => by
    have h1 : m = n ∧ b0 = b := by simpa using h
    obtain ⟨rfl, rfl⟩ := h1
    refine ⟨0, by simp [oz_al], fun f => ?_⟩
    simp only [oz_al, List.set_cons_zero, Nat.add_zero]
    rw [oz_us_same, oz_al_cong cI cZ ad (st := st) (st2 := oz_us st (j + 1) f) r (j + 1) (fun a q => (oz_us_ne st f (by omega)).symm)]
  | (0, _) :: r, j, i + 1, n, b, h => by
    obtain ⟨q, h1, h2⟩ := oz_al_get cI cZ ad st r (j + 1) i (by simpa using h)
    have e : j + 1 + i + 1 = j + (i + 1) + 1 := by omega
    rw [e] at h1 h2
    exact ⟨q, by simpa only [oz_al] using h1, fun f => by simpa only [oz_al] using h2 f⟩
  | (m + 1, b0) :: r, j, i + 1, n, b, h => by
    obtain ⟨q, h1, h2⟩ := oz_al_get cI cZ ad st r (j + 1) i (by simpa using h)
    have e : j + 1 + i + 1 = j + (i + 1) + 1 := by omega
    rw [e] at h1 h2
    refine ⟨q + 1, by simpa only [oz_al, List.getElem?_cons_succ] using h1, fun f => ?_⟩
    simp only [oz_al, List.set_cons_succ]
    rw [h2 f, oz_us_ne st f (by omega)]
/-- the object's own cell, and a row's, in the world -/
theorem oz_wd_obj (ci : Nat) (cI cZ : ClassId) (ad : Nat → Nat) (ly : LY) (st : ST) : (oz_wd ci cI cZ ad ly st)[0]? = some (ad 0, .inr (ci, oz_fl ad st 0 ly)) := rfl
theorem oz_wd_put (ci : Nat) (cI cZ : ClassId) (ad : Nat → Nat) (ly : LY) (st : ST) {k : Nat} {b : Bool} (h : ly[k]? = some (0, b)) (v : Int32) : (oz_wd ci cI cZ ad ly st).set 0 (ad 0, .inr (ci, (oz_fl ad st 0 ly).set k (.int v))) = oz_wd ci cI cZ ad ly (oz_se st 0 k v) := by
  unfold oz_wd
  rw [List.set_cons_zero, oz_fl_set ad st v ly 0 k h, Nat.zero_add]
  rw [oz_al_cong cI cZ ad (st := st) (st2 := oz_se st 0 k v) ly 0 (fun a q => (oz_us_ne st _ (by omega)).symm)]
theorem oz_wd_get (ci : Nat) (cI cZ : ClassId) (ad : Nat → Nat) (ly : LY) (st : ST) {k n : Nat} {b : Bool} (h : ly[k]? = some (n + 1, b)) :
    ∃ q, (oz_wd ci cI cZ ad ly st)[q]? = some (ad (k + 1), .inl (if b then cZ else cI, n + 1, .inl (st (k + 1)))) ∧ ∀ i v, (oz_wd ci cI cZ ad ly st).set q (ad (k + 1), .inl (if b then cZ else cI, n + 1, .inl (upd (st (k + 1)) i v))) = oz_wd ci cI cZ ad ly (oz_se st (k + 1) i v) := by
  obtain ⟨q, h1, h2⟩ := oz_al_get cI cZ ad st ly 0 k h
  rw [Nat.zero_add] at h1 h2
  refine ⟨q + 1, h1, fun i v => ?_⟩
  unfold oz_wd
  rw [List.set_cons_succ, h2]
  rw [oz_fl_cong ad (st := st) (st2 := oz_se st (k + 1) i v) ly 0 (fun a _ => by rw [oz_se_at, if_neg (by omega)])]
  rfl
/-- the addresses don't depend on what the cells hold -/
theorem oz_al_fst (cI cZ : ClassId) (ad : Nat → Nat) (st st2 : ST) : ∀ (ly : LY) (j : Nat), (oz_al cI cZ ad st j ly).map Prod.fst = (oz_al cI cZ ad st2 j ly).map Prod.fst
  | [], _ => rfl
  | (0, _) :: r, j => by simp only [oz_al]; exact oz_al_fst cI cZ ad st st2 r (j + 1)
  | (_ + 1, _) :: r, j => by simp only [oz_al, List.map_cons]; rw [oz_al_fst cI cZ ad st st2 r (j + 1)]
theorem oz_wd_fst (ci : Nat) (cI cZ : ClassId) (ad : Nat → Nat) (ly : LY) (st st2 : ST) : (oz_wd ci cI cZ ad ly st).map Prod.fst = (oz_wd ci cI cZ ad ly st2).map Prod.fst := by
  simp only [oz_wd, List.map_cons]
  rw [oz_al_fst cI cZ ad st st2 ly 0]
theorem oz_fst_get {ws ws2 : va_W} (h : ws.map Prod.fst = ws2.map Prod.fst) {k : Nat} {q : Nat × va_E} (hk : ws[k]? = some q) : ∃ e, ws2[k]? = some (q.1, e) := by
  have h1 : (ws.map Prod.fst)[k]? = some q.1 := by rw [List.getElem?_map, hk]; rfl
  rw [h, List.getElem?_map] at h1
  cases h2 : ws2[k]? with
  | none => rw [h2] at h1; cases h1
  | some r => rw [h2] at h1; obtain ⟨a, e⟩ := r; cases h1; exact ⟨e, rfl⟩
theorem oz_D_cong {A : Nat → Prop} {ws ws2 : va_W} (h : ws.map Prod.fst = ws2.map Prod.fst) (hD : va_D A ws) : va_D A ws2 := by
  refine ⟨fun i j p q hi hj hpq => ?_, fun k q hk => ?_⟩
  · obtain ⟨e1, h1⟩ := oz_fst_get h.symm hi
    obtain ⟨e2, h2⟩ := oz_fst_get h.symm hj
    exact hD.1 i j _ _ h1 h2 hpq
  · obtain ⟨e1, h1⟩ := oz_fst_get h.symm hk
    exact hD.2 k (q.1, e1) h1
theorem oz_A_cong {ws ws2 : va_W} (h : ws.map Prod.fst = ws2.map Prod.fst) (sz q : Nat) (k : va_A ws sz q) : va_A ws2 sz q := by
  rcases k with ⟨k, e, hk⟩ | k
  · obtain ⟨e2, h2⟩ := oz_fst_get h hk
    exact Or.inl ⟨k, e2, h2⟩
  · exact Or.inr k
end
section
/-! THE ROAD OF ONE METHOD: G k pc L S st o: at pc, with the locals L, the stack S and the object's numbers st, the method comes to its end as o says (if o is the answer res); k throwables were made. -/
def oz_exn (n : Nat) : String := if n = 1 then "java/lang/IndexOutOfBoundsException" else if n = 2 then "java/lang/IllegalStateException" else "java/lang/IllegalArgumentException"
def oz_in (i : Int32) (n : Nat) : Bool := decide (0 ≤ i.toInt ∧ i.toInt < n)
theorem oz_in_spec {i : Int32} {n : Nat} (h : oz_in i n = true) : vp_in i n := vp_in_iff.mpr (of_decide_eq_true h)
/-- an index is in range, or there is no answer -/
def gd (b : Bool) (o : Option Res) : Option Res := if b = true then o else none
/-- the state is x now -/
def stp (x : ST) (f : ST → Option Res) : Option Res := f x
/-- the answer of a call; what it throws is thrown on -/
def bnd (o : Option Res) (f : Int32 → ST → Option Res) : Option Res := match o with
  | none => none
  | some (e, v, st) => if e = 0 then f v st else some (e, 0, st)
def oz_names : List String := ["java/lang/RuntimeException", "java/lang/Exception"]
/-- what the class of a throwable must be declared to have, and what isn't a good word -/
def oz_BX : List Cond := [.declares (Bundle.initS "java/lang/RuntimeException"), .declares (Bundle.initS "java/lang/Exception"), .declares (Bundle.initS "java/lang/Throwable"), .castable "java/lang/IndexOutOfBoundsException" "java/lang/IndexOutOfBoundsException", .castable "java/lang/IllegalStateException" "java/lang/IllegalStateException", .castable "java/lang/IllegalArgumentException" "java/lang/IllegalArgumentException"]
theorem oz_BX_on : ∀ w ∈ oz_BX, w.onTables = true := by decide +kernel
theorem oz_BX_all {P : Cond → Prop} (h : P (.declares (Bundle.initS "java/lang/RuntimeException")) ∧ P (.declares (Bundle.initS "java/lang/Exception")) ∧ P (.declares (Bundle.initS "java/lang/Throwable")) ∧ P (.castable "java/lang/IndexOutOfBoundsException" "java/lang/IndexOutOfBoundsException") ∧ P (.castable "java/lang/IllegalStateException" "java/lang/IllegalStateException") ∧ P (.castable "java/lang/IllegalArgumentException" "java/lang/IllegalArgumentException")) : ∀ w ∈ oz_BX, P w := by
  intro w hw
  simp only [oz_BX, List.mem_cons, List.not_mem_nil, or_false] at hw
  obtain ⟨h1, h2, h3, h4, h5, h6⟩ := h
  rcases hw with rfl | rfl | rfl | rfl | rfl | rfl <;> assumption
theorem oz_BX_warm {s U : State} (hW : s.WarmedH U.vm) (h : ∀ w ∈ oz_BX, va_Nw w s) : ∀ w ∈ oz_BX, va_Nw w U := by
  have g : ∀ {w}, w ∈ oz_BX → va_Nw w s := fun hw => h _ hw
  refine oz_BX_all ⟨va_Nw.warmD hW (g ?_), va_Nw.warmD hW (g ?_), va_Nw.warmD hW (g ?_), va_Nw.warmC hW (g ?_), va_Nw.warmC hW (g ?_), va_Nw.warmC hW (g ?_)⟩ <;> simp [oz_BX]
abbrev KSt : Type := List (Nat × String)
/-- what a method's caller gives -/
def oz_Pre (D : va_G) (cI cZ : ClassId) (own : String) (ci : Nat) (KS : KSt) (ad : Nat → Nat) (ly : LY) (sz : Nat) (st : ST) (U : State) : Prop :=
  U.heap.size = sz ∧ va_P D vwCl (oz_wd ci cI cZ ad ly st) U.heap ∧ va_K D vwCl [(cI, .int), (cZ, .boolean)] U ∧ va_D (fun _ => True) (oz_wd ci cI cZ ad ly st) ∧ (∀ q ∈ KS, ∃ sa, vk_R own q.1 q.2 sa U) ∧ (∀ w ∈ oz_BX, va_Nw w U) ∧
  vx_Zq Bundle.tN "UNASSIGNED_STACK" Bundle.steD (va_A (oz_wd ci cI cZ ad ly st) sz) U U.heap ∧ vx_Zq Bundle.tN "SUPPRESSED_SENTINEL" Bundle.listD (va_A (oz_wd ci cI cZ ad ly st) sz) U U.heap
theorem oz_Pre_blind {D : va_G} {cI cZ : ClassId} {own : String} {ci : Nat} {KS : KSt} {ad : Nat → Nat} {ly : LY} {sz : Nat} {st : ST} {av : List Value} : FrameBlind (va_Pc av (oz_Pre D cI cZ own ci KS ad ly sz st)) := by
  intro a U g mk q
  obtain ⟨q0, q1, q2, q3, q4, q5, q6, q7, q8⟩ := q
  exact ⟨q0, q1, q2, va_K.moved (u := U) (U := U.calling g mk a) (Vm.Alike.refl U.vm) q3, q4, fun x hx => (q5 x hx).elim fun sa h => ⟨sa, vk_R.same (u := U) rfl h⟩, fun x hx => va_Nw.same (u := U) (U := U.calling g mk a) (oz_BX_on x hx) rfl (q6 x hx), vx_Zq.moved (u := U) (Vm.Alike.refl U.vm) q7, vx_Zq.moved (u := U) (Vm.Alike.refl U.vm) q8⟩
def oz_B (D : va_G) (cI cZ : ClassId) (ci : Nat) (ad : Nat → Nat) (ly : LY) (u : ST) (t : State) : Prop := va_P D vwCl (oz_wd ci cI cZ ad ly u) t.heap
def oz_XC (D : va_G) (cI cZ : ClassId) (ci : Nat) (ad : Nat → Nat) (ly : LY) (res : Res) (A : Nat → Prop) : String → State → State → Prop :=
  vx_X (fun u : Nat × ST => (u.1, 0, u.2) = res ∧ u.1 ≠ 0) (fun E u t => E = oz_exn u.1 ∧ oz_B D cI cZ ci ad ly u.2 t) A
def oz_Qi (D : va_G) (cI cZ : ClassId) (ci : Nat) (ad : Nat → Nat) (ly : LY) (res : Res) (A : Nat → Prop) : Array Value → State → Outcome → State → Prop :=
  va_Qi (fun r u => (0, r, u) = res) (oz_B D cI cZ ci ad ly) A
def oz_Qv (D : va_G) (cI cZ : ClassId) (ci : Nat) (ad : Nat → Nat) (ly : LY) (res : Res) (A : Nat → Prop) : Array Value → State → Outcome → State → Prop :=
  va_Qv (fun u => (0, 0, u) = res) (oz_B D cI cZ ci ad ly) A
/-- THE CONTRACT of a method with a number for an answer: what it answers, or throws, is o -/
def oz_MI (l : Launch) (y : MethodName) (ws : List Cond) (rm : Room) (D : va_G) (cI cZ : ClassId) (own : String) (ci : Nat) (KS : KSt) (ad : Nat → Nat) (ly : LY) (kc : Nat) (av : List Value) (o : ST → Option Res) : Prop :=
  ∀ (sz : Nat) (st : ST) (res : Res), o st = some res → vx_Met l y ws rm (va_Pc av (oz_Pre D cI cZ own ci KS ad ly sz st)) (oz_Qi D cI cZ ci ad ly res (va_A (oz_wd ci cI cZ ad ly st) sz)) (oz_XC D cI cZ ci ad ly res (va_A (oz_wd ci cI cZ ad ly st) sz)) kc (6 * kc) (va_A (oz_wd ci cI cZ ad ly st) sz)
/-- .. without an answer -/
def oz_MV (l : Launch) (y : MethodName) (ws : List Cond) (rm : Room) (D : va_G) (cI cZ : ClassId) (own : String) (ci : Nat) (KS : KSt) (ad : Nat → Nat) (ly : LY) (kc : Nat) (av : List Value) (o : ST → Option Res) : Prop :=
  ∀ (sz : Nat) (st : ST) (res : Res), o st = some res → vx_Met l y ws rm (va_Pc av (oz_Pre D cI cZ own ci KS ad ly sz st)) (oz_Qv D cI cZ ci ad ly res (va_A (oz_wd ci cI cZ ad ly st) sz)) (oz_XC D cI cZ ci ad ly res (va_A (oz_wd ci cI cZ ad ly st) sz)) kc (6 * kc) (va_A (oz_wd ci cI cZ ad ly st) sz)
/-- what is known of a class -/
def oz_C (own : String) (ci : Nat) (T : u_T) (N : Nat) (ly : LY) : Prop :=
  vwCl[ci]? = some (own, T, N) ∧ ly.length = N ∧ (∀ k, k < N → (T k).1 = own) ∧ (∃ ty0 : Nat → FieldType, (∀ k, k < N → parseFieldDescriptor (T k).2.2.1 = some (ty0 k)) ∧ ∀ k b, ly[k]? = some (0, b) → ty0 k = .int ∧ (T k).2.2.2 = false) ∧ ∀ a, a < N → ∀ b, b < N → a ≠ b → (T a).2.1 ≠ (T b).2.1
section OZ
variable {p : Program} {l : Launch} {e : Env} {R : Room} {s : State} {m : MethodId} {args : Array Value} {below : List Frame} {meth : Method} {c : Code} {Q : State → Prop}
variable {cc : ByteArray} {nL : Nat} {Ts : List Cond} {own : String} {D : va_G} {cI cZ : ClassId} {ci : Nat} {T : u_T} {N : Nat} {KS : KSt} {ly : LY} {ad : Nat → Nat} {A : Nat → Prop} {res : Res}
variable {G : Nat → Nat → List (Nat × Value) → List Value → ST → Option Res → Prop}
def oz_E (p : Program) (l : Launch) (e : Env) (R : Room) (s : State) (m : MethodId) (args : Array Value) (below : List Frame) (meth : Method) (c : Code) (Q : State → Prop) (cc : ByteArray) (nL : Nat) (Ts : List Cond) (own : String) (D : va_G) (cI cZ : ClassId) (ci : Nat) (T : u_T) (N : Nat) (KS : KSt) (ly : LY) (ad : Nat → Nat) (A : Nat → Prop) (res : Res) (G : Nat → Nat → List (Nat × Value) → List Value → ST → Option Res → Prop) : Prop :=
  (G = fun k pc L S st o => o = some res → ∀ (H : Heap) (locs : List Loc) (ls : Array Slot), va_P D vwCl (oz_wd ci cI cZ ad ly st) H → va_S A s.heap H locs → lv_has ls nL L → W p l e R s m args below meth c H locs k (6 * k) Q (F0 m pc ls S)) ∧
  CallFix p m c cc nL s args Ts own ∧ va_K D vwCl [(cI, .int), (cZ, .boolean)] s ∧ (∀ st, va_D A (oz_wd ci cI cZ ad ly st)) ∧ (∀ q, s.heap.size ≤ q → A q) ∧ oz_C own ci T N ly ∧ (∀ w ∈ u_ws own T N, w ∈ Ts) ∧
  (∀ q ∈ KS, ∃ sa, vk_R own q.1 q.2 sa s) ∧ (∀ w ∈ oz_BX, va_Nw w s) ∧ vx_Zq Bundle.tN "UNASSIGNED_STACK" Bundle.steD A s s.heap ∧ vx_Zq Bundle.tN "SUPPRESSED_SENTINEL" Bundle.listD A s s.heap ∧ l.stackTraces = false ∧ meth.locks = false ∧ (∀ x ∈ c.exceptionTable.toList, False)
variable {pc k : Nat} {L : List (Nat × Value)} {S : List Value} {st : ST} {o o1 o2 : Option Res}
theorem oz_E.hts (X : oz_E p l e R s m args below meth c Q cc nL Ts own D cI cZ ci T N KS ly ad A res G) : ∀ w ∈ Ts, w.before args s = true := X.2.1.2.2.2.2
/-- a shorter list of locals is enough -/
theorem oz_sub (X : oz_E p l e R s m args below meth c Q cc nL Ts own D cI cZ ci T N KS ly ad A res G) (ks : List Nat) {L2 : List (Nat × Value)} (h : lv_pick L ks = L2) (kk : G k pc L2 S st o) : G k pc L S st o := by
  obtain ⟨rfl, -⟩ := X
  intro ho H locs ls hP hS hl
  exact kk ho H locs ls hP hS (lv_sub hl ks h)
theorem oz_eq {o3 : Option Res} (h : o3 = o) (kk : G k pc L S st o) : G k pc L S st o3 := h ▸ kk

theorem oz_iconst (X : oz_E p l e R s m args below meth c Q cc nL Ts own D cI cZ ci T N KS ly ad A res G) {n : Int} {v : Int32} (d : decode cc pc = .ok (.iconst n, 1)) (hv : Int32.ofInt n = v) (kk : G k (pc + 1) L (.int v :: S) st o) : G k pc L (S) st o := by
  obtain ⟨rfl, ⟨hx, hb, -⟩, -⟩ := X
  intro ho H locs ls hP hS hl
  exact lv_iconst hx hb d hv (kk ho H locs ls hP hS hl)
theorem oz_bipush (X : oz_E p l e R s m args below meth c Q cc nL Ts own D cI cZ ci T N KS ly ad A res G) {n : Int} {v : Int32} (d : decode cc pc = .ok (.bipush n, 2)) (hv : (Int8.ofInt n).toInt32 = v) (kk : G k (pc + 2) L (.int v :: S) st o) : G k pc L (S) st o := by
  obtain ⟨rfl, ⟨hx, hb, -⟩, -⟩ := X
  intro ho H locs ls hP hS hl
  exact lv_bipush hx hb d hv (kk ho H locs ls hP hS hl)
theorem oz_sipush (X : oz_E p l e R s m args below meth c Q cc nL Ts own D cI cZ ci T N KS ly ad A res G) {n : Int} {v : Int32} (d : decode cc pc = .ok (.sipush n, 3)) (hv : (Int16.ofInt n).toInt32 = v) (kk : G k (pc + 3) L (.int v :: S) st o) : G k pc L (S) st o := by
  obtain ⟨rfl, ⟨hx, hb, -⟩, -⟩ := X
  intro ho H locs ls hP hS hl
  exact lv_sipush hx hb d hv (kk ho H locs ls hP hS hl)
theorem oz_iload_n (X : oz_E p l e R s m args below meth c Q cc nL Ts own D cI cZ ci T N KS ly ad A res G) {j : Fin 4} {i : Nat} {x : Int32} (d : decode cc pc = .ok (.iload_n j, 1)) (hi : (j : Nat) = i) (q : Nat) (hq : L[q]? = some (i, .int x)) (kk : G k (pc + 1) L (.int x :: S) st o) : G k pc L (S) st o := by
  obtain ⟨rfl, ⟨hx, hb, -⟩, -⟩ := X
  intro ho H locs ls hP hS hl
  exact lv_iload_n hx hb d hi (lv_at hl q hq) (kk ho H locs ls hP hS hl)
theorem oz_iload (X : oz_E p l e R s m args below meth c Q cc nL Ts own D cI cZ ci T N KS ly ad A res G) {i : Nat} {x : Int32} (d : decode cc pc = .ok (.iload i, 2)) (q : Nat) (hq : L[q]? = some (i, .int x)) (kk : G k (pc + 2) L (.int x :: S) st o) : G k pc L (S) st o := by
  obtain ⟨rfl, ⟨hx, hb, -⟩, -⟩ := X
  intro ho H locs ls hP hS hl
  exact lv_iload hx hb d (lv_at hl q hq) (kk ho H locs ls hP hS hl)
theorem oz_aload_n (X : oz_E p l e R s m args below meth c Q cc nL Ts own D cI cZ ci T N KS ly ad A res G) {j : Fin 4} {i x : Nat} (d : decode cc pc = .ok (.aload_n j, 1)) (hi : (j : Nat) = i) (q : Nat) (hq : L[q]? = some (i, .ref x)) (kk : G k (pc + 1) L (.ref x :: S) st o) : G k pc L (S) st o := by
  obtain ⟨rfl, ⟨hx, hb, -⟩, -⟩ := X
  intro ho H locs ls hP hS hl
  exact lv_aload_n hx hb d hi (lv_at hl q hq) (kk ho H locs ls hP hS hl)
theorem oz_iadd (X : oz_E p l e R s m args below meth c Q cc nL Ts own D cI cZ ci T N KS ly ad A res G) {x y : Int32} (d : decode cc pc = .ok (.iadd, 1)) (kk : G k (pc + 1) L (.int (x + y) :: S) st o) : G k pc L (.int y :: .int x :: S) st o := by
  obtain ⟨rfl, ⟨hx, hb, -⟩, -⟩ := X
  intro ho H locs ls hP hS hl
  exact lv_iadd hx hb d (kk ho H locs ls hP hS hl)
theorem oz_isub (X : oz_E p l e R s m args below meth c Q cc nL Ts own D cI cZ ci T N KS ly ad A res G) {x y : Int32} (d : decode cc pc = .ok (.isub, 1)) (kk : G k (pc + 1) L (.int (x - y) :: S) st o) : G k pc L (.int y :: .int x :: S) st o := by
  obtain ⟨rfl, ⟨hx, hb, -⟩, -⟩ := X
  intro ho H locs ls hP hS hl
  exact lv_isub hx hb d (kk ho H locs ls hP hS hl)
theorem oz_imul (X : oz_E p l e R s m args below meth c Q cc nL Ts own D cI cZ ci T N KS ly ad A res G) {x y : Int32} (d : decode cc pc = .ok (.imul, 1)) (kk : G k (pc + 1) L (.int (x * y) :: S) st o) : G k pc L (.int y :: .int x :: S) st o := by
  obtain ⟨rfl, ⟨hx, hb, -⟩, -⟩ := X
  intro ho H locs ls hP hS hl
  exact lv_imul hx hb d (kk ho H locs ls hP hS hl)
theorem oz_ineg (X : oz_E p l e R s m args below meth c Q cc nL Ts own D cI cZ ci T N KS ly ad A res G) {x : Int32} (d : decode cc pc = .ok (.ineg, 1)) (kk : G k (pc + 1) L (.int (-x) :: S) st o) : G k pc L (.int x :: S) st o := by
  obtain ⟨rfl, ⟨hx, hb, -⟩, -⟩ := X
  intro ho H locs ls hP hS hl
  exact lv_ineg hx hb d (kk ho H locs ls hP hS hl)
theorem oz_dup (X : oz_E p l e R s m args below meth c Q cc nL Ts own D cI cZ ci T N KS ly ad A res G) {a : Value} (d : decode cc pc = .ok (.dup, 1)) (ha : a.category = 1) (kk : G k (pc + 1) L (a :: a :: S) st o) : G k pc L (a :: S) st o := by
  obtain ⟨rfl, ⟨hx, hb, -⟩, -⟩ := X
  intro ho H locs ls hP hS hl
  exact lv_dup hx hb d ha (kk ho H locs ls hP hS hl)
theorem oz_pop (X : oz_E p l e R s m args below meth c Q cc nL Ts own D cI cZ ci T N KS ly ad A res G) {a : Value} (d : decode cc pc = .ok (.pop, 1)) (ha : a.category = 1) (kk : G k (pc + 1) L (S) st o) : G k pc L (a :: S) st o := by
  obtain ⟨rfl, ⟨hx, hb, -⟩, -⟩ := X
  intro ho H locs ls hP hS hl
  exact lv_pop hx hb d ha (kk ho H locs ls hP hS hl)
theorem oz_dup_x1 (X : oz_E p l e R s m args below meth c Q cc nL Ts own D cI cZ ci T N KS ly ad A res G) {a b : Value} (d : decode cc pc = .ok (.dup_x1, 1)) (ha : a.category = 1) (hb2 : b.category = 1) (kk : G k (pc + 1) L (a :: b :: a :: S) st o) : G k pc L (a :: b :: S) st o := by
  obtain ⟨rfl, ⟨hx, hb, -⟩, -⟩ := X
  intro ho H locs ls hP hS hl
  exact lv_dup_x1 hx hb d ha hb2 (kk ho H locs ls hP hS hl)
theorem oz_dup2 (X : oz_E p l e R s m args below meth c Q cc nL Ts own D cI cZ ci T N KS ly ad A res G) {a b : Value} (d : decode cc pc = .ok (.dup2, 1)) (ha : a.category = 1) (hb2 : b.category = 1) (kk : G k (pc + 1) L (a :: b :: a :: b :: S) st o) : G k pc L (a :: b :: S) st o := by
  obtain ⟨rfl, ⟨hx, hb, -⟩, -⟩ := X
  intro ho H locs ls hP hS hl
  exact lv_dup2_11 hx hb d ha hb2 (kk ho H locs ls hP hS hl)
theorem oz_istore_n (X : oz_E p l e R s m args below meth c Q cc nL Ts own D cI cZ ci T N KS ly ad A res G) {j : Fin 4} {i : Nat} {x : Int32} {L2 : List (Nat × Value)} (d : decode cc pc = .ok (.istore_n j, 1)) (hi : (j : Nat) = i) (hn : i < nL) (hL : (i, Value.int x) :: L.filter (fun q => !(q.1 == i) && !(q.1 + 1 == i && q.2.category == 2)) = L2) (kk : G k (pc + 1) L2 S st o) : G k pc L (.int x :: S) st o := by
  obtain ⟨rfl, ⟨hx, hb, -⟩, -⟩ := X
  intro ho H locs ls hP hS hl
  exact lv_istore_n hx hb d hi hl hn hL (fun ls2 hl2 => kk ho H locs ls2 hP hS hl2)
theorem oz_istore (X : oz_E p l e R s m args below meth c Q cc nL Ts own D cI cZ ci T N KS ly ad A res G)  {i : Nat} {x : Int32} {L2 : List (Nat × Value)} (d : decode cc pc = .ok (.istore i, 2))  (hn : i < nL) (hL : (i, Value.int x) :: L.filter (fun q => !(q.1 == i) && !(q.1 + 1 == i && q.2.category == 2)) = L2) (kk : G k (pc + 2) L2 S st o) : G k pc L (.int x :: S) st o := by
  obtain ⟨rfl, ⟨hx, hb, -⟩, -⟩ := X
  intro ho H locs ls hP hS hl
  exact lv_istore hx hb d hl hn hL (fun ls2 hl2 => kk ho H locs ls2 hP hS hl2)
theorem oz_iinc (X : oz_E p l e R s m args below meth c Q cc nL Ts own D cI cZ ci T N KS ly ad A res G) {i q : Nat} {n : Int} {x v : Int32} {L2 : List (Nat × Value)} (d : decode cc pc = .ok (.iinc i n, 3)) (hq : L[q]? = some (i, .int x)) (hv : x + Int32.ofInt n = v) (hn : i < nL) (hL : (i, Value.int v) :: L.filter (fun q => !(q.1 == i) && !(q.1 + 1 == i && q.2.category == 2)) = L2) (kk : G k (pc + 3) L2 S st o) : G k pc L S st o := by
  obtain ⟨rfl, ⟨hx, hb, -⟩, -⟩ := X
  intro ho H locs ls hP hS hl
  exact lv_iinc hx hb d hl hq hv hn hL (fun ls2 hl2 => kk ho H locs ls2 hP hS hl2)
theorem oz_if_eq (X : oz_E p l e R s m args below meth c Q cc nL Ts own D cI cZ ci T N KS ly ad A res G) {x : Int32} {off : Int} {tgt : Nat} (d : decode cc pc = .ok (.ifCond .eq off, 3)) (ht : (pc : Int) + off = (tgt : Int)) (k1 : x = 0 → G k tgt L S st o1) (k2 : ¬ x = 0 → G k (pc + 3) L S st o2) : G k pc L (.int x :: S) st (if x = 0 then o1 else o2) := by
  obtain ⟨rfl, ⟨hx, hb, -⟩, -⟩ := X
  intro ho H locs ls hP hS hl
  exact lv_if_eq hx hb d ht (fun h => (k1 h (by rw [if_pos h] at ho; exact ho) H locs ls hP hS hl)) (fun h => (k2 h (by rw [if_neg h] at ho; exact ho) H locs ls hP hS hl))
theorem oz_icmp_eq (X : oz_E p l e R s m args below meth c Q cc nL Ts own D cI cZ ci T N KS ly ad A res G) {x y : Int32} {off : Int} {tgt : Nat} (d : decode cc pc = .ok (.if_icmp .eq off, 3)) (ht : (pc : Int) + off = (tgt : Int)) (k1 : x = y → G k tgt L S st o1) (k2 : ¬ x = y → G k (pc + 3) L S st o2) : G k pc L (.int y :: .int x :: S) st (if x = y then o1 else o2) := by
  obtain ⟨rfl, ⟨hx, hb, -⟩, -⟩ := X
  intro ho H locs ls hP hS hl
  exact lv_icmp_eq hx hb d ht (fun h => (k1 h (by rw [if_pos h] at ho; exact ho) H locs ls hP hS hl)) (fun h => (k2 h (by rw [if_neg h] at ho; exact ho) H locs ls hP hS hl))
theorem oz_if_ne (X : oz_E p l e R s m args below meth c Q cc nL Ts own D cI cZ ci T N KS ly ad A res G) {x : Int32} {off : Int} {tgt : Nat} (d : decode cc pc = .ok (.ifCond .ne off, 3)) (ht : (pc : Int) + off = (tgt : Int)) (k1 : ¬ x = 0 → G k tgt L S st o1) (k2 : x = 0 → G k (pc + 3) L S st o2) : G k pc L (.int x :: S) st (if x = 0 then o2 else o1) := by
  obtain ⟨rfl, ⟨hx, hb, -⟩, -⟩ := X
  intro ho H locs ls hP hS hl
  exact lv_if_ne hx hb d ht (fun h => (k1 h (by rw [if_neg h] at ho; exact ho) H locs ls hP hS hl)) (fun h => (k2 h (by rw [if_pos h] at ho; exact ho) H locs ls hP hS hl))
theorem oz_icmp_ne (X : oz_E p l e R s m args below meth c Q cc nL Ts own D cI cZ ci T N KS ly ad A res G) {x y : Int32} {off : Int} {tgt : Nat} (d : decode cc pc = .ok (.if_icmp .ne off, 3)) (ht : (pc : Int) + off = (tgt : Int)) (k1 : ¬ x = y → G k tgt L S st o1) (k2 : x = y → G k (pc + 3) L S st o2) : G k pc L (.int y :: .int x :: S) st (if x = y then o2 else o1) := by
  obtain ⟨rfl, ⟨hx, hb, -⟩, -⟩ := X
  intro ho H locs ls hP hS hl
  exact lv_icmp_ne hx hb d ht (fun h => (k1 h (by rw [if_neg h] at ho; exact ho) H locs ls hP hS hl)) (fun h => (k2 h (by rw [if_pos h] at ho; exact ho) H locs ls hP hS hl))
theorem oz_if_lt (X : oz_E p l e R s m args below meth c Q cc nL Ts own D cI cZ ci T N KS ly ad A res G) {x : Int32} {off : Int} {tgt : Nat} (d : decode cc pc = .ok (.ifCond .lt off, 3)) (ht : (pc : Int) + off = (tgt : Int)) (k1 : x < 0 → G k tgt L S st o1) (k2 : ¬ x < 0 → G k (pc + 3) L S st o2) : G k pc L (.int x :: S) st (if x < 0 then o1 else o2) := by
  obtain ⟨rfl, ⟨hx, hb, -⟩, -⟩ := X
  intro ho H locs ls hP hS hl
  exact lv_if_lt hx hb d ht (fun h => (k1 h (by rw [if_pos h] at ho; exact ho) H locs ls hP hS hl)) (fun h => (k2 h (by rw [if_neg h] at ho; exact ho) H locs ls hP hS hl))
theorem oz_icmp_lt (X : oz_E p l e R s m args below meth c Q cc nL Ts own D cI cZ ci T N KS ly ad A res G) {x y : Int32} {off : Int} {tgt : Nat} (d : decode cc pc = .ok (.if_icmp .lt off, 3)) (ht : (pc : Int) + off = (tgt : Int)) (k1 : x < y → G k tgt L S st o1) (k2 : ¬ x < y → G k (pc + 3) L S st o2) : G k pc L (.int y :: .int x :: S) st (if x < y then o1 else o2) := by
  obtain ⟨rfl, ⟨hx, hb, -⟩, -⟩ := X
  intro ho H locs ls hP hS hl
  exact lv_icmp_lt hx hb d ht (fun h => (k1 h (by rw [if_pos h] at ho; exact ho) H locs ls hP hS hl)) (fun h => (k2 h (by rw [if_neg h] at ho; exact ho) H locs ls hP hS hl))
theorem oz_if_ge (X : oz_E p l e R s m args below meth c Q cc nL Ts own D cI cZ ci T N KS ly ad A res G) {x : Int32} {off : Int} {tgt : Nat} (d : decode cc pc = .ok (.ifCond .ge off, 3)) (ht : (pc : Int) + off = (tgt : Int)) (k1 : 0 ≤ x → G k tgt L S st o1) (k2 : ¬ 0 ≤ x → G k (pc + 3) L S st o2) : G k pc L (.int x :: S) st (if 0 ≤ x then o1 else o2) := by
  obtain ⟨rfl, ⟨hx, hb, -⟩, -⟩ := X
  intro ho H locs ls hP hS hl
  exact lv_if_ge hx hb d ht (fun h => (k1 h (by rw [if_pos h] at ho; exact ho) H locs ls hP hS hl)) (fun h => (k2 h (by rw [if_neg h] at ho; exact ho) H locs ls hP hS hl))
theorem oz_icmp_ge (X : oz_E p l e R s m args below meth c Q cc nL Ts own D cI cZ ci T N KS ly ad A res G) {x y : Int32} {off : Int} {tgt : Nat} (d : decode cc pc = .ok (.if_icmp .ge off, 3)) (ht : (pc : Int) + off = (tgt : Int)) (k1 : y ≤ x → G k tgt L S st o1) (k2 : ¬ y ≤ x → G k (pc + 3) L S st o2) : G k pc L (.int y :: .int x :: S) st (if y ≤ x then o1 else o2) := by
  obtain ⟨rfl, ⟨hx, hb, -⟩, -⟩ := X
  intro ho H locs ls hP hS hl
  exact lv_icmp_ge hx hb d ht (fun h => (k1 h (by rw [if_pos h] at ho; exact ho) H locs ls hP hS hl)) (fun h => (k2 h (by rw [if_neg h] at ho; exact ho) H locs ls hP hS hl))
theorem oz_if_gt (X : oz_E p l e R s m args below meth c Q cc nL Ts own D cI cZ ci T N KS ly ad A res G) {x : Int32} {off : Int} {tgt : Nat} (d : decode cc pc = .ok (.ifCond .gt off, 3)) (ht : (pc : Int) + off = (tgt : Int)) (k1 : 0 < x → G k tgt L S st o1) (k2 : ¬ 0 < x → G k (pc + 3) L S st o2) : G k pc L (.int x :: S) st (if 0 < x then o1 else o2) := by
  obtain ⟨rfl, ⟨hx, hb, -⟩, -⟩ := X
  intro ho H locs ls hP hS hl
  exact lv_if_gt hx hb d ht (fun h => (k1 h (by rw [if_pos h] at ho; exact ho) H locs ls hP hS hl)) (fun h => (k2 h (by rw [if_neg h] at ho; exact ho) H locs ls hP hS hl))
theorem oz_icmp_gt (X : oz_E p l e R s m args below meth c Q cc nL Ts own D cI cZ ci T N KS ly ad A res G) {x y : Int32} {off : Int} {tgt : Nat} (d : decode cc pc = .ok (.if_icmp .gt off, 3)) (ht : (pc : Int) + off = (tgt : Int)) (k1 : y < x → G k tgt L S st o1) (k2 : ¬ y < x → G k (pc + 3) L S st o2) : G k pc L (.int y :: .int x :: S) st (if y < x then o1 else o2) := by
  obtain ⟨rfl, ⟨hx, hb, -⟩, -⟩ := X
  intro ho H locs ls hP hS hl
  exact lv_icmp_gt hx hb d ht (fun h => (k1 h (by rw [if_pos h] at ho; exact ho) H locs ls hP hS hl)) (fun h => (k2 h (by rw [if_neg h] at ho; exact ho) H locs ls hP hS hl))
theorem oz_if_le (X : oz_E p l e R s m args below meth c Q cc nL Ts own D cI cZ ci T N KS ly ad A res G) {x : Int32} {off : Int} {tgt : Nat} (d : decode cc pc = .ok (.ifCond .le off, 3)) (ht : (pc : Int) + off = (tgt : Int)) (k1 : x ≤ 0 → G k tgt L S st o1) (k2 : ¬ x ≤ 0 → G k (pc + 3) L S st o2) : G k pc L (.int x :: S) st (if x ≤ 0 then o1 else o2) := by
  obtain ⟨rfl, ⟨hx, hb, -⟩, -⟩ := X
  intro ho H locs ls hP hS hl
  exact lv_if_le hx hb d ht (fun h => (k1 h (by rw [if_pos h] at ho; exact ho) H locs ls hP hS hl)) (fun h => (k2 h (by rw [if_neg h] at ho; exact ho) H locs ls hP hS hl))
theorem oz_icmp_le (X : oz_E p l e R s m args below meth c Q cc nL Ts own D cI cZ ci T N KS ly ad A res G) {x y : Int32} {off : Int} {tgt : Nat} (d : decode cc pc = .ok (.if_icmp .le off, 3)) (ht : (pc : Int) + off = (tgt : Int)) (k1 : x ≤ y → G k tgt L S st o1) (k2 : ¬ x ≤ y → G k (pc + 3) L S st o2) : G k pc L (.int y :: .int x :: S) st (if x ≤ y then o1 else o2) := by
  obtain ⟨rfl, ⟨hx, hb, -⟩, -⟩ := X
  intro ho H locs ls hP hS hl
  exact lv_icmp_le hx hb d ht (fun h => (k1 h (by rw [if_pos h] at ho; exact ho) H locs ls hP hS hl)) (fun h => (k2 h (by rw [if_neg h] at ho; exact ho) H locs ls hP hS hl))
theorem oz_goto (X : oz_E p l e R s m args below meth c Q cc nL Ts own D cI cZ ci T N KS ly ad A res G) {off : Int} {tgt : Nat} (d : decode cc pc = .ok (.goto off, 3)) (ht : (pc : Int) + off = (tgt : Int)) (kk : G k tgt L S st o) : G k pc L S st o := by
  obtain ⟨rfl, ⟨hx, hb, -⟩, -⟩ := X
  intro ho H locs ls hP hS hl
  exact lv_goto hx hb d ht (kk ho H locs ls hP hS hl)
theorem oz_getA (X : oz_E p l e R s m args below meth c Q cc nL Ts own D cI cZ ci T N KS ly ad A res G) {j n index : Nat} {b : Bool} (hj : ly[j]? = some (n + 1, b)) (hlink : Cond.fieldLink own index own (T j).2.1 (T j).2.2.1 ∈ Ts) (d : decode cc pc = .ok (.getfield index, 3)) (kk : G k (pc + 3) L (.ref (ad (j + 1)) :: S) st o) : G k pc L (.ref (ad 0) :: S) st o := by
  obtain ⟨rfl, ⟨hx, hb, hml, hown, hts⟩, hK, hD, hA, hC, hin, -⟩ := X
  intro ho H locs ls hP hS hl
  have hjN : j < N := by rw [← hC.2.1]; exact (List.getElem?_eq_some_iff.mp hj).1
  refine va_get (ref := own) hx hb hts hin hown hK hP 0 (oz_wd_obj ci cI cZ ad ly st) hC.1 j hjN (hts _ hlink) (fun x h => by rw [hC.2.2.1 j hjN] at h; exact h) (v := .ref (ad (j + 1))) ?_ d (kk ho H locs ls hP hS hl)
  rw [oz_fl_ref ad st ly 0 j hj, Nat.zero_add]
theorem oz_getS (X : oz_E p l e R s m args below meth c Q cc nL Ts own D cI cZ ci T N KS ly ad A res G) {j index : Nat} {b : Bool} (hj : ly[j]? = some (0, b)) (hlink : Cond.fieldLink own index own (T j).2.1 (T j).2.2.1 ∈ Ts) (d : decode cc pc = .ok (.getfield index, 3)) (kk : G k (pc + 3) L (.int (st 0 j) :: S) st o) : G k pc L (.ref (ad 0) :: S) st o := by
  obtain ⟨rfl, ⟨hx, hb, hml, hown, hts⟩, hK, hD, hA, hC, hin, -⟩ := X
  intro ho H locs ls hP hS hl
  have hjN : j < N := by rw [← hC.2.1]; exact (List.getElem?_eq_some_iff.mp hj).1
  refine va_get (ref := own) hx hb hts hin hown hK hP 0 (oz_wd_obj ci cI cZ ad ly st) hC.1 j hjN (hts _ hlink) (fun x h => by rw [hC.2.2.1 j hjN] at h; exact h) (v := .int (st 0 j)) ?_ d (kk ho H locs ls hP hS hl)
  rw [oz_fl_int ad st ly 0 j hj, Nat.zero_add]
theorem oz_putS (X : oz_E p l e R s m args below meth c Q cc nL Ts own D cI cZ ci T N KS ly ad A res G) {j index : Nat} {b : Bool} {v : Int32} {f : ST → Option Res} (hj : ly[j]? = some (0, b)) (hlink : Cond.fieldLink own index own (T j).2.1 (T j).2.2.1 ∈ Ts) (d : decode cc pc = .ok (.putfield index, 3)) (kk : ∀ st2, st2 = oz_se st 0 j v → G k (pc + 3) L S st2 (f st2)) : G k pc L (.int v :: .ref (ad 0) :: S) st (stp (oz_se st 0 j v) f) := by
  obtain ⟨rfl, ⟨hx, hb, hml, hown, hts⟩, hK, hD, hA, hC, hin, -⟩ := X
  intro ho H locs ls hP hS hl
  have hjN : j < N := by rw [← hC.2.1]; exact (List.getElem?_eq_some_iff.mp hj).1
  obtain ⟨ty0, ht1, ht2⟩ := hC.2.2.2.1
  refine va_put (ref := own) hx hb hts hin ty0 ht1 hC.2.2.2.2 hown hK hP (hD st) hS 0 (oz_wd_obj ci cI cZ ad ly st) hC.1 j hjN (hts _ hlink) (fun x h => by rw [hC.2.2.1 j hjN] at h; exact h) (ht2 j b hj).2 (ty := .int) (v := .int v) (by rw [ht1 j hjN, (ht2 j b hj).1]) rfl rfl (by rw [oz_fl_len, hC.2.1]; exact hjN) d (fun H1 locs1 hP1 _ hS1 => ?_)
  rw [oz_wd_put ci cI cZ ad ly st hj v] at hP1
  exact kk _ rfl ho H1 locs1 ls hP1 hS1 hl
theorem oz_iald (X : oz_E p l e R s m args below meth c Q cc nL Ts own D cI cZ ci T N KS ly ad A res G) {j n : Nat} {i : Int32} (hj : ly[j]? = some (n, false)) (hn : 0 < n) (d : decode cc pc = .ok (.iaload, 1)) (kk : oz_in i n = true → G k (pc + 1) L (.int (st (j + 1) i.toNatClampNeg) :: S) st o) : G k pc L (.int i :: .ref (ad (j + 1)) :: S) st (gd (oz_in i n) o) := by
  obtain ⟨rfl, ⟨hx, hb, hml, hown, hts⟩, hK, hD, hA, hC, hin, -⟩ := X
  intro ho H locs ls hP hS hl
  by_cases hi : oz_in i n = true
  · rw [gd, if_pos hi] at ho
    obtain ⟨n0, rfl⟩ : ∃ n0, n = n0 + 1 := ⟨n - 1, by omega⟩
    obtain ⟨q, hq, -⟩ := oz_wd_get ci cI cZ ad ly st hj
    exact va_iald hx hb hK hP q 0 hq rfl (oz_in_spec hi) d (kk hi ho H locs ls hP hS hl)
  · rw [gd, if_neg hi] at ho
    cases ho
theorem oz_zald (X : oz_E p l e R s m args below meth c Q cc nL Ts own D cI cZ ci T N KS ly ad A res G) {j n : Nat} {i : Int32} (hj : ly[j]? = some (n, true)) (hn : 0 < n) (d : decode cc pc = .ok (.baload, 1)) (kk : oz_in i n = true → G k (pc + 1) L (.int (st (j + 1) i.toNatClampNeg) :: S) st o) : G k pc L (.int i :: .ref (ad (j + 1)) :: S) st (gd (oz_in i n) o) := by
  obtain ⟨rfl, ⟨hx, hb, hml, hown, hts⟩, hK, hD, hA, hC, hin, -⟩ := X
  intro ho H locs ls hP hS hl
  by_cases hi : oz_in i n = true
  · rw [gd, if_pos hi] at ho
    obtain ⟨n0, rfl⟩ : ∃ n0, n = n0 + 1 := ⟨n - 1, by omega⟩
    obtain ⟨q, hq, -⟩ := oz_wd_get ci cI cZ ad ly st hj
    exact va_zald hx hb hK hP q 1 hq rfl (oz_in_spec hi) d (kk hi ho H locs ls hP hS hl)
  · rw [gd, if_neg hi] at ho
    cases ho
theorem oz_iast (X : oz_E p l e R s m args below meth c Q cc nL Ts own D cI cZ ci T N KS ly ad A res G) {j n : Nat} {i v : Int32} {f : ST → Option Res} (hj : ly[j]? = some (n, false)) (hn : 0 < n) (d : decode cc pc = .ok (.iastore, 1)) (kk : ∀ st2, st2 = oz_se st (j + 1) i.toNatClampNeg v → oz_in i n = true → G k (pc + 1) L S st2 (f st2)) : G k pc L (.int v :: .int i :: .ref (ad (j + 1)) :: S) st (gd (oz_in i n) (stp (oz_se st (j + 1) i.toNatClampNeg v) f)) := by
  obtain ⟨rfl, ⟨hx, hb, hml, hown, hts⟩, hK, hD, hA, hC, hin, -⟩ := X
  intro ho H locs ls hP hS hl
  by_cases hi : oz_in i n = true
  · rw [gd, if_pos hi] at ho
    obtain ⟨n0, rfl⟩ : ∃ n0, n = n0 + 1 := ⟨n - 1, by omega⟩
    obtain ⟨q, hq, hset⟩ := oz_wd_get ci cI cZ ad ly st hj
    refine va_iast hx hb hK hP (hD st) hS q 0 hq rfl (oz_in_spec hi) d (fun H1 locs1 hP1 _ hS1 => ?_)
    have e := hset i.toNatClampNeg v
    rw [e] at hP1
    exact kk _ rfl hi ho H1 locs1 ls hP1 hS1 hl
  · rw [gd, if_neg hi] at ho
    cases ho
theorem oz_zast (X : oz_E p l e R s m args below meth c Q cc nL Ts own D cI cZ ci T N KS ly ad A res G) {j n : Nat} {i v v2 : Int32} {f : ST → Option Res} (hj : ly[j]? = some (n, true)) (hn : 0 < n) (hv : vp_nar .boolean v = v2) (d : decode cc pc = .ok (.bastore, 1)) (kk : ∀ st2, st2 = oz_se st (j + 1) i.toNatClampNeg v2 → oz_in i n = true → G k (pc + 1) L S st2 (f st2)) : G k pc L (.int v :: .int i :: .ref (ad (j + 1)) :: S) st (gd (oz_in i n) (stp (oz_se st (j + 1) i.toNatClampNeg v2) f)) := by
  obtain ⟨rfl, ⟨hx, hb, hml, hown, hts⟩, hK, hD, hA, hC, hin, -⟩ := X
  intro ho H locs ls hP hS hl
  subst hv
  by_cases hi : oz_in i n = true
  · rw [gd, if_pos hi] at ho
    obtain ⟨n0, rfl⟩ : ∃ n0, n = n0 + 1 := ⟨n - 1, by omega⟩
    obtain ⟨q, hq, hset⟩ := oz_wd_get ci cI cZ ad ly st hj
    refine va_zast hx hb hK hP (hD st) hS q 1 hq rfl (oz_in_spec hi) d (fun H1 locs1 hP1 _ hS1 => ?_)
    have e := hset i.toNatClampNeg (vp_nar .boolean v)
    rw [e] at hP1
    exact kk _ rfl hi ho H1 locs1 ls hP1 hS1 hl
  · rw [gd, if_neg hi] at ho
    cases ho

/-- the end with a number -/
theorem oz_iret (X : oz_E p l e R s m args below meth c Q cc nL Ts own D cI cZ ci T N KS ly ad A res G) {kc : Nat} (hQ : Q = vx_MQ below (oz_Qi D cI cZ ci ad ly res A) (oz_XC D cI cZ ci ad ly res A) args s kc (6 * kc) A) (hr : meth.sig.returnType = some .int) {v : Int32} (hk : k ≤ kc) (d : decode cc pc = .ok (.ireturn, 1)) : G k pc L [.int v] st (some (0, v, st)) := by
  obtain ⟨rfl, ⟨hx, hb, hml, hown, hts⟩, hK, hD, hA, hC, hin, -, -, -, -, -, hlk, -⟩ := X
  intro ho H locs ls hP hS hl
  subst hQ
  refine W.widen (k := kc) (n := 6 * kc) hk (by omega) (vx_ret ?_)
  exact W.iret hx hb hr (fun t ht hW => ⟨⟨v, st, rfl, Option.some.inj ho, by unfold oz_B; rw [ht]; exact hP⟩, hS.F ht⟩) hS.2.2 d hlk
theorem oz_zret (X : oz_E p l e R s m args below meth c Q cc nL Ts own D cI cZ ci T N KS ly ad A res G) {kc : Nat} (hQ : Q = vx_MQ below (oz_Qi D cI cZ ci ad ly res A) (oz_XC D cI cZ ci ad ly res A) args s kc (6 * kc) A) (hr : meth.sig.returnType = some .boolean) {v : Int32} (hv : narrow .boolean (.int v) = .int v) (hk : k ≤ kc) (d : decode cc pc = .ok (.ireturn, 1)) : G k pc L [.int v] st (some (0, v, st)) := by
  obtain ⟨rfl, ⟨hx, hb, hml, hown, hts⟩, hK, hD, hA, hC, hin, -, -, -, -, -, hlk, -⟩ := X
  intro ho H locs ls hP hS hl
  subst hQ
  refine W.widen (k := kc) (n := 6 * kc) hk (by omega) (vx_ret ?_)
  exact W.zret hx hb hr hv (fun t ht hW => ⟨⟨v, st, rfl, Option.some.inj ho, by unfold oz_B; rw [ht]; exact hP⟩, hS.F ht⟩) hS.2.2 d hlk
/-- a boolean out of a row: it is 0 or 1, or there is no answer -/
def oz_bit (v : Int32) : Bool := decide (v = 0 ∨ v = 1)
theorem oz_zretG (X : oz_E p l e R s m args below meth c Q cc nL Ts own D cI cZ ci T N KS ly ad A res G) {kc : Nat} (hQ : Q = vx_MQ below (oz_Qi D cI cZ ci ad ly res A) (oz_XC D cI cZ ci ad ly res A) args s kc (6 * kc) A) (hr : meth.sig.returnType = some .boolean) {v : Int32} (hk : k ≤ kc) (d : decode cc pc = .ok (.ireturn, 1)) : G k pc L [.int v] st (gd (oz_bit v) (some (0, v, st))) := by
  by_cases hb : oz_bit v = true
  · rw [gd, if_pos hb]
    refine oz_zret X hQ hr ?_ hk d
    rcases of_decide_eq_true hb with rfl | rfl <;> rfl
  · rw [gd, if_neg hb]
    obtain ⟨rfl, -⟩ := X
    intro ho
    cases ho
theorem oz_vret (X : oz_E p l e R s m args below meth c Q cc nL Ts own D cI cZ ci T N KS ly ad A res G) {kc : Nat} (hQ : Q = vx_MQ below (oz_Qv D cI cZ ci ad ly res A) (oz_XC D cI cZ ci ad ly res A) args s kc (6 * kc) A) (hr : meth.sig.returnType = none) (hk : k ≤ kc) (d : decode cc pc = .ok (.return_, 1)) : G k pc L [] st (some (0, 0, st)) := by
  obtain ⟨rfl, ⟨hx, hb, hml, hown, hts⟩, hK, hD, hA, hC, hin, -, -, -, -, -, hlk, -⟩ := X
  intro ho H locs ls hP hS hl
  subst hQ
  refine W.widen (k := kc) (n := 6 * kc) hk (by omega) (vx_ret ?_)
  exact W.vret hx hb hr (fun t ht hW => ⟨⟨st, rfl, Option.some.inj ho, by unfold oz_B; rw [ht]; exact hP⟩, hS.F ht⟩) hS.2.2 d hlk
/-- no answer: nothing is owed -/
theorem oz_none (X : oz_E p l e R s m args below meth c Q cc nL Ts own D cI cZ ci T N KS ly ad A res G) : G k pc L S st none := by
  obtain ⟨rfl, -⟩ := X
  intro ho
  cases ho

/-- throw new E(text) -/
theorem oz_throw (X : oz_E p l e R s m args below meth c Q cc nL Ts own D cI cZ ci T N KS ly ad A res G) {kc : Nat} {Qc : Array Value → State → Outcome → State → Prop} (hQ : Q = vx_MQ below Qc (oz_XC D cI cZ ci ad ly res A) args s kc (6 * kc) A) (en : Nat) {text : String} {ik is ic : Nat} (he : en ≠ 0) (hstr : (is, text) ∈ KS) (hcls : Bundle.fit (oz_exn en) = true)
    (hk : Cond.classLink own ik (oz_exn en) ∈ Ts) (hini : Cond.initialized (oz_exn en) ∈ Ts) (hin1 : ∀ w ∈ (vx_atS own ic (oz_exn en) oz_names).filter goodWord, w ∈ Ts) (hin2 : ∀ w ∈ (vx_atS own ic (oz_exn en) oz_names).filter (fun w => !goodWord w), w ∈ oz_BX)
    (hgood : ∀ w ∈ Cond.classLink own ik (oz_exn en) :: Cond.initialized (oz_exn en) :: vx_atS own ic (oz_exn en) oz_names, vx_ot w = true)
    (d0 : decode cc pc = .ok (.new ik, 3)) (d3 : decode cc (pc + 3) = .ok (.dup, 1)) (d4 : decode cc (pc + 4) = .ok (.ldc is, 2)) (d6 : decode cc (pc + 6) = .ok (.invokespecial ic, 3)) (d9 : decode cc (pc + 9) = .ok (.athrow, 1))
    (hf : 5 < R.frames) (hl2 : (S.map fun v => v.category).sum + 82 ≤ R.locals) (hkc : k + 1 ≤ kc) (hkR : kc ≤ R.cells) (hkS : 6 * kc ≤ R.slots) : G k pc L S st (some (en, 0, st)) := by
  obtain ⟨rfl, ⟨hx, hb, hml, hown, hts⟩, hK, hD, hA, hC, hin, hKS, hBX, hU, hN, hst, hlk, hex⟩ := X
  intro ho H locs ls hP hS hl
  subst hQ
  obtain ⟨sa, hsa⟩ := hKS _ hstr
  refine vx_throwS (cls := oz_exn en) (text := text) (names := oz_names) (mc := kc) (ms := 6 * kc) (sa := sa) (A := A) hx hb hst hown hcls (by decide +kernel) (hts _ hk) (hts _ hini) hsa (vx_hat (B := oz_BX) (fun w h => hts w (hin1 w h)) hin2 (fun w h => va_Nw.use (oz_BX_on w h) (hBX w h))) hgood hU hN hS (hl.1.trans hml.symm) d0 d3 d4 d6 d9 (fun x h => (hex x h).elim) (by show 2 + 3 < R.frames; omega) (by show _ + (13 * (2 + 1) + 43) ≤ R.locals; omega) (by omega) (by omega) hlk ?_ hS.2.2 (by omega) (by omega)
  intro t hvm hz hq
  refine ⟨(en, st), ⟨Option.some.inj ho, he⟩, ⟨rfl, ?_⟩, Nat.le_trans hS.1 hz, fun q h1 h2 => by rw [hq q (Nat.lt_of_lt_of_le h1 hS.1)]; exact hS.2.1 q h1 h2⟩
  exact fun j q hj => (hP j q hj).kept (hq q.1 (vx_lt hP hj))

theorem oz_callV (X : oz_E p l e R s m args below meth c Q cc nL Ts own D cI cZ ci T N KS ly ad A res G) {kc0 kc : Nat} {Qc : Array Value → State → Outcome → State → Prop} (hQ : Q = vx_MQ below Qc (oz_XC D cI cZ ci ad ly res A) args s kc0 (6 * kc0) A) {y : MethodName} {ws ws' : List Cond} {rm : Room} {bytes : ByteArray} {maxL index n : Nat} {ret : Option FieldType} {As : List Value} {fo : ST → Option Res} {S0 : List Value} {f : Int32 → ST → Option Res}
    (hM : oz_MI l y ws rm D cI cZ own ci KS ad ly kc (.ref (ad 0) :: As) fo) (g : GoodIn Ts (wsV own index own y ws)) (hw : ws = Cond.code y bytes maxL ret :: ws') (hrc : rm.cells = kc) (hrs : rm.slots = 6 * kc) (hd : y.cls = own ∧ y.cls ≠ "java/lang/invoke/MethodHandle" ∧ y.cls ≠ "java/lang/invoke/VarHandle" ∧ (parseMethodDescriptor y.desc).map (fun d => d.parameters.length) = some n) (hR : rm.frames + 1 ≤ R.frames ∧ 8 + (maxL + 11) + rm.locals ≤ R.locals)
    (hn : As.length = n) (hst : S0 = As.reverse ++ .ref (ad 0) :: S) (hW : (S.map fun v => v.category).sum ≤ 8) (d : decode cc pc = .ok (.invokevirtual index, 3)) (hkc : k + kc ≤ kc0) (hkR : kc0 ≤ R.cells) (hkS : 6 * kc0 ≤ R.slots) (kk : ∀ r st2, G (k + kc) (pc + 3) L (.int r :: S) st2 (f r st2)) : G k pc L S0 st (bnd (fo st) f) := by
  have hts := X.hts
  obtain ⟨rfl, ⟨hx, hb, hml, hown, -⟩, hK, hD, hA, hC, hin, hKS, hBX, hUZ, hN, hstt, hlk, hex⟩ := X
  intro ho H locs ls hP hS hl
  subst hQ
  cases hfo : fo st with
  | none => rw [hfo] at ho; cases ho
  | some r0 =>
    obtain ⟨en, v, stv⟩ := r0
    have hAA : ∀ q, va_A (oz_wd ci cI cZ ad ly st) H.size q → A q := fun q h => h.elim (fun ⟨j, e1, hj⟩ => (hD st).2 j _ hj) (fun h => hA q (Nat.le_trans hS.1 h))
    have cw := cwV n hts g hw hrc hrs hd hR
    refine vx_calli (vx_runV (As := As) (rest := S) ⟨hx, hb, hml, hown, hts⟩ (hM H.size st _ hfo) cw ⟨oz_Pre_blind, va_recv hK hP (q0 := 0) hC.1 (oz_wd_obj ci cI cZ ad ly st), fun U hU hW => ?_⟩ rfl hn hl.1 hst (lv_room hW) d ⟨by omega, by omega⟩) hS (fun q _ h => hAA q h) hAA (fun q _ h => hAA q h) (fun E ce q9 u t H1 locs1 ht hvm hp hB hz hkeep hS1 hq9 hcv hcl => ?_) (fun r u t H1 locs1 ht hvm hp hB hz hkeep hS1 => ?_)
    · refine ⟨rfl, by rw [hU], by rw [hU]; exact hP, va_K.moved hW.alike hK, (hD st).weaken (fun _ _ _ _ => trivial), fun q hq => (hKS q hq).elim fun sa h => ⟨sa, vk_R.warm hW h⟩, oz_BX_warm hW hBX, ?_, ?_⟩
      · rw [hU]; exact ((vx_Zq.moved hW.alike hUZ).kept hS.2.1).narrow hAA
      · rw [hU]; exact ((vx_Zq.moved hW.alike hN).kept hS.2.1).narrow hAA
    · obtain ⟨hp1, hp2⟩ := hp
      obtain ⟨hE, hB⟩ := hB
      cases hp1
      rw [hfo] at ho
      have ho2 : some (u.1, (0 : Int32), u.2) = some res := by
        have h9 : bnd (some (u.1, (0 : Int32), u.2)) f = some (u.1, 0, u.2) := by simp [bnd, hp2]
        rw [← ho]; exact h9.symm
      refine vx_outP hown hlk (fun z hz2 => (hex z hz2).elim) hq9 hcv hcl (fun t2 ht2 hvm2 => ?_) hS1.2.2 hkc (by omega)
      refine ⟨u, ⟨Option.some.inj ho2, hp2⟩, ⟨hE, ?_⟩, ?_⟩
      · unfold oz_B at hB ⊢; rw [ht2, ← ht]; exact hB
      · exact hS1.F ht2
    · cases hp
      rw [hfo] at ho
      unfold oz_B at hB
      rw [ht] at hB
      rw [show 6 * k + 6 * kc = 6 * (k + kc) from (Nat.mul_add 6 k kc).symm]
      exact kk v stv (by simpa [bnd] using ho) H1 locs1 ls hB hS1 hl

theorem oz_callVv (X : oz_E p l e R s m args below meth c Q cc nL Ts own D cI cZ ci T N KS ly ad A res G) {kc0 kc : Nat} {Qc : Array Value → State → Outcome → State → Prop} (hQ : Q = vx_MQ below Qc (oz_XC D cI cZ ci ad ly res A) args s kc0 (6 * kc0) A) {y : MethodName} {ws ws' : List Cond} {rm : Room} {bytes : ByteArray} {maxL index n : Nat} {ret : Option FieldType} {As : List Value} {fo : ST → Option Res} {S0 : List Value} {f : Int32 → ST → Option Res}
    (hM : oz_MV l y ws rm D cI cZ own ci KS ad ly kc (.ref (ad 0) :: As) fo) (g : GoodIn Ts (wsV own index own y ws)) (hw : ws = Cond.code y bytes maxL ret :: ws') (hrc : rm.cells = kc) (hrs : rm.slots = 6 * kc) (hd : y.cls = own ∧ y.cls ≠ "java/lang/invoke/MethodHandle" ∧ y.cls ≠ "java/lang/invoke/VarHandle" ∧ (parseMethodDescriptor y.desc).map (fun d => d.parameters.length) = some n) (hR : rm.frames + 1 ≤ R.frames ∧ 8 + (maxL + 11) + rm.locals ≤ R.locals)
    (hn : As.length = n) (hst : S0 = As.reverse ++ .ref (ad 0) :: S) (hW : (S.map fun v => v.category).sum ≤ 8) (d : decode cc pc = .ok (.invokevirtual index, 3)) (hkc : k + kc ≤ kc0) (hkR : kc0 ≤ R.cells) (hkS : 6 * kc0 ≤ R.slots) (kk : ∀ st2, G (k + kc) (pc + 3) L S st2 (f 0 st2)) : G k pc L S0 st (bnd (fo st) f) := by
  have hts := X.hts
  obtain ⟨rfl, ⟨hx, hb, hml, hown, -⟩, hK, hD, hA, hC, hin, hKS, hBX, hUZ, hN, hstt, hlk, hex⟩ := X
  intro ho H locs ls hP hS hl
  subst hQ
  cases hfo : fo st with
  | none => rw [hfo] at ho; cases ho
  | some r0 =>
    obtain ⟨en, v, stv⟩ := r0
    have hAA : ∀ q, va_A (oz_wd ci cI cZ ad ly st) H.size q → A q := fun q h => h.elim (fun ⟨j, e1, hj⟩ => (hD st).2 j _ hj) (fun h => hA q (Nat.le_trans hS.1 h))
    have cw := cwV n hts g hw hrc hrs hd hR
    refine vx_callv (vx_runV (As := As) (rest := S) ⟨hx, hb, hml, hown, hts⟩ (hM H.size st _ hfo) cw ⟨oz_Pre_blind, va_recv hK hP (q0 := 0) hC.1 (oz_wd_obj ci cI cZ ad ly st), fun U hU hW => ?_⟩ rfl hn hl.1 hst (lv_room hW) d ⟨by omega, by omega⟩) hS (fun q _ h => hAA q h) hAA (fun q _ h => hAA q h) (fun E ce q9 u t H1 locs1 ht hvm hp hB hz hkeep hS1 hq9 hcv hcl => ?_) (fun u t H1 locs1 ht hvm hp hB hz hkeep hS1 => ?_)
    · refine ⟨rfl, by rw [hU], by rw [hU]; exact hP, va_K.moved hW.alike hK, (hD st).weaken (fun _ _ _ _ => trivial), fun q hq => (hKS q hq).elim fun sa h => ⟨sa, vk_R.warm hW h⟩, oz_BX_warm hW hBX, ?_, ?_⟩
      · rw [hU]; exact ((vx_Zq.moved hW.alike hUZ).kept hS.2.1).narrow hAA
      · rw [hU]; exact ((vx_Zq.moved hW.alike hN).kept hS.2.1).narrow hAA
    · obtain ⟨hp1, hp2⟩ := hp
      obtain ⟨hE, hB⟩ := hB
      cases hp1
      rw [hfo] at ho
      have ho2 : some (u.1, (0 : Int32), u.2) = some res := by
        have h9 : bnd (some (u.1, (0 : Int32), u.2)) f = some (u.1, 0, u.2) := by simp [bnd, hp2]
        rw [← ho]; exact h9.symm
      refine vx_outP hown hlk (fun z hz2 => (hex z hz2).elim) hq9 hcv hcl (fun t2 ht2 hvm2 => ?_) hS1.2.2 hkc (by omega)
      refine ⟨u, ⟨Option.some.inj ho2, hp2⟩, ⟨hE, ?_⟩, ?_⟩
      · unfold oz_B at hB ⊢; rw [ht2, ← ht]; exact hB
      · exact hS1.F ht2
    · cases hp
      rw [hfo] at ho
      unfold oz_B at hB
      rw [ht] at hB
      rw [show 6 * k + 6 * kc = 6 * (k + kc) from (Nat.mul_add 6 k kc).symm]
      exact kk stv (by simpa [bnd] using ho) H1 locs1 ls hB hS1 hl

theorem oz_callS (X : oz_E p l e R s m args below meth c Q cc nL Ts own D cI cZ ci T N KS ly ad A res G) {kc0 kc : Nat} {Qc : Array Value → State → Outcome → State → Prop} (hQ : Q = vx_MQ below Qc (oz_XC D cI cZ ci ad ly res A) args s kc0 (6 * kc0) A) {y : MethodName} {ws ws' : List Cond} {rm : Room} {bytes : ByteArray} {maxL index n : Nat} {ret : Option FieldType} {As : List Value} {fo : ST → Option Res} {S0 : List Value} {f : Int32 → ST → Option Res}
    (hM : oz_MI l y ws rm D cI cZ own ci KS ad ly kc As fo) (g : GoodIn Ts (va_wsS own index y ws)) (hw : ws = Cond.code y bytes maxL ret :: ws') (hrc : rm.cells = kc) (hrs : rm.slots = 6 * kc) (hd : y.cls ≠ "java/lang/invoke/MethodHandle" ∧ y.cls ≠ "java/lang/invoke/VarHandle" ∧ (parseMethodDescriptor y.desc).map (fun d => d.parameters.length) = some n) (hR : rm.frames + 1 ≤ R.frames ∧ 8 + (maxL + 11) + rm.locals ≤ R.locals)
    (hn : As.length = n) (hst : S0 = As.reverse ++ S) (hW : (S.map fun v => v.category).sum ≤ 8) (d : decode cc pc = .ok (.invokestatic index, 3)) (hkc : k + kc ≤ kc0) (hkR : kc0 ≤ R.cells) (hkS : 6 * kc0 ≤ R.slots) (kk : ∀ r st2, G (k + kc) (pc + 3) L (.int r :: S) st2 (f r st2)) : G k pc L S0 st (bnd (fo st) f) := by
  have hts := X.hts
  obtain ⟨rfl, ⟨hx, hb, hml, hown, -⟩, hK, hD, hA, hC, hin, hKS, hBX, hUZ, hN, hstt, hlk, hex⟩ := X
  intro ho H locs ls hP hS hl
  subst hQ
  cases hfo : fo st with
  | none => rw [hfo] at ho; cases ho
  | some r0 =>
    obtain ⟨en, v, stv⟩ := r0
    have hAA : ∀ q, va_A (oz_wd ci cI cZ ad ly st) H.size q → A q := fun q h => h.elim (fun ⟨j, e1, hj⟩ => (hD st).2 j _ hj) (fun h => hA q (Nat.le_trans hS.1 h))
    have cw := va_cwS n hts g hw hrc hrs hd hR
    refine vx_calli (vx_runS (As := As) (rest := S) ⟨hx, hb, hml, hown, hts⟩ (hM H.size st _ hfo) cw ⟨oz_Pre_blind, fun U hU hW => ?_⟩ rfl hn hl.1 hst (lv_room hW) d ⟨by omega, by omega⟩) hS (fun q _ h => hAA q h) hAA (fun q _ h => hAA q h) (fun E ce q9 u t H1 locs1 ht hvm hp hB hz hkeep hS1 hq9 hcv hcl => ?_) (fun r u t H1 locs1 ht hvm hp hB hz hkeep hS1 => ?_)
    · refine ⟨rfl, by rw [hU], by rw [hU]; exact hP, va_K.moved hW.alike hK, (hD st).weaken (fun _ _ _ _ => trivial), fun q hq => (hKS q hq).elim fun sa h => ⟨sa, vk_R.warm hW h⟩, oz_BX_warm hW hBX, ?_, ?_⟩
      · rw [hU]; exact ((vx_Zq.moved hW.alike hUZ).kept hS.2.1).narrow hAA
      · rw [hU]; exact ((vx_Zq.moved hW.alike hN).kept hS.2.1).narrow hAA
    · obtain ⟨hp1, hp2⟩ := hp
      obtain ⟨hE, hB⟩ := hB
      cases hp1
      rw [hfo] at ho
      have ho2 : some (u.1, (0 : Int32), u.2) = some res := by
        have h9 : bnd (some (u.1, (0 : Int32), u.2)) f = some (u.1, 0, u.2) := by simp [bnd, hp2]
        rw [← ho]; exact h9.symm
      refine vx_outP hown hlk (fun z hz2 => (hex z hz2).elim) hq9 hcv hcl (fun t2 ht2 hvm2 => ?_) hS1.2.2 hkc (by omega)
      refine ⟨u, ⟨Option.some.inj ho2, hp2⟩, ⟨hE, ?_⟩, ?_⟩
      · unfold oz_B at hB ⊢; rw [ht2, ← ht]; exact hB
      · exact hS1.F ht2
    · cases hp
      rw [hfo] at ho
      unfold oz_B at hB
      rw [ht] at hB
      rw [show 6 * k + 6 * kc = 6 * (k + kc) from (Nat.mul_add 6 k kc).symm]
      exact kk v stv (by simpa [bnd] using ho) H1 locs1 ls hB hS1 hl

/-- Math.abs -/
theorem oz_abs (X : oz_E p l e R s m args below meth c Q cc nL Ts own D cI cZ ci T N KS ly ad A res G) {index : Nat} {x : Int32} (hlink : Cond.methodLink own index Lib.Math.abs.name ∈ Ts) (hstat : Cond.static Lib.Math.abs.name ∈ Ts) (hini : Cond.initialized "java/lang/Math" ∈ Ts) (hcode : Cond.code Lib.Math.abs.name Lib.Math.abs.code 1 (some .int) ∈ Ts) (hf : 1 ≤ R.frames) (hlc : (S.map fun v => v.category).sum + 13 ≤ R.locals) (hc : k ≤ R.cells) (hs : 6 * k ≤ R.slots) (d : decode cc pc = .ok (.invokestatic index, 3)) (kk : G k (pc + 3) L (.int (if 0 ≤ x then x else 0 - x) :: S) st o) : G k pc L (.int x :: S) st o := by
  obtain ⟨rfl, ⟨hx, hb, hml, hown, hts⟩, -⟩ := X
  intro ho H locs ls hP hS hl
  exact va_mabs hx hb (hml.trans hl.1.symm) hown (hts _ hlink) (hts _ hstat) (hts _ hini) (hts _ hcode) hf hlc hc hs d (kk ho H locs ls hP hS hl)

end OZ
/-- a contract out of a road from the entry -/
theorem oz_ofI {l : Launch} {y : MethodName} {ws ws' : List Cond} {rm : Room} {D : va_G} {cI cZ : ClassId} {own : String} {ci : Nat} {T : u_T} {N : Nat} {KS : KSt} {ad : Nat → Nat} {ly : LY} {kc : Nat} {av : List Value} {o : ST → Option Res} {bytes : ByteArray} {maxL : Nat} {ret : Option FieldType} (hy : plainName y.cls = true) (hw : ws = Cond.code y bytes maxL ret :: ws') (hcls : y.cls = own) (hC : oz_C own ci T N ly) (hin : ∀ w ∈ u_ws own T N, w ∈ ws) (hst : l.stackTraces = false) (hlen : (lg_sl av).length ≤ maxL)
    (body : ∀ (p : Program) (e : Env) (s : State) (m : MethodId) (below : List Frame) (meth : Method) (c : Code) (st : ST) (A : Nat → Prop) (res : Res) (G : Nat → Nat → List (Nat × Value) → List Value → ST → Option Res → Prop), meth.sig.returnType = ret →
      oz_E p l e rm s m av.toArray below meth c (vx_MQ below (oz_Qi D cI cZ ci ad ly res A) (oz_XC D cI cZ ci ad ly res A) av.toArray s kc (6 * kc) A) bytes maxL ws own D cI cZ ci T N KS ly ad A res G → G 0 0 (lv_args 0 av) [] st (o st)) : oz_MI l y ws rm D cI cZ own ci KS ad ly kc av o := by
  intro sz st res ho
  refine vx_ofW (cc := bytes) (maxL := maxL) (ret := ret) hy hw ?_
  intro p e s m args below meth c s₁ B hml hex hv
  obtain ⟨rfl, hsz, hP, hK, hD0, hKS, hBX, hU, hN⟩ := hv
  have hx := B.exec
  have hb := B.bytes
  have hr := B.returns
  have hts := atoms_spec (ws := ws) B.pre
  have hown : s.vm.findClass own = some m.cls := by rw [← hcls]; exact findClass_of_methodNamed B.named
  subst hsz
  generalize hAe : va_A (oz_wd ci cI cZ ad ly st) s.heap.size = A at hU hN ⊢
  have hD : ∀ st2, va_D A (oz_wd ci cI cZ ad ly st2) := fun st2 => by
    rw [← hAe]
    exact oz_D_cong (oz_wd_fst ci cI cZ ad ly st st2) (hD0.self (sz := s.heap.size))
  have hA : ∀ q : Nat, s.heap.size ≤ q → A q := fun q h => by rw [← hAe]; exact Or.inr h
  have hl := lv_entry av (n := maxL) hlen
  rw [lg_entry_eq]
  generalize (lg_sl av ++ List.replicate (maxL - (lg_sl av).length) Slot.unset).toArray = ls at hl ⊢
  exact body p e s m below meth c st A res _ hr ⟨rfl, ⟨hx, hb, hml, hown, hts⟩, hK, hD, hA, hC, hin, hKS, hBX, hU, hN, hst, B.notSynchronized, hex⟩ ho s.heap [] ls hP va_S.rf hl

/-- a contract out of a road from the entry -/
theorem oz_ofV {l : Launch} {y : MethodName} {ws ws' : List Cond} {rm : Room} {D : va_G} {cI cZ : ClassId} {own : String} {ci : Nat} {T : u_T} {N : Nat} {KS : KSt} {ad : Nat → Nat} {ly : LY} {kc : Nat} {av : List Value} {o : ST → Option Res} {bytes : ByteArray} {maxL : Nat} {ret : Option FieldType} (hy : plainName y.cls = true) (hw : ws = Cond.code y bytes maxL ret :: ws') (hcls : y.cls = own) (hC : oz_C own ci T N ly) (hin : ∀ w ∈ u_ws own T N, w ∈ ws) (hst : l.stackTraces = false) (hlen : (lg_sl av).length ≤ maxL)
    (body : ∀ (p : Program) (e : Env) (s : State) (m : MethodId) (below : List Frame) (meth : Method) (c : Code) (st : ST) (A : Nat → Prop) (res : Res) (G : Nat → Nat → List (Nat × Value) → List Value → ST → Option Res → Prop), meth.sig.returnType = ret →
      oz_E p l e rm s m av.toArray below meth c (vx_MQ below (oz_Qv D cI cZ ci ad ly res A) (oz_XC D cI cZ ci ad ly res A) av.toArray s kc (6 * kc) A) bytes maxL ws own D cI cZ ci T N KS ly ad A res G → G 0 0 (lv_args 0 av) [] st (o st)) : oz_MV l y ws rm D cI cZ own ci KS ad ly kc av o := by
  intro sz st res ho
  refine vx_ofW (cc := bytes) (maxL := maxL) (ret := ret) hy hw ?_
  intro p e s m args below meth c s₁ B hml hex hv
  obtain ⟨rfl, hsz, hP, hK, hD0, hKS, hBX, hU, hN⟩ := hv
  have hx := B.exec
  have hb := B.bytes
  have hr := B.returns
  have hts := atoms_spec (ws := ws) B.pre
  have hown : s.vm.findClass own = some m.cls := by rw [← hcls]; exact findClass_of_methodNamed B.named
  subst hsz
  generalize hAe : va_A (oz_wd ci cI cZ ad ly st) s.heap.size = A at hU hN ⊢
  have hD : ∀ st2, va_D A (oz_wd ci cI cZ ad ly st2) := fun st2 => by
    rw [← hAe]
    exact oz_D_cong (oz_wd_fst ci cI cZ ad ly st st2) (hD0.self (sz := s.heap.size))
  have hA : ∀ q : Nat, s.heap.size ≤ q → A q := fun q h => by rw [← hAe]; exact Or.inr h
  have hl := lv_entry av (n := maxL) hlen
  rw [lg_entry_eq]
  generalize (lg_sl av ++ List.replicate (maxL - (lg_sl av).length) Slot.unset).toArray = ls at hl ⊢
  exact body p e s m below meth c st A res _ hr ⟨rfl, ⟨hx, hb, hml, hown, hts⟩, hK, hD, hA, hC, hin, hKS, hBX, hU, hN, hst, B.notSynchronized, hex⟩ ho s.heap [] ls hP va_S.rf hl
end
